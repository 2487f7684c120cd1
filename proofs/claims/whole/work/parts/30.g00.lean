/- yX11_account -/
def zx_185 (Z : qz_Z) (a1 : Int) : qz_Z × Int × Int := (if 0 ≤ a1 ∧ a1 ≤ 9 then (Z, (Z 14 0 0 a1), 0) else (Z, 0, 13))
theorem sx_185 {M : Nat} {Z : qz_Z} {ν : qz_N} (hZ : zH ((none, M) : zSM) Z) (hM : ((none, M) : zSM).2 + 0 ≤ 1000000000) {a1 : Int} (ga1 : -2147483648 ≤ a1 ∧ a1 ≤ 2147483647) : ∃ (Z1 : qz_Z) (ν1 : qz_N) (v E : Int), (Z1, v, E) = zx_185 Z a1 ∧ qf_185 [.inr (.inr (some (0, 0, 0))), .inl (i3 a1)] (zm Z ν) = some (zm Z1 ν1, zoX v E) ∧ (fun Z1 ν1 => zH ((none, M) : zSM) Z1 ∧ zC [] Z Z1 ∧ zU [] Z Z1 ∧ zG 1 6 ν ν1) Z1 ν1 := by
  obtain ⟨P, hP⟩ := zx (zx_185 Z a1)
  refine zc_G (Q := fun Z1 ν1 => zH ((none, M) : zSM) Z1 ∧ zC [] Z Z1 ∧ zU [] Z Z1 ∧ zG 1 6 ν ν1) hP (fw_185 (i3 a1) _ _ ?_)
  replace hP : zE P (zx_185 Z a1) := hP
  unfold zx_185 at hP
  refine wz_inR (rfl : i3 a1 = i3 a1) (show (0 : Int32) = i3 0 from rfl) (show (9 : Int32) = i3 9 from rfl) (by omega) (by omega) (by omega) (by omega) (by omega) (by omega) (fun h1 => ?_) (fun h1 => ?_)
  · replace hP := zE_p hP h1
    refine wz_i0 (i3O (n := 10) (rfl : i3 a1 = i3 a1) (by omega) (by omega) (by omega)) ?_
    have r2 := zH_f hZ 14 0 0 a1
    exact zlG hP (zm_rd (Z := Z) (ν := ν) (k := 14) (show ((0 : Nat) : Int) = 0 from rfl) (show ((0 : Nat) : Int) = 0 from rfl) (i3I (y := a1) (rfl : i3 a1 = i3 a1) (by omega) (by omega) (by omega))) ⟨hZ, zC_r, zU_r, zG_w zG_r (Nat.le_of_ble_eq_true rfl) (Nat.le_of_ble_eq_true rfl)⟩
  · replace hP := zE_n hP h1
    exact zlGe (E := 12) hP ⟨hZ, zC_r, zU_r, zG_w (zG_k rfl) (Nat.le_of_ble_eq_true rfl) (Nat.le_of_ble_eq_true rfl)⟩
/- yX11_again -/
def zx_186 (Z : qz_Z) (a1 : Int) : qz_Z × Int × Int := (if 0 ≤ a1 ∧ a1 ≤ 1 then (if (Z 65 0 0 a1) ≠ 0 then (zlet (zcp Z (10 + a1) 0) (fun Z4 => (zlet (zu Z4 3 0 0 8 0) (fun Z5 => (Z5, (Z5 11 0 0 15), 0))))) else (Z, 0, 15)) else (Z, 0, 13))
theorem sx_186 {M : Nat} {Z : qz_Z} {ν : qz_N} (hZ : zH ((none, M) : zSM) Z) (hM : ((none, M) : zSM).2 + 0 ≤ 1000000000) {a1 : Int} (ga1 : -2147483648 ≤ a1 ∧ a1 ≤ 2147483647) : ∃ (Z1 : qz_Z) (ν1 : qz_N) (v E : Int), (Z1, v, E) = zx_186 Z a1 ∧ qf_186 [.inr (.inr (some (0, 0, 0))), .inl (i3 a1)] (zm Z ν) = some (zm Z1 ν1, zoX v E) ∧ (fun Z1 ν1 => zH ((none, M) : zSM) Z1 ∧ zC [3, 12, 13, 14, 40, 41, 42, 43, 44, 45, 46, 47, 48, 49, 50, 51, 52, 53, 54, 1099, 1100, 1101, 1102, 1103, 1104, 1105, 1106, 1107, 1108, 1109, 1110, 1111, 1112, 1113, 1114, 1115, 1116] Z Z1 ∧ zU [0] Z Z1 ∧ zG 1 6 ν ν1) Z1 ν1 := by
  obtain ⟨P, hP⟩ := zx (zx_186 Z a1)
  refine zc_G (Q := fun Z1 ν1 => zH ((none, M) : zSM) Z1 ∧ zC [3, 12, 13, 14, 40, 41, 42, 43, 44, 45, 46, 47, 48, 49, 50, 51, 52, 53, 54, 1099, 1100, 1101, 1102, 1103, 1104, 1105, 1106, 1107, 1108, 1109, 1110, 1111, 1112, 1113, 1114, 1115, 1116] Z Z1 ∧ zU [0] Z Z1 ∧ zG 1 6 ν ν1) hP (fw_186 (i3 a1) _ _ ?_)
  replace hP : zE P (zx_186 Z a1) := hP
  unfold zx_186 at hP
  refine wz_inR (rfl : i3 a1 = i3 a1) (show (0 : Int32) = i3 0 from rfl) (show (1 : Int32) = i3 1 from rfl) (by omega) (by omega) (by omega) (by omega) (by omega) (by omega) (fun h1 => ?_) (fun h1 => ?_)
  · replace hP := zE_p hP h1
    refine wz_i0 (i3O (n := 2) (rfl : i3 a1 = i3 a1) (by omega) (by omega) (by omega)) ?_
    have r2 := zH_f hZ 65 0 0 a1
    refine wz_inT (zm_rd (Z := Z) (ν := ν) (k := 65) (show ((0 : Nat) : Int) = 0 from rfl) (show ((0 : Nat) : Int) = 0 from rfl) (i3I (y := a1) (rfl : i3 a1 = i3 a1) (by omega) (by omega) (by omega))) (by omega) (by omega) (fun h3 => ?_) (fun h3 => ?_)
    · replace hP := zE_p hP h3
      refine wz_i0 (i3O (n := 2) (rfl : i3 a1 = i3 a1) (by omega) (by omega) (by omega)) ?_
      obtain ⟨Z4, hZ4, c9, hZ4I, kZ4, gZ4⟩ := zH_cpe (ν := ν) hZ (zn_add (n := 10) (i3I (y := a1) (rfl : i3 a1 = i3 a1) (by omega) (by omega) (by omega))) (show ((0 : Nat) : Int) = 0 from rfl) (by omega)
      have fZ4 : zC [12, 13, 14, 40, 41, 42, 43, 44, 45, 46, 47, 48, 49, 50, 51, 52, 53, 54, 1099, 1100, 1101, 1102, 1103, 1104, 1105, 1106, 1107, 1108, 1109, 1110, 1111, 1112, 1113, 1114, 1115, 1116] Z Z4 := zC_k kZ4 (by decide) (by decide)
      have aZ4 : ∀ {k : Nat} {i j : Int}, zhk k i j = true → Z4 k 0 i j = Z k (10 + a1) i j := fun hk => zcp_at hZ4 hk
      have hZ4K : zC [3, 12, 13, 14, 40, 41, 42, 43, 44, 45, 46, 47, 48, 49, 50, 51, 52, 53, 54, 1099, 1100, 1101, 1102, 1103, 1104, 1105, 1106, 1107, 1108, 1109, 1110, 1111, 1112, 1113, 1114, 1115, 1116] Z Z4 := zC_t zC_r fZ4 (by decide)
      have jZ4 : zU [0] Z Z4 := zU_cp hZ4
      have hZ4U : zU [0] Z Z4 := zU_t zU_r jZ4 (zU_b1 (List.Mem.head _) zU_b0)
      replace hP := zl_e hP hZ4
      refine wz_cV_of c9 ?_
      clear c9
      obtain ⟨Z5, hZ5⟩ := zx (zu Z4 3 0 0 8 0)
      replace hP := zl_e hP hZ5
      have hZ5I := zH_0 hZ4I hZ5 (by decide) (Or.inl (by decide))
      have hZ5U : zU [0] Z Z5 := zU_u hZ4U hZ5 (Or.inl rfl)
      have hZ5K : zC [3, 12, 13, 14, 40, 41, 42, 43, 44, 45, 46, 47, 48, 49, 50, 51, 52, 53, 54, 1099, 1100, 1101, 1102, 1103, 1104, 1105, 1106, 1107, 1108, 1109, 1110, 1111, 1112, 1113, 1114, 1115, 1116] Z Z5 := zC_u hZ4K hZ5 (by decide)
      intro μ9 e9
      replace e9 := e9.trans (zm_wI (Z := Z4) (ν := ν) hZ5 (show ((0 : Nat) : Int) = 0 from rfl) (show ((0 : Nat) : Int) = 0 from rfl) (show ((8 : Nat) : Int) = 8 from rfl) (show (0 : Int32) = i3 0 from rfl))
      subst e9
      have r6 := zH_f hZ5I 11 0 0 15
      exact zlG hP (zm_rd (Z := Z5) (ν := ν) (k := 11) (show ((0 : Nat) : Int) = 0 from rfl) (show ((0 : Nat) : Int) = 0 from rfl) (show ((15 : Nat) : Int) = 15 from rfl)) ⟨hZ5I, hZ5K, hZ5U, zG_w zG_r (Nat.le_of_ble_eq_true rfl) (Nat.le_of_ble_eq_true rfl)⟩
    · replace hP := zE_n hP h3
      exact zlGe (E := 14) hP ⟨hZ, zC_r, zU_r, zG_w (zG_k rfl) (Nat.le_of_ble_eq_true rfl) (Nat.le_of_ble_eq_true rfl)⟩
  · replace hP := zE_n hP h1
    exact zlGe (E := 12) hP ⟨hZ, zC_r, zU_r, zG_w (zG_k rfl) (Nat.le_of_ble_eq_true rfl) (Nat.le_of_ble_eq_true rfl)⟩
/- yX10_comeTo -/
def zl_164_1 (x0b : Int) (x1 : Int) (x2 : Int) : Nat → qz_Z → Int → Int → Int × Int
  | 0, Z, x3, x4 => (x3, x4)
  | m + 1, Z, x3, x4 => (if x2 < x4 then (x3, x4) else (if ((Z 200 x0b 0 x4) - 1) ≠ x1 then zl_164_1 x0b x1 x2 m Z x3 (x4 + 1) else zl_164_1 x0b x1 x2 m Z (x3 + 1) (x4 + 1)))
theorem sl_164_1 {s : zSM} {Z : qz_Z} {ν : qz_N} (hZ : zH s Z) (hM : s.2 + 0 ≤ 1000000000) (x0b : Nat) (hSx0 : zSh ν x0b 50 3) (gAx0 : zA (0) 6 x0b Z) {x1 : Int} (gx1 : 0 ≤ x1 ∧ x1 ≤ 5) {x2 : Int} (gx2 : 0 ≤ x2 ∧ x2 ≤ 2) {x3 : Int} (gx3 : 0 ≤ x3 ∧ x3 ≤ 3) {x4 : Int} (gx4 : 0 ≤ x4 ∧ x4 ≤ 3) (gr0 : x3 ≤ x4) {k : wz_K} {R : wz_R} {L : qz_L} (hL : qz_fg [true, true, true, true, true] L = [some (.inr (.inr (some (200, x0b, 0)))), some (.inl (i3 x1)), some (.inl (i3 x2)), some (.inl (i3 x3)), some (.inl (i3 x4))]) {T : Int × Int} (hP : zE T (zl_164_1 x0b x1 x2 ((3 - x4).toNat + 1) Z x3 x4)) (hk : ∀ (L9 : qz_L) (yx3 yx4 : Int), qz_fg [false, false, false, true, false] L9 = [none, none, none, some (.inl (i3 yx3)), none] → (0 ≤ yx3 ∧ yx3 ≤ 3) → (0 ≤ yx4 ∧ yx4 ≤ 3) → (yx3 ≤ yx4) → zE T ((yx3, yx4)) → k 0 (L9, [], zm Z ν)) : wz_loop qb_164_1 65536 k R (L, [], zm Z ν) := by
  refine wz_lp sb_164_1 (fun m x => ∃ x3 : Int, ∃ x4 : Int, qz_fg [true, true, true, true, true] x.1 = [some (.inr (.inr (some (200, x0b, 0)))), some (.inl (i3 x1)), some (.inl (i3 x2)), some (.inl (i3 x3)), some (.inl (i3 x4))] ∧ x.2 = ([], zm Z ν) ∧ m = (3 - x4).toNat ∧ (0 ≤ x3 ∧ x3 ≤ 3) ∧ (0 ≤ x4 ∧ x4 ≤ 3) ∧ (x3 ≤ x4) ∧ zE T (zl_164_1 x0b x1 x2 (m + 1) Z x3 x4)) ?_ 65536 ((3 - x4).toNat) _ (by omega) ⟨x3, x4, hL, rfl, rfl, gx3, gx4, gr0, hP⟩
  clear hP gr0 gx3 gx4 hL
  clear x3 x4
  rintro m ⟨L, st, μ⟩ ⟨x3, x4, hL, hx, hm, gx3, gx4, gr0, hP⟩
  cases hx
  refine fb_164_1 (200, x0b, 0) (i3 x1) (i3 x2) (i3 x3) (i3 x4) _ _ _ _ hL ?_
  refine wz_br (i3L (rfl : i3 x2 = i3 x2) (rfl : i3 x4 = i3 x4) (by omega) (by omega) (by omega) (by omega)) (fun h1 => ?_) (fun h1 => ?_)
  · replace hP := zE_p hP h1
    exact hk _ _ _ (zconso rfl (zconso rfl (zconso rfl (zconso (zvo (rfl : i3 x3 = i3 x3)) (zconso rfl rfl)))))  (by omega) (by omega) (by omega) hP
  · replace hP := zE_n hP h1
    refine wz_i1 (by rw [zSh_t hSx0]; rfl) ?_
    refine wz_i0 (by rw [zSh_l hSx0]; exact i3O (n := 3) (rfl : i3 x4 = i3 x4) (by omega) (by omega) (by omega)) ?_
    have r2 := gAx0 x4
    refine wz_br (i3NE (i3S (zm_rd (Z := Z) (ν := ν) (k := 200) (rfl : ((x0b : Nat) : Int) = x0b) (show ((0 : Nat) : Int) = 0 from rfl) (i3I (y := x4) (rfl : i3 x4 = i3 x4) (by omega) (by omega) (by omega))) (show (1 : Int32) = i3 1 from rfl)) (rfl : i3 x1 = i3 x1) (by omega) (by omega) (by omega) (by omega)) (fun h3 => ?_) (fun h3 => ?_)
    · replace hP := zE_p hP h3
      obtain ⟨m2, rfl⟩ : ∃ m2, m = m2 + 1 := ⟨m - 1, by omega⟩
      exact wz_k1 ⟨m2, by omega, x3, (x4 + 1), (zconso rfl (zconso (zvo (rfl : i3 x1 = i3 x1)) (zconso (zvo (rfl : i3 x2 = i3 x2)) (zconso (zvo (rfl : i3 x3 = i3 x3)) (zconso (zvo (i3A (rfl : i3 x4 = i3 x4) (show (1 : Int32) = i3 1 from rfl))) rfl))))), rfl,  by omega, by omega, by omega, by omega,  hP⟩
    · replace hP := zE_n hP h3
      obtain ⟨m2, rfl⟩ : ∃ m2, m = m2 + 1 := ⟨m - 1, by omega⟩
      exact wz_k1 ⟨m2, by omega, (x3 + 1), (x4 + 1), (zconso rfl (zconso (zvo (rfl : i3 x1 = i3 x1)) (zconso (zvo (rfl : i3 x2 = i3 x2)) (zconso (zvo (i3A (rfl : i3 x3 = i3 x3) (show (1 : Int32) = i3 1 from rfl))) (zconso (zvo (i3A (rfl : i3 x4 = i3 x4) (show (1 : Int32) = i3 1 from rfl))) rfl))))), rfl,  by omega, by omega, by omega, by omega,  hP⟩
/- yX10_comeTo -/
def zf_164 (Z : qz_Z) (a0b : Int) (a1 : Int) (a2 : Int) : Int := (zlet2 (zl_164_1 a0b a1 a2 4 Z 0 0) (fun y1 y2 => y1))
theorem sp_164 {s : zSM} {Z : qz_Z} {ν : qz_N} (hZ : zH s Z) (a0b : Nat) (hSa0 : zSh ν a0b 50 3) (gAa0 : zA (0) 6 a0b Z) {a1 : Int} (ga1 : 0 ≤ a1 ∧ a1 ≤ 5) {a2 : Int} (ga2 : 0 ≤ a2 ∧ a2 ≤ 2) (hM : s.2 + 0 ≤ 1000000000) : ∃ P : Int, P = zf_164 Z a0b a1 a2 ∧ (qf_164 [.inr (.inr (some (200, a0b, 0))), .inl (i3 a1), .inl (i3 a2)] (zm Z ν) = some (zm Z ν, .inl (some (.inl (i3 P)))) ∧ 0 ≤ P ∧ P ≤ 3) := by
  obtain ⟨P, hP⟩ := zx (zf_164 Z a0b a1 a2)
  refine zc_R (Q := fun P => 0 ≤ P ∧ P ≤ 3) hP (fw_164 (200, a0b, 0) (i3 a1) (i3 a2) _ _ ?_)
  replace hP : zE P (zf_164 Z a0b a1 a2) := hP
  unfold zf_164 at hP
  refine sl_164_1 (ν := ν) hZ (zbh (c := 0) (k := 0) hM (Nat.le_of_ble_eq_true rfl)) a0b hSa0 gAa0 (x1 := a1) (by omega) (x2 := a2) (by omega) (x3 := 0) (by omega) (x4 := 0) (by omega) (by omega) (zconso rfl (zconso (zvo (rfl : i3 a1 = i3 a1)) (zconso (zvo (rfl : i3 a2 = i3 a2)) (zconso (zvo (show (0 : Int32) = i3 0 from rfl)) (zconso (zvo (show (0 : Int32) = i3 0 from rfl)) rfl))))) rfl ?_
  intro L3 y1 y2 hL3 gy1 gy2 gL3_0 q9
  replace hP := zl_e2 hP (Eq.symm q9)
  clear q9
  refine fc_164_2 (i3 y1) _ _ _ _ hL3 ?_
  exact zlR hP (rfl : i3 y1 = i3 y1) ⟨by omega, by omega⟩
/- yX10_standing -/
def zl_182_1 (x0b : Int) (x1 : Int) : Nat → qz_Z → Int → Int → Int × Int
  | 0, Z, x2, x3 => (x2, x3)
  | m + 1, Z, x2, x3 => (if (Z 11 x0b 0 3) ≤ x3 then (x2, x3) else (if (Z 44 x0b x3 12) ≠ x1 then zl_182_1 x0b x1 m Z x2 (x3 + 1) else zl_182_1 x0b x1 m Z (x2 + 1) (x3 + 1)))
theorem sl_182_1 {s : zSM} {Z : qz_Z} {ν : qz_N} (hZ : zH s Z) (hM : s.2 + 0 ≤ 1000000000) (x0b : Nat) {x1 : Int} (gx1 : 0 ≤ x1 ∧ x1 ≤ 6) {x2 : Int} (gx2 : 0 ≤ x2 ∧ x2 ≤ 48) {x3 : Int} (gx3 : 0 ≤ x3 ∧ x3 ≤ 48) (gr0 : x2 ≤ x3) {k : wz_K} {R : wz_R} {L : qz_L} (hL : qz_fg [true, true, true, true] L = [some (.inr (.inr (some (10, x0b, 0)))), some (.inl (i3 x1)), some (.inl (i3 x2)), some (.inl (i3 x3))]) {T : Int × Int} (hP : zE T (zl_182_1 x0b x1 ((48 - x3).toNat + 1) Z x2 x3)) (hk : ∀ (L9 : qz_L) (yx2 yx3 : Int), qz_fg [false, false, true, false] L9 = [none, none, some (.inl (i3 yx2)), none] → (0 ≤ yx2 ∧ yx2 ≤ 48) → (0 ≤ yx3 ∧ yx3 ≤ 48) → (yx2 ≤ yx3) → zE T ((yx2, yx3)) → k 0 (L9, [], zm Z ν)) : wz_loop qb_182_1 65536 k R (L, [], zm Z ν) := by
  refine wz_lp sb_182_1 (fun m x => ∃ x2 : Int, ∃ x3 : Int, qz_fg [true, true, true, true] x.1 = [some (.inr (.inr (some (10, x0b, 0)))), some (.inl (i3 x1)), some (.inl (i3 x2)), some (.inl (i3 x3))] ∧ x.2 = ([], zm Z ν) ∧ m = (48 - x3).toNat ∧ (0 ≤ x2 ∧ x2 ≤ 48) ∧ (0 ≤ x3 ∧ x3 ≤ 48) ∧ (x2 ≤ x3) ∧ zE T (zl_182_1 x0b x1 (m + 1) Z x2 x3)) ?_ 65536 ((48 - x3).toNat) _ (by omega) ⟨x2, x3, hL, rfl, rfl, gx2, gx3, gr0, hP⟩
  clear hP gr0 gx2 gx3 hL
  clear x2 x3
  rintro m ⟨L, st, μ⟩ ⟨x2, x3, hL, hx, hm, gx2, gx3, gr0, hP⟩
  cases hx
  refine fb_182_1 x0b (i3 x1) (i3 x2) (i3 x3) _ _ _ _ hL ?_
  have r1 := zH_k hZ 11 x0b 0 3 (lo := 0) (hi := 48) (by decide) rfl
  refine wz_br (i3Le (zm_rd (Z := Z) (ν := ν) (k := 11) (rfl : ((x0b : Nat) : Int) = x0b) (show ((0 : Nat) : Int) = 0 from rfl) (show ((3 : Nat) : Int) = 3 from rfl)) (rfl : i3 x3 = i3 x3) (by omega) (by omega) (by omega) (by omega)) (fun h2 => ?_) (fun h2 => ?_)
  · replace hP := zE_p hP h2
    exact hk _ _ _ (zconso rfl (zconso rfl (zconso (zvo (rfl : i3 x2 = i3 x2)) (zconso rfl rfl))))  (by omega) (by omega) (by omega) hP
  · replace hP := zE_n hP h2
    refine wz_i0 (i3O (n := 48) (rfl : i3 x3 = i3 x3) (by omega) (by omega) (by omega)) ?_
    have r3 := zH_k hZ 44 x0b x3 12 (lo := -1) (hi := 6) (by decide) rfl
    refine wz_br (i3NE (zm_rd (Z := Z) (ν := ν) (k := 44) (rfl : ((x0b : Nat) : Int) = x0b) (i3I (y := x3) (rfl : i3 x3 = i3 x3) (by omega) (by omega) (by omega)) (show ((12 : Nat) : Int) = 12 from rfl)) (rfl : i3 x1 = i3 x1) (by omega) (by omega) (by omega) (by omega)) (fun h4 => ?_) (fun h4 => ?_)
    · replace hP := zE_p hP h4
      obtain ⟨m2, rfl⟩ : ∃ m2, m = m2 + 1 := ⟨m - 1, by omega⟩
      exact wz_k1 ⟨m2, by omega, x2, (x3 + 1), (zconso rfl (zconso (zvo (rfl : i3 x1 = i3 x1)) (zconso (zvo (rfl : i3 x2 = i3 x2)) (zconso (zvo (i3A (rfl : i3 x3 = i3 x3) (show (1 : Int32) = i3 1 from rfl))) rfl)))), rfl,  by omega, by omega, by omega, by omega,  hP⟩
    · replace hP := zE_n hP h4
      obtain ⟨m2, rfl⟩ : ∃ m2, m = m2 + 1 := ⟨m - 1, by omega⟩
      exact wz_k1 ⟨m2, by omega, (x2 + 1), (x3 + 1), (zconso rfl (zconso (zvo (rfl : i3 x1 = i3 x1)) (zconso (zvo (i3A (rfl : i3 x2 = i3 x2) (show (1 : Int32) = i3 1 from rfl))) (zconso (zvo (i3A (rfl : i3 x3 = i3 x3) (show (1 : Int32) = i3 1 from rfl))) rfl)))), rfl,  by omega, by omega, by omega, by omega,  hP⟩
/- yX10_standing -/
def zf_182 (Z : qz_Z) (a0b : Int) (a1 : Int) : Int := (zlet2 (zl_182_1 a0b a1 49 Z 0 0) (fun y1 y2 => y1))
theorem sp_182 {s : zSM} {Z : qz_Z} {ν : qz_N} (hZ : zH s Z) (a0b : Nat) {a1 : Int} (ga1 : 0 ≤ a1 ∧ a1 ≤ 6) (hM : s.2 + 0 ≤ 1000000000) : ∃ P : Int, P = zf_182 Z a0b a1 ∧ (qf_182 [.inr (.inr (some (10, a0b, 0))), .inl (i3 a1)] (zm Z ν) = some (zm Z ν, .inl (some (.inl (i3 P)))) ∧ 0 ≤ P ∧ P ≤ 48) := by
  obtain ⟨P, hP⟩ := zx (zf_182 Z a0b a1)
  refine zc_R (Q := fun P => 0 ≤ P ∧ P ≤ 48) hP (fw_182 a0b (i3 a1) _ _ ?_)
  replace hP : zE P (zf_182 Z a0b a1) := hP
  unfold zf_182 at hP
  refine sl_182_1 (ν := ν) hZ (zbh (c := 0) (k := 0) hM (Nat.le_of_ble_eq_true rfl)) a0b (x1 := a1) (by omega) (x2 := 0) (by omega) (x3 := 0) (by omega) (by omega) (zconso rfl (zconso (zvo (rfl : i3 a1 = i3 a1)) (zconso (zvo (show (0 : Int32) = i3 0 from rfl)) (zconso (zvo (show (0 : Int32) = i3 0 from rfl)) rfl)))) rfl ?_
  intro L3 y1 y2 hL3 gy1 gy2 gL3_0 q9
  replace hP := zl_e2 hP (Eq.symm q9)
  clear q9
  refine fc_182_2 (i3 y1) _ _ _ _ hL3 ?_
  exact zlR hP (rfl : i3 y1 = i3 y1) ⟨by omega, by omega⟩
/- yX10_canGo -/
def zl_163_1 (x0b : Int) (x1b : Int) (x2b : Int) : Nat → qz_Z → Int → Int → Int × Int
  | 0, Z, x3, x4 => (x3, x4)
  | m + 1, Z, x3, x4 => (if 3 ≤ x4 then (x3, x4) else (if x3 = 0 then (x3, x4) else (if (Z 200 x2b 0 x4) ≤ 0 then zl_163_1 x0b x1b x2b m Z x3 (x4 + 1) else (if (Z 200 x1b 0 x4) = (-1) then zl_163_1 x0b x1b x2b m Z 0 (x4 + 1) else (if (Z 11 x0b 0 2) ≤ ((Z 200 x2b 0 x4) - 1) then zl_163_1 x0b x1b x2b m Z 0 (x4 + 1) else (if (Z 11 x0b 0 2) ≤ ((Z 200 x2b 0 x4) - 1) then (zlet (zf_182 Z x0b ((Z 200 x2b 0 x4) - 1)) (fun v10 => (zlet (zf_164 Z x2b ((Z 200 x2b 0 x4) - 1) x4) (fun v11 => (if ((Z 43 x0b ((-1) + (Z 200 x2b 0 x4)) 0) - v10) < v11 then zl_163_1 x0b x1b x2b m Z 0 (x4 + 1) else zl_163_1 x0b x1b x2b m Z 1 (x4 + 1)))))) else (if (Z 43 x0b ((-1) + (Z 200 x2b 0 x4)) 10) ≤ (Z 11 x0b 0 13) then (zlet (zf_182 Z x0b ((Z 200 x2b 0 x4) - 1)) (fun v17 => (zlet (zf_164 Z x2b ((Z 200 x2b 0 x4) - 1) x4) (fun v18 => (if ((Z 43 x0b ((-1) + (Z 200 x2b 0 x4)) 0) - v17) < v18 then zl_163_1 x0b x1b x2b m Z 0 (x4 + 1) else zl_163_1 x0b x1b x2b m Z 1 (x4 + 1)))))) else zl_163_1 x0b x1b x2b m Z 0 (x4 + 1))))))))
theorem sl_163_1 {s : zSM} {Z : qz_Z} {ν : qz_N} (hZ : zH s Z) (hM : s.2 + 0 ≤ 1000000000) (x0b : Nat) (x1b : Nat) (hSx1 : zSh ν x1b 50 3) (gAx1 : zA (-1) 47 x1b Z) (x2b : Nat) (hSx2 : zSh ν x2b 50 3) (gAx2 : zA (0) 6 x2b Z) {x3 : Int} (gx3 : 0 ≤ x3 ∧ x3 ≤ 1) {x4 : Int} (gx4 : 0 ≤ x4 ∧ x4 ≤ 3) {k : wz_K} {R : wz_R} {L : qz_L} (hL : qz_fg [true, true, true, true, true, false] L = [some (.inr (.inr (some (10, x0b, 0)))), some (.inr (.inr (some (200, x1b, 0)))), some (.inr (.inr (some (200, x2b, 0)))), some (.inl (i3 x3)), some (.inl (i3 x4)), none]) {T : Int × Int} (hP : zE T (zl_163_1 x0b x1b x2b ((3 - x4).toNat + 1) Z x3 x4)) (hk : ∀ (L9 : qz_L) (yx3 yx4 : Int), qz_fg [false, false, false, true, false, false] L9 = [none, none, none, some (.inl (i3 yx3)), none, none] → (0 ≤ yx3 ∧ yx3 ≤ 1) → (0 ≤ yx4 ∧ yx4 ≤ 3) → zE T ((yx3, yx4)) → k 0 (L9, [], zm Z ν)) : wz_loop qb_163_1 65536 k R (L, [], zm Z ν) := by
  refine wz_lp sb_163_1 (fun m x => ∃ x3 : Int, ∃ x4 : Int, qz_fg [true, true, true, true, true, false] x.1 = [some (.inr (.inr (some (10, x0b, 0)))), some (.inr (.inr (some (200, x1b, 0)))), some (.inr (.inr (some (200, x2b, 0)))), some (.inl (i3 x3)), some (.inl (i3 x4)), none] ∧ x.2 = ([], zm Z ν) ∧ m = (3 - x4).toNat ∧ (0 ≤ x3 ∧ x3 ≤ 1) ∧ (0 ≤ x4 ∧ x4 ≤ 3) ∧ zE T (zl_163_1 x0b x1b x2b (m + 1) Z x3 x4)) ?_ 65536 ((3 - x4).toNat) _ (by omega) ⟨x3, x4, hL, rfl, rfl, gx3, gx4, hP⟩
  clear hP gx3 gx4 hL
  clear x3 x4
  rintro m ⟨L, st, μ⟩ ⟨x3, x4, hL, hx, hm, gx3, gx4, hP⟩
  cases hx
  refine fb_163_1 x0b (200, x1b, 0) (200, x2b, 0) (i3 x3) (i3 x4) _ _ _ _ hL ?_
  refine wz_br (i3Le (show (3 : Int32) = i3 3 from rfl) (rfl : i3 x4 = i3 x4) (by omega) (by omega) (by omega) (by omega)) (fun h1 => ?_) (fun h1 => ?_)
  · replace hP := zE_p hP h1
    exact hk _ _ _ (zconso rfl (zconso rfl (zconso rfl (zconso (zvo (rfl : i3 x3 = i3 x3)) (zconso rfl (zconso rfl rfl))))))  (by omega) (by omega)  hP
  · replace hP := zE_n hP h1
    refine wz_br (i3E (rfl : i3 x3 = i3 x3) (show (0 : Int32) = i3 0 from rfl) (by omega) (by omega) (by omega) (by omega)) (fun h2 => ?_) (fun h2 => ?_)
    · replace hP := zE_p hP h2
      exact hk _ _ _ (zconso rfl (zconso rfl (zconso rfl (zconso (zvo (rfl : i3 x3 = i3 x3)) (zconso rfl (zconso rfl rfl))))))  (by omega) (by omega)  hP
    · replace hP := zE_n hP h2
      refine wz_i1 (by rw [zSh_t hSx2]; rfl) ?_
      refine wz_i0 (by rw [zSh_l hSx2]; exact i3O (n := 3) (rfl : i3 x4 = i3 x4) (by omega) (by omega) (by omega)) ?_
      have r3 := gAx2 x4
      refine wz_br (i3Le (zm_rd (Z := Z) (ν := ν) (k := 200) (rfl : ((x2b : Nat) : Int) = x2b) (show ((0 : Nat) : Int) = 0 from rfl) (i3I (y := x4) (rfl : i3 x4 = i3 x4) (by omega) (by omega) (by omega))) (show (0 : Int32) = i3 0 from rfl) (by omega) (by omega) (by omega) (by omega)) (fun h4 => ?_) (fun h4 => ?_)
      · replace hP := zE_p hP h4
        obtain ⟨m2, rfl⟩ : ∃ m2, m = m2 + 1 := ⟨m - 1, by omega⟩
        exact wz_k1 ⟨m2, by omega, x3, (x4 + 1), (zconso rfl (zconso rfl (zconso rfl (zconso (zvo (rfl : i3 x3 = i3 x3)) (zconso (zvo (i3A (rfl : i3 x4 = i3 x4) (show (1 : Int32) = i3 1 from rfl))) (zconso rfl rfl)))))), rfl,  by omega, by omega, by omega,  hP⟩
      · replace hP := zE_n hP h4
        refine wz_i1 (by rw [zSh_t hSx2]; rfl) ?_
        refine wz_i0 (by rw [zSh_l hSx2]; exact i3O (n := 3) (rfl : i3 x4 = i3 x4) (by omega) (by omega) (by omega)) ?_
        refine wz_i1 (by rw [zSh_t hSx1]; rfl) ?_
        refine wz_i0 (by rw [zSh_l hSx1]; exact i3O (n := 3) (rfl : i3 x4 = i3 x4) (by omega) (by omega) (by omega)) ?_
        have r5 := gAx1 x4
        refine wz_br (i3E (zm_rd (Z := Z) (ν := ν) (k := 200) (rfl : ((x1b : Nat) : Int) = x1b) (show ((0 : Nat) : Int) = 0 from rfl) (i3I (y := x4) (rfl : i3 x4 = i3 x4) (by omega) (by omega) (by omega))) (show (-1 : Int32) = i3 (-1) from rfl) (by omega) (by omega) (by omega) (by omega)) (fun h6 => ?_) (fun h6 => ?_)
        · replace hP := zE_p hP h6
          obtain ⟨m2, rfl⟩ : ∃ m2, m = m2 + 1 := ⟨m - 1, by omega⟩
          exact wz_k1 ⟨m2, by omega, 0, (x4 + 1), (zconso rfl (zconso rfl (zconso rfl (zconso (zvo (show (0 : Int32) = i3 0 from rfl)) (zconso (zvo (i3A (rfl : i3 x4 = i3 x4) (show (1 : Int32) = i3 1 from rfl))) (zconso rfl rfl)))))), rfl,  by omega, by omega, by omega,  hP⟩
        · replace hP := zE_n hP h6
          have r7 := zH_k hZ 11 x0b 0 2 (lo := 0) (hi := 6) (by decide) rfl
          refine wz_br (i3Le (zm_rd (Z := Z) (ν := ν) (k := 11) (rfl : ((x0b : Nat) : Int) = x0b) (show ((0 : Nat) : Int) = 0 from rfl) (show ((2 : Nat) : Int) = 2 from rfl)) (i3S (zm_rd (Z := Z) (ν := ν) (k := 200) (rfl : ((x2b : Nat) : Int) = x2b) (show ((0 : Nat) : Int) = 0 from rfl) (i3I (y := x4) (rfl : i3 x4 = i3 x4) (by omega) (by omega) (by omega))) (show (1 : Int32) = i3 1 from rfl)) (by omega) (by omega) (by omega) (by omega)) (fun h8 => ?_) (fun h8 => ?_)
          · replace hP := zE_p hP h8
            obtain ⟨m2, rfl⟩ : ∃ m2, m = m2 + 1 := ⟨m - 1, by omega⟩
            exact wz_k1 ⟨m2, by omega, 0, (x4 + 1), (zconso rfl (zconso rfl (zconso rfl (zconso (zvo (show (0 : Int32) = i3 0 from rfl)) (zconso (zvo (i3A (rfl : i3 x4 = i3 x4) (show (1 : Int32) = i3 1 from rfl))) (zconso rfl rfl)))))), rfl,  by omega, by omega, by omega,  hP⟩
          · replace hP := zE_n hP h8
            refine wz_i0 (Eq.trans (i3L (i3S (zm_rd (Z := Z) (ν := ν) (k := 200) (rfl : ((x2b : Nat) : Int) = x2b) (show ((0 : Nat) : Int) = 0 from rfl) (i3I (y := x4) (rfl : i3 x4 = i3 x4) (by omega) (by omega) (by omega))) (show (1 : Int32) = i3 1 from rfl)) (show (0 : Int32) = i3 0 from rfl) (by omega) (by omega) (by omega) (by omega)) (decide_eq_false (by omega))) ?_
            refine wz_br (i3Le (zm_rd (Z := Z) (ν := ν) (k := 11) (rfl : ((x0b : Nat) : Int) = x0b) (show ((0 : Nat) : Int) = 0 from rfl) (show ((2 : Nat) : Int) = 2 from rfl)) (i3S (zm_rd (Z := Z) (ν := ν) (k := 200) (rfl : ((x2b : Nat) : Int) = x2b) (show ((0 : Nat) : Int) = 0 from rfl) (i3I (y := x4) (rfl : i3 x4 = i3 x4) (by omega) (by omega) (by omega))) (show (1 : Int32) = i3 1 from rfl)) (by omega) (by omega) (by omega) (by omega)) (fun h9 => ?_) (fun h9 => ?_)
            · replace hP := zE_p hP h9
              refine wz_i1 (Eq.trans (i3NE (i3S (zm_rd (Z := Z) (ν := ν) (k := 200) (rfl : ((x2b : Nat) : Int) = x2b) (show ((0 : Nat) : Int) = 0 from rfl) (i3I (y := x4) (rfl : i3 x4 = i3 x4) (by omega) (by omega) (by omega))) (show (1 : Int32) = i3 1 from rfl)) (show (6 : Int32) = i3 6 from rfl) (by omega) (by omega) (by omega) (by omega)) (decide_eq_true (by omega))) ?_
              refine wz_i0 (i3O (n := 6) (i3S (zm_rd (Z := Z) (ν := ν) (k := 200) (rfl : ((x2b : Nat) : Int) = x2b) (show ((0 : Nat) : Int) = 0 from rfl) (i3I (y := x4) (rfl : i3 x4 = i3 x4) (by omega) (by omega) (by omega))) (show (1 : Int32) = i3 1 from rfl)) (by omega) (by omega) (by omega)) ?_
              obtain ⟨v10, hv10, c9, lv10, uv10⟩ := sp_182 (ν := ν) hZ x0b (a1 := ((Z 200 x2b 0 x4) - 1)) (by omega) (zbh (c := 0) (k := 0) hM (Nat.le_of_ble_eq_true rfl))
              replace hP := zl_e hP hv10
              refine wz_cI_of (zas (zcons rfl (zcons (zvi (i3S (zm_rd (Z := Z) (ν := ν) (k := 200) (rfl : ((x2b : Nat) : Int) = x2b) (show ((0 : Nat) : Int) = 0 from rfl) (i3I (y := x4) (rfl : i3 x4 = i3 x4) (by omega) (by omega) (by omega))) (show (1 : Int32) = i3 1 from rfl))) rfl)) c9) ?_
              clear c9
              obtain ⟨v11, hv11, c9, lv11, uv11⟩ := sp_164 (ν := ν) hZ x2b hSx2 gAx2 (a1 := ((Z 200 x2b 0 x4) - 1)) (by omega) (a2 := x4) (by omega) (zbh (c := 0) (k := 0) hM (Nat.le_of_ble_eq_true rfl))
              replace hP := zl_e hP hv11
              refine wz_cI_of (zas (zcons rfl (zcons (zvi (i3S (zm_rd (Z := Z) (ν := ν) (k := 200) (rfl : ((x2b : Nat) : Int) = x2b) (show ((0 : Nat) : Int) = 0 from rfl) (i3I (y := x4) (rfl : i3 x4 = i3 x4) (by omega) (by omega) (by omega))) (show (1 : Int32) = i3 1 from rfl))) (zcons (zvi (rfl : i3 x4 = i3 x4)) rfl))) c9) ?_
              clear c9
              have r12 := zH_k hZ 43 x0b ((-1) + (Z 200 x2b 0 x4)) 0 (lo := 0) (hi := 12) (by decide) rfl
              refine wz_br (i3L (i3S (zm_rd (Z := Z) (ν := ν) (k := 43) (rfl : ((x0b : Nat) : Int) = x0b) (i3I (y := ((-1) + (Z 200 x2b 0 x4))) (i3S (zm_rd (Z := Z) (ν := ν) (k := 200) (rfl : ((x2b : Nat) : Int) = x2b) (show ((0 : Nat) : Int) = 0 from rfl) (i3I (y := x4) (rfl : i3 x4 = i3 x4) (by omega) (by omega) (by omega))) (show (1 : Int32) = i3 1 from rfl)) (by omega) (by omega) (by omega)) (show ((0 : Nat) : Int) = 0 from rfl)) (rfl : i3 v10 = i3 v10)) (rfl : i3 v11 = i3 v11) (by omega) (by omega) (by omega) (by omega)) (fun h13 => ?_) (fun h13 => ?_)
              · replace hP := zE_p hP h13
                obtain ⟨m2, rfl⟩ : ∃ m2, m = m2 + 1 := ⟨m - 1, by omega⟩
                exact wz_k1 ⟨m2, by omega, 0, (x4 + 1), (zconso rfl (zconso rfl (zconso rfl (zconso (zvo (show (0 : Int32) = i3 0 from rfl)) (zconso (zvo (i3A (rfl : i3 x4 = i3 x4) (show (1 : Int32) = i3 1 from rfl))) (zconso rfl rfl)))))), rfl,  by omega, by omega, by omega,  hP⟩
              · replace hP := zE_n hP h13
                obtain ⟨m2, rfl⟩ : ∃ m2, m = m2 + 1 := ⟨m - 1, by omega⟩
                exact wz_k1 ⟨m2, by omega, 1, (x4 + 1), (zconso rfl (zconso rfl (zconso rfl (zconso (zvo (show (1 : Int32) = i3 1 from rfl)) (zconso (zvo (i3A (rfl : i3 x4 = i3 x4) (show (1 : Int32) = i3 1 from rfl))) (zconso rfl rfl)))))), rfl,  by omega, by omega, by omega,  hP⟩
            · replace hP := zE_n hP h9
              refine wz_i0 (i3O (n := 6) (i3S (zm_rd (Z := Z) (ν := ν) (k := 200) (rfl : ((x2b : Nat) : Int) = x2b) (show ((0 : Nat) : Int) = 0 from rfl) (i3I (y := x4) (rfl : i3 x4 = i3 x4) (by omega) (by omega) (by omega))) (show (1 : Int32) = i3 1 from rfl)) (by omega) (by omega) (by omega)) ?_
              have r14 := zH_k hZ 43 x0b ((-1) + (Z 200 x2b 0 x4)) 10 (lo := -1) (hi := 695) (by decide) rfl
              have r15 := zH_k hZ 11 x0b 0 13 (lo := 0) (hi := 671) (by decide) rfl
              refine wz_br (i3Le (zm_rd (Z := Z) (ν := ν) (k := 43) (rfl : ((x0b : Nat) : Int) = x0b) (i3I (y := ((-1) + (Z 200 x2b 0 x4))) (i3S (zm_rd (Z := Z) (ν := ν) (k := 200) (rfl : ((x2b : Nat) : Int) = x2b) (show ((0 : Nat) : Int) = 0 from rfl) (i3I (y := x4) (rfl : i3 x4 = i3 x4) (by omega) (by omega) (by omega))) (show (1 : Int32) = i3 1 from rfl)) (by omega) (by omega) (by omega)) (show ((10 : Nat) : Int) = 10 from rfl)) (zm_rd (Z := Z) (ν := ν) (k := 11) (rfl : ((x0b : Nat) : Int) = x0b) (show ((0 : Nat) : Int) = 0 from rfl) (show ((13 : Nat) : Int) = 13 from rfl)) (by omega) (by omega) (by omega) (by omega)) (fun h16 => ?_) (fun h16 => ?_)
              · replace hP := zE_p hP h16
                refine wz_i1 (Eq.trans (i3NE (i3S (zm_rd (Z := Z) (ν := ν) (k := 200) (rfl : ((x2b : Nat) : Int) = x2b) (show ((0 : Nat) : Int) = 0 from rfl) (i3I (y := x4) (rfl : i3 x4 = i3 x4) (by omega) (by omega) (by omega))) (show (1 : Int32) = i3 1 from rfl)) (show (6 : Int32) = i3 6 from rfl) (by omega) (by omega) (by omega) (by omega)) (decide_eq_true (by omega))) ?_
                refine wz_i0 (i3O (n := 6) (i3S (zm_rd (Z := Z) (ν := ν) (k := 200) (rfl : ((x2b : Nat) : Int) = x2b) (show ((0 : Nat) : Int) = 0 from rfl) (i3I (y := x4) (rfl : i3 x4 = i3 x4) (by omega) (by omega) (by omega))) (show (1 : Int32) = i3 1 from rfl)) (by omega) (by omega) (by omega)) ?_
                obtain ⟨v17, hv17, c9, lv17, uv17⟩ := sp_182 (ν := ν) hZ x0b (a1 := ((Z 200 x2b 0 x4) - 1)) (by omega) (zbh (c := 0) (k := 0) hM (Nat.le_of_ble_eq_true rfl))
                replace hP := zl_e hP hv17
                refine wz_cI_of (zas (zcons rfl (zcons (zvi (i3S (zm_rd (Z := Z) (ν := ν) (k := 200) (rfl : ((x2b : Nat) : Int) = x2b) (show ((0 : Nat) : Int) = 0 from rfl) (i3I (y := x4) (rfl : i3 x4 = i3 x4) (by omega) (by omega) (by omega))) (show (1 : Int32) = i3 1 from rfl))) rfl)) c9) ?_
                clear c9
                obtain ⟨v18, hv18, c9, lv18, uv18⟩ := sp_164 (ν := ν) hZ x2b hSx2 gAx2 (a1 := ((Z 200 x2b 0 x4) - 1)) (by omega) (a2 := x4) (by omega) (zbh (c := 0) (k := 0) hM (Nat.le_of_ble_eq_true rfl))
                replace hP := zl_e hP hv18
                refine wz_cI_of (zas (zcons rfl (zcons (zvi (i3S (zm_rd (Z := Z) (ν := ν) (k := 200) (rfl : ((x2b : Nat) : Int) = x2b) (show ((0 : Nat) : Int) = 0 from rfl) (i3I (y := x4) (rfl : i3 x4 = i3 x4) (by omega) (by omega) (by omega))) (show (1 : Int32) = i3 1 from rfl))) (zcons (zvi (rfl : i3 x4 = i3 x4)) rfl))) c9) ?_
                clear c9
                have r19 := zH_k hZ 43 x0b ((-1) + (Z 200 x2b 0 x4)) 0 (lo := 0) (hi := 12) (by decide) rfl
                refine wz_br (i3L (i3S (zm_rd (Z := Z) (ν := ν) (k := 43) (rfl : ((x0b : Nat) : Int) = x0b) (i3I (y := ((-1) + (Z 200 x2b 0 x4))) (i3S (zm_rd (Z := Z) (ν := ν) (k := 200) (rfl : ((x2b : Nat) : Int) = x2b) (show ((0 : Nat) : Int) = 0 from rfl) (i3I (y := x4) (rfl : i3 x4 = i3 x4) (by omega) (by omega) (by omega))) (show (1 : Int32) = i3 1 from rfl)) (by omega) (by omega) (by omega)) (show ((0 : Nat) : Int) = 0 from rfl)) (rfl : i3 v17 = i3 v17)) (rfl : i3 v18 = i3 v18) (by omega) (by omega) (by omega) (by omega)) (fun h20 => ?_) (fun h20 => ?_)
                · replace hP := zE_p hP h20
                  obtain ⟨m2, rfl⟩ : ∃ m2, m = m2 + 1 := ⟨m - 1, by omega⟩
                  exact wz_k1 ⟨m2, by omega, 0, (x4 + 1), (zconso rfl (zconso rfl (zconso rfl (zconso (zvo (show (0 : Int32) = i3 0 from rfl)) (zconso (zvo (i3A (rfl : i3 x4 = i3 x4) (show (1 : Int32) = i3 1 from rfl))) (zconso rfl rfl)))))), rfl,  by omega, by omega, by omega,  hP⟩
                · replace hP := zE_n hP h20
                  obtain ⟨m2, rfl⟩ : ∃ m2, m = m2 + 1 := ⟨m - 1, by omega⟩
                  exact wz_k1 ⟨m2, by omega, 1, (x4 + 1), (zconso rfl (zconso rfl (zconso rfl (zconso (zvo (show (1 : Int32) = i3 1 from rfl)) (zconso (zvo (i3A (rfl : i3 x4 = i3 x4) (show (1 : Int32) = i3 1 from rfl))) (zconso rfl rfl)))))), rfl,  by omega, by omega, by omega,  hP⟩
              · replace hP := zE_n hP h16
                obtain ⟨m2, rfl⟩ : ∃ m2, m = m2 + 1 := ⟨m - 1, by omega⟩
                exact wz_k1 ⟨m2, by omega, 0, (x4 + 1), (zconso rfl (zconso rfl (zconso rfl (zconso (zvo (show (0 : Int32) = i3 0 from rfl)) (zconso (zvo (i3A (rfl : i3 x4 = i3 x4) (show (1 : Int32) = i3 1 from rfl))) (zconso rfl rfl)))))), rfl,  by omega, by omega, by omega,  hP⟩
/- yX10_canGo -/
def zf_163 (Z : qz_Z) (a0b : Int) (a1b : Int) (a2b : Int) : Int := (zlet2 (zl_163_1 a0b a1b a2b 4 Z 1 0) (fun y1 y2 => y1))
theorem sp_163 {s : zSM} {Z : qz_Z} {ν : qz_N} (hZ : zH s Z) (a0b : Nat) (a1b : Nat) (hSa1 : zSh ν a1b 50 3) (gAa1 : zA (-1) 47 a1b Z) (a2b : Nat) (hSa2 : zSh ν a2b 50 3) (gAa2 : zA (0) 6 a2b Z) (hM : s.2 + 0 ≤ 1000000000) : ∃ P : Int, P = zf_163 Z a0b a1b a2b ∧ (qf_163 [.inr (.inr (some (10, a0b, 0))), .inr (.inr (some (200, a1b, 0))), .inr (.inr (some (200, a2b, 0)))] (zm Z ν) = some (zm Z ν, .inl (some (.inl (i3 P)))) ∧ 0 ≤ P ∧ P ≤ 1) := by
  obtain ⟨P, hP⟩ := zx (zf_163 Z a0b a1b a2b)
  refine zc_R (Q := fun P => 0 ≤ P ∧ P ≤ 1) hP (fw_163 a0b (200, a1b, 0) (200, a2b, 0) _ _ ?_)
  replace hP : zE P (zf_163 Z a0b a1b a2b) := hP
  unfold zf_163 at hP
  refine sl_163_1 (ν := ν) hZ (zbh (c := 0) (k := 0) hM (Nat.le_of_ble_eq_true rfl)) a0b a1b hSa1 gAa1 a2b hSa2 gAa2 (x3 := 1) (by omega) (x4 := 0) (by omega)  (zconso rfl (zconso rfl (zconso rfl (zconso (zvo (show (1 : Int32) = i3 1 from rfl)) (zconso (zvo (show (0 : Int32) = i3 0 from rfl)) (zconso rfl rfl)))))) rfl ?_
  intro L3 y1 y2 hL3 gy1 gy2 q9
  replace hP := zl_e2 hP (Eq.symm q9)
  clear q9
  refine fc_163_2 (i3 y1) _ _ _ _ hL3 ?_
  refine wz_i1 (i3B (rfl : i3 y1 = i3 y1) (by omega)) ?_
  exact zlR hP (rfl : i3 y1 = i3 y1) ⟨by omega, by omega⟩
/- yX10_ripeAt -/
def zl_180_1 (x0b : Int) (x6ij : Int) (x9ij : Int) (x4 : Int) (x8 : Int) : Nat → qz_Z → Int → Int → Int → Int → Int × Int × Int × Int
  | 0, Z, x7, x10, x11, x12 => (x7, x10, x11, x12)
  | m + 1, Z, x7, x10, x11, x12 => (if x4 < x12 then (x7, x10, x11, x12) else (if x8 = 0 then zl_180_1 x0b x6ij x9ij x4 x8 m Z (min (w3 (x7 + (((Z 41 x0b x6ij 0) * (max 0 ((Z 12 x0b 0 (x12 / 24)) - (Z 41 x0b x6ij 1)))) / 8))) 2000) 0 (Z 12 x0b 0 (x12 / 24)) (x12 + 1) else (if (Z 12 x0b 0 (x12 / 24)) ≤ x11 then (if (x11 - ((Z 43 x0b x9ij 2) + x10)) ≤ (Z 12 x0b 0 (x12 / 24)) then (if (Z 43 x0b x9ij 3) ≤ (Z 12 x0b 0 (x12 / 24)) then (if ((Z 12 x0b 0 (x12 / 24)) - (Z 43 x0b x9ij 1)) ≤ (Z 43 x0b x9ij 3) then (if (Z 43 x0b x9ij 4) ≠ 1 then zl_180_1 x0b x6ij x9ij x4 x8 m Z (min (w3 (x7 + (((Z 41 x0b x6ij 0) * (max 0 ((Z 43 x0b x9ij 3) - (Z 41 x0b x6ij 1)))) / 8))) 2000) 0 (Z 43 x0b x9ij 3) (x12 + 1) else zl_180_1 x0b x6ij x9ij x4 x8 m Z (min (w3 (x7 + (2 * (((Z 41 x0b x6ij 0) * (max 0 ((Z 43 x0b x9ij 3) - (Z 41 x0b x6ij 1)))) / 8)))) 2000) 0 (Z 43 x0b x9ij 3) (x12 + 1)) else (if (Z 43 x0b x9ij 4) ≠ 1 then zl_180_1 x0b x6ij x9ij x4 x8 m Z (min (w3 (x7 + (((Z 41 x0b x6ij 0) * (max 0 (((Z 12 x0b 0 (x12 / 24)) - (Z 43 x0b x9ij 1)) - (Z 41 x0b x6ij 1)))) / 8))) 2000) 0 ((Z 12 x0b 0 (x12 / 24)) - (Z 43 x0b x9ij 1)) (x12 + 1) else zl_180_1 x0b x6ij x9ij x4 x8 m Z (min (w3 (x7 + (2 * (((Z 41 x0b x6ij 0) * (max 0 (((Z 12 x0b 0 (x12 / 24)) - (Z 43 x0b x9ij 1)) - (Z 41 x0b x6ij 1)))) / 8)))) 2000) 0 ((Z 12 x0b 0 (x12 / 24)) - (Z 43 x0b x9ij 1)) (x12 + 1))) else (if (Z 43 x0b x9ij 3) ≤ ((Z 12 x0b 0 (x12 / 24)) + (Z 43 x0b x9ij 1)) then (if (Z 43 x0b x9ij 4) ≠ 1 then zl_180_1 x0b x6ij x9ij x4 x8 m Z (min (w3 (x7 + (((Z 41 x0b x6ij 0) * (max 0 ((Z 43 x0b x9ij 3) - (Z 41 x0b x6ij 1)))) / 8))) 2000) 0 (Z 43 x0b x9ij 3) (x12 + 1) else zl_180_1 x0b x6ij x9ij x4 x8 m Z (min (w3 (x7 + (2 * (((Z 41 x0b x6ij 0) * (max 0 ((Z 43 x0b x9ij 3) - (Z 41 x0b x6ij 1)))) / 8)))) 2000) 0 (Z 43 x0b x9ij 3) (x12 + 1)) else (if (Z 43 x0b x9ij 4) ≠ 1 then zl_180_1 x0b x6ij x9ij x4 x8 m Z (min (w3 (x7 + (((Z 41 x0b x6ij 0) * (max 0 (((Z 12 x0b 0 (x12 / 24)) + (Z 43 x0b x9ij 1)) - (Z 41 x0b x6ij 1)))) / 8))) 2000) 0 ((Z 12 x0b 0 (x12 / 24)) + (Z 43 x0b x9ij 1)) (x12 + 1) else zl_180_1 x0b x6ij x9ij x4 x8 m Z (min (w3 (x7 + (2 * (((Z 41 x0b x6ij 0) * (max 0 (((Z 12 x0b 0 (x12 / 24)) + (Z 43 x0b x9ij 1)) - (Z 41 x0b x6ij 1)))) / 8)))) 2000) 0 ((Z 12 x0b 0 (x12 / 24)) + (Z 43 x0b x9ij 1)) (x12 + 1)))) else (if (Z 43 x0b x9ij 3) ≤ (x11 - ((Z 43 x0b x9ij 2) + x10)) then (if ((x11 - ((Z 43 x0b x9ij 2) + x10)) - (Z 43 x0b x9ij 1)) ≤ (Z 43 x0b x9ij 3) then (if (Z 43 x0b x9ij 4) ≠ 1 then zl_180_1 x0b x6ij x9ij x4 x8 m Z (min (w3 (x7 + (((Z 41 x0b x6ij 0) * (max 0 ((Z 43 x0b x9ij 3) - (Z 41 x0b x6ij 1)))) / 8))) 2000) 0 (Z 43 x0b x9ij 3) (x12 + 1) else zl_180_1 x0b x6ij x9ij x4 x8 m Z (min (w3 (x7 + (2 * (((Z 41 x0b x6ij 0) * (max 0 ((Z 43 x0b x9ij 3) - (Z 41 x0b x6ij 1)))) / 8)))) 2000) 0 (Z 43 x0b x9ij 3) (x12 + 1)) else (if (Z 43 x0b x9ij 4) ≠ 1 then zl_180_1 x0b x6ij x9ij x4 x8 m Z (min (w3 (x7 + (z2 (fun x y => x / y) (w3 ((Z 41 x0b x6ij 0) * (max 0 (((x11 - ((Z 43 x0b x9ij 2) + x10)) - (Z 43 x0b x9ij 1)) - (Z 41 x0b x6ij 1))))) 8))) 2000) 0 ((x11 - ((Z 43 x0b x9ij 2) + x10)) - (Z 43 x0b x9ij 1)) (x12 + 1) else zl_180_1 x0b x6ij x9ij x4 x8 m Z (min (w3 (x7 + (w3 (2 * (z2 (fun x y => x / y) (w3 ((Z 41 x0b x6ij 0) * (max 0 (((x11 - ((Z 43 x0b x9ij 2) + x10)) - (Z 43 x0b x9ij 1)) - (Z 41 x0b x6ij 1))))) 8))))) 2000) 0 ((x11 - ((Z 43 x0b x9ij 2) + x10)) - (Z 43 x0b x9ij 1)) (x12 + 1))) else (if (Z 43 x0b x9ij 3) ≤ ((x11 - ((Z 43 x0b x9ij 2) + x10)) + (Z 43 x0b x9ij 1)) then (if (Z 43 x0b x9ij 4) ≠ 1 then zl_180_1 x0b x6ij x9ij x4 x8 m Z (min (w3 (x7 + (((Z 41 x0b x6ij 0) * (max 0 ((Z 43 x0b x9ij 3) - (Z 41 x0b x6ij 1)))) / 8))) 2000) 0 (Z 43 x0b x9ij 3) (x12 + 1) else zl_180_1 x0b x6ij x9ij x4 x8 m Z (min (w3 (x7 + (2 * (((Z 41 x0b x6ij 0) * (max 0 ((Z 43 x0b x9ij 3) - (Z 41 x0b x6ij 1)))) / 8)))) 2000) 0 (Z 43 x0b x9ij 3) (x12 + 1)) else (if (Z 43 x0b x9ij 4) ≠ 1 then zl_180_1 x0b x6ij x9ij x4 x8 m Z (min (w3 (x7 + (z2 (fun x y => x / y) (w3 ((Z 41 x0b x6ij 0) * (max 0 (((x11 - ((Z 43 x0b x9ij 2) + x10)) + (Z 43 x0b x9ij 1)) - (Z 41 x0b x6ij 1))))) 8))) 2000) 0 ((x11 - ((Z 43 x0b x9ij 2) + x10)) + (Z 43 x0b x9ij 1)) (x12 + 1) else zl_180_1 x0b x6ij x9ij x4 x8 m Z (min (w3 (x7 + (w3 (2 * (z2 (fun x y => x / y) (w3 ((Z 41 x0b x6ij 0) * (max 0 (((x11 - ((Z 43 x0b x9ij 2) + x10)) + (Z 43 x0b x9ij 1)) - (Z 41 x0b x6ij 1))))) 8))))) 2000) 0 ((x11 - ((Z 43 x0b x9ij 2) + x10)) + (Z 43 x0b x9ij 1)) (x12 + 1))))) else (if (Z 12 x0b 0 (x12 / 24)) ≤ (x11 + ((Z 43 x0b x9ij 2) + x10)) then (if (Z 43 x0b x9ij 3) ≤ (Z 12 x0b 0 (x12 / 24)) then (if ((Z 12 x0b 0 (x12 / 24)) - (Z 43 x0b x9ij 1)) ≤ (Z 43 x0b x9ij 3) then (if (Z 43 x0b x9ij 4) ≠ 1 then zl_180_1 x0b x6ij x9ij x4 x8 m Z (min (w3 (x7 + (((Z 41 x0b x6ij 0) * (max 0 ((Z 43 x0b x9ij 3) - (Z 41 x0b x6ij 1)))) / 8))) 2000) 0 (Z 43 x0b x9ij 3) (x12 + 1) else zl_180_1 x0b x6ij x9ij x4 x8 m Z (min (w3 (x7 + (2 * (((Z 41 x0b x6ij 0) * (max 0 ((Z 43 x0b x9ij 3) - (Z 41 x0b x6ij 1)))) / 8)))) 2000) 0 (Z 43 x0b x9ij 3) (x12 + 1)) else (if (Z 43 x0b x9ij 4) ≠ 1 then zl_180_1 x0b x6ij x9ij x4 x8 m Z (min (w3 (x7 + (((Z 41 x0b x6ij 0) * (max 0 (((Z 12 x0b 0 (x12 / 24)) - (Z 43 x0b x9ij 1)) - (Z 41 x0b x6ij 1)))) / 8))) 2000) 0 ((Z 12 x0b 0 (x12 / 24)) - (Z 43 x0b x9ij 1)) (x12 + 1) else zl_180_1 x0b x6ij x9ij x4 x8 m Z (min (w3 (x7 + (2 * (((Z 41 x0b x6ij 0) * (max 0 (((Z 12 x0b 0 (x12 / 24)) - (Z 43 x0b x9ij 1)) - (Z 41 x0b x6ij 1)))) / 8)))) 2000) 0 ((Z 12 x0b 0 (x12 / 24)) - (Z 43 x0b x9ij 1)) (x12 + 1))) else (if (Z 43 x0b x9ij 3) ≤ ((Z 12 x0b 0 (x12 / 24)) + (Z 43 x0b x9ij 1)) then (if (Z 43 x0b x9ij 4) ≠ 1 then zl_180_1 x0b x6ij x9ij x4 x8 m Z (min (w3 (x7 + (((Z 41 x0b x6ij 0) * (max 0 ((Z 43 x0b x9ij 3) - (Z 41 x0b x6ij 1)))) / 8))) 2000) 0 (Z 43 x0b x9ij 3) (x12 + 1) else zl_180_1 x0b x6ij x9ij x4 x8 m Z (min (w3 (x7 + (2 * (((Z 41 x0b x6ij 0) * (max 0 ((Z 43 x0b x9ij 3) - (Z 41 x0b x6ij 1)))) / 8)))) 2000) 0 (Z 43 x0b x9ij 3) (x12 + 1)) else (if (Z 43 x0b x9ij 4) ≠ 1 then zl_180_1 x0b x6ij x9ij x4 x8 m Z (min (w3 (x7 + (((Z 41 x0b x6ij 0) * (max 0 (((Z 12 x0b 0 (x12 / 24)) + (Z 43 x0b x9ij 1)) - (Z 41 x0b x6ij 1)))) / 8))) 2000) 0 ((Z 12 x0b 0 (x12 / 24)) + (Z 43 x0b x9ij 1)) (x12 + 1) else zl_180_1 x0b x6ij x9ij x4 x8 m Z (min (w3 (x7 + (2 * (((Z 41 x0b x6ij 0) * (max 0 (((Z 12 x0b 0 (x12 / 24)) + (Z 43 x0b x9ij 1)) - (Z 41 x0b x6ij 1)))) / 8)))) 2000) 0 ((Z 12 x0b 0 (x12 / 24)) + (Z 43 x0b x9ij 1)) (x12 + 1)))) else (if (Z 43 x0b x9ij 3) ≤ (x11 + ((Z 43 x0b x9ij 2) + x10)) then (if ((x11 + ((Z 43 x0b x9ij 2) + x10)) - (Z 43 x0b x9ij 1)) ≤ (Z 43 x0b x9ij 3) then (if (Z 43 x0b x9ij 4) ≠ 1 then zl_180_1 x0b x6ij x9ij x4 x8 m Z (min (w3 (x7 + (((Z 41 x0b x6ij 0) * (max 0 ((Z 43 x0b x9ij 3) - (Z 41 x0b x6ij 1)))) / 8))) 2000) 0 (Z 43 x0b x9ij 3) (x12 + 1) else zl_180_1 x0b x6ij x9ij x4 x8 m Z (min (w3 (x7 + (2 * (((Z 41 x0b x6ij 0) * (max 0 ((Z 43 x0b x9ij 3) - (Z 41 x0b x6ij 1)))) / 8)))) 2000) 0 (Z 43 x0b x9ij 3) (x12 + 1)) else (if (Z 43 x0b x9ij 4) ≠ 1 then zl_180_1 x0b x6ij x9ij x4 x8 m Z (min (w3 (x7 + (z2 (fun x y => x / y) (w3 ((Z 41 x0b x6ij 0) * (max 0 (((x11 + ((Z 43 x0b x9ij 2) + x10)) - (Z 43 x0b x9ij 1)) - (Z 41 x0b x6ij 1))))) 8))) 2000) 0 ((x11 + ((Z 43 x0b x9ij 2) + x10)) - (Z 43 x0b x9ij 1)) (x12 + 1) else zl_180_1 x0b x6ij x9ij x4 x8 m Z (min (w3 (x7 + (w3 (2 * (z2 (fun x y => x / y) (w3 ((Z 41 x0b x6ij 0) * (max 0 (((x11 + ((Z 43 x0b x9ij 2) + x10)) - (Z 43 x0b x9ij 1)) - (Z 41 x0b x6ij 1))))) 8))))) 2000) 0 ((x11 + ((Z 43 x0b x9ij 2) + x10)) - (Z 43 x0b x9ij 1)) (x12 + 1))) else (if (Z 43 x0b x9ij 3) ≤ ((x11 + ((Z 43 x0b x9ij 2) + x10)) + (Z 43 x0b x9ij 1)) then (if (Z 43 x0b x9ij 4) ≠ 1 then zl_180_1 x0b x6ij x9ij x4 x8 m Z (min (w3 (x7 + (((Z 41 x0b x6ij 0) * (max 0 ((Z 43 x0b x9ij 3) - (Z 41 x0b x6ij 1)))) / 8))) 2000) 0 (Z 43 x0b x9ij 3) (x12 + 1) else zl_180_1 x0b x6ij x9ij x4 x8 m Z (min (w3 (x7 + (2 * (((Z 41 x0b x6ij 0) * (max 0 ((Z 43 x0b x9ij 3) - (Z 41 x0b x6ij 1)))) / 8)))) 2000) 0 (Z 43 x0b x9ij 3) (x12 + 1)) else (if (Z 43 x0b x9ij 4) ≠ 1 then zl_180_1 x0b x6ij x9ij x4 x8 m Z (min (w3 (x7 + (z2 (fun x y => x / y) (w3 ((Z 41 x0b x6ij 0) * (max 0 (w3 (((x11 + ((Z 43 x0b x9ij 2) + x10)) + (Z 43 x0b x9ij 1)) - (Z 41 x0b x6ij 1)))))) 8))) 2000) 0 ((x11 + ((Z 43 x0b x9ij 2) + x10)) + (Z 43 x0b x9ij 1)) (x12 + 1) else zl_180_1 x0b x6ij x9ij x4 x8 m Z (min (w3 (x7 + (w3 (2 * (z2 (fun x y => x / y) (w3 ((Z 41 x0b x6ij 0) * (max 0 (w3 (((x11 + ((Z 43 x0b x9ij 2) + x10)) + (Z 43 x0b x9ij 1)) - (Z 41 x0b x6ij 1)))))) 8))))) 2000) 0 ((x11 + ((Z 43 x0b x9ij 2) + x10)) + (Z 43 x0b x9ij 1)) (x12 + 1))))))))
theorem sl_180_1 {s : zSM} {Z : qz_Z} {ν : qz_N} (hZ : zH s Z) (hM : s.2 + 0 ≤ 1000000000) (x0b : Nat) (x6i : Nat) {x6ij : Int} (ex6i : (x6i : Int) = x6ij) (gx6ij : 0 ≤ x6ij ∧ x6ij ≤ 4) (x9i : Nat) {x9ij : Int} (ex9i : (x9i : Int) = x9ij) (gx9ij : 0 ≤ x9ij ∧ x9ij ≤ 5) {x4 : Int} (gx4 : 0 ≤ x4 ∧ x4 ≤ 671) {x7 : Int} (gx7 : -2147483648 ≤ x7 ∧ x7 ≤ 2147483647) {x8 : Int} (gx8 : 0 ≤ x8 ∧ x8 ≤ 1) {x10 : Int} (gx10 : 0 ≤ x10 ∧ x10 ≤ 1000000003) {x11 : Int} (gx11 : -2147483648 ≤ x11 ∧ x11 ≤ 2147483647) {x12 : Int} (gx12 : 1 ≤ x12 ∧ x12 ≤ 672) {k : wz_K} {R : wz_R} {L : qz_L} (hL : qz_fg [true, false, false, false, true, false, true, true, true, true, true, true, true, false] L = [some (.inr (.inr (some (10, x0b, 0)))), none, none, none, some (.inl (i3 x4)), none, some (.inr (.inr (some (41, x0b, x6i)))), some (.inl (i3 x7)), some (.inl (i3 x8)), some (.inr (.inr (some (43, x0b, x9i)))), some (.inl (i3 x10)), some (.inl (i3 x11)), some (.inl (i3 x12)), none]) {T : Int × Int × Int × Int} (hP : zE T (zl_180_1 x0b x6ij x9ij x4 x8 ((672 - x12).toNat + 1) Z x7 x10 x11 x12)) (hk : ∀ (L9 : qz_L) (yx7 yx10 yx11 yx12 : Int), qz_fg [false, false, false, false, false, false, false, true, false, false, false, false, false, false] L9 = [none, none, none, none, none, none, none, some (.inl (i3 yx7)), none, none, none, none, none, none] → (-2147483648 ≤ yx7 ∧ yx7 ≤ 2147483647) → (0 ≤ yx10 ∧ yx10 ≤ 1000000003) → (-2147483648 ≤ yx11 ∧ yx11 ≤ 2147483647) → (1 ≤ yx12 ∧ yx12 ≤ 672) → zE T ((yx7, yx10, yx11, yx12)) → k 0 (L9, [], zm Z ν)) : wz_loop qb_180_1 65536 k R (L, [], zm Z ν) := by
  refine wz_lp sb_180_1 (fun m x => ∃ x7 : Int, ∃ x10 : Int, ∃ x11 : Int, ∃ x12 : Int, qz_fg [true, false, false, false, true, false, true, true, true, true, true, true, true, false] x.1 = [some (.inr (.inr (some (10, x0b, 0)))), none, none, none, some (.inl (i3 x4)), none, some (.inr (.inr (some (41, x0b, x6i)))), some (.inl (i3 x7)), some (.inl (i3 x8)), some (.inr (.inr (some (43, x0b, x9i)))), some (.inl (i3 x10)), some (.inl (i3 x11)), some (.inl (i3 x12)), none] ∧ x.2 = ([], zm Z ν) ∧ m = (672 - x12).toNat ∧ (-2147483648 ≤ x7 ∧ x7 ≤ 2147483647) ∧ (0 ≤ x10 ∧ x10 ≤ 1000000003) ∧ (-2147483648 ≤ x11 ∧ x11 ≤ 2147483647) ∧ (1 ≤ x12 ∧ x12 ≤ 672) ∧ zE T (zl_180_1 x0b x6ij x9ij x4 x8 (m + 1) Z x7 x10 x11 x12)) ?_ 65536 ((672 - x12).toNat) _ (by omega) ⟨x7, x10, x11, x12, hL, rfl, rfl, gx7, gx10, gx11, gx12, hP⟩
  clear hP gx7 gx10 gx11 gx12 hL
  clear x7 x10 x11 x12
  rintro m ⟨L, st, μ⟩ ⟨x7, x10, x11, x12, hL, hx, hm, gx7, gx10, gx11, gx12, hP⟩
  cases hx
  refine fb_180_1 x0b (i3 x4) x6i (i3 x7) (i3 x8) x9i (i3 x10) (i3 x11) (i3 x12) _ _ _ _ hL ?_
  refine wz_br (i3L (rfl : i3 x4 = i3 x4) (rfl : i3 x12 = i3 x12) (by omega) (by omega) (by omega) (by omega)) (fun h1 => ?_) (fun h1 => ?_)
  · replace hP := zE_p hP h1
    exact hk _ _ _ _ _ (zconso rfl (zconso rfl (zconso rfl (zconso rfl (zconso rfl (zconso rfl (zconso rfl (zconso (zvo (rfl : i3 x7 = i3 x7)) (zconso rfl (zconso rfl (zconso rfl (zconso rfl (zconso rfl (zconso rfl rfl))))))))))))))  (by omega) (by omega) (by omega) (by omega)  hP
  · replace hP := zE_n hP h1
    refine wz_i0 (i3O (n := 28) (i3D (rfl : i3 x12 = i3 x12) (show (24 : Int32) = i3 24 from rfl) (by omega) (by omega) (by omega) (by omega)) (by omega) (by omega) (by omega)) ?_
    refine wz_br (i3E (rfl : i3 x8 = i3 x8) (show (0 : Int32) = i3 0 from rfl) (by omega) (by omega) (by omega) (by omega)) (fun h2 => ?_) (fun h2 => ?_)
    · replace hP := zE_p hP h2
      refine wz_i1 (Eq.trans (i3E (rfl : i3 x8 = i3 x8) (show (0 : Int32) = i3 0 from rfl) (by omega) (by omega) (by omega) (by omega)) (decide_eq_true (by omega))) ?_
      have r3 := zH_k hZ 41 x0b x6ij 0 (lo := 0) (hi := 9) (by decide) rfl
      have r4 := zH_k hZ 12 x0b 0 (x12 / 24) (lo := 0) (hi := 40) (by decide) (zrc_12 (by omega) (by omega))
      have r5 := zH_k hZ 41 x0b x6ij 1 (lo := 0) (hi := 12) (by decide) rfl
      have r6 := z_mul (x := (Z 41 x0b x6ij 0)) (y := (max 0 ((Z 12 x0b 0 (x12 / 24)) - (Z 41 x0b x6ij 1)))) (a := 9) (b := 40) (by omega) (by omega) (by omega) (by omega)
      have r7 := w3_r (x7 + (((Z 41 x0b x6ij 0) * (max 0 ((Z 12 x0b 0 (x12 / 24)) - (Z 41 x0b x6ij 1)))) / 8))
      obtain ⟨m2, rfl⟩ : ∃ m2, m = m2 + 1 := ⟨m - 1, by omega⟩
      exact wz_k1 ⟨m2, by omega, (min (w3 (x7 + (((Z 41 x0b x6ij 0) * (max 0 ((Z 12 x0b 0 (x12 / 24)) - (Z 41 x0b x6ij 1)))) / 8))) 2000), 0, (Z 12 x0b 0 (x12 / 24)), (x12 + 1), (zconso rfl (zconso rfl (zconso rfl (zconso rfl (zconso (zvo (rfl : i3 x4 = i3 x4)) (zconso rfl (zconso rfl (zconso (zvo (i3Mn (i3W (i3A (rfl : i3 x7 = i3 x7) (i3D (i3M (zm_rd (Z := Z) (ν := ν) (k := 41) (rfl : ((x0b : Nat) : Int) = x0b) ex6i (show ((0 : Nat) : Int) = 0 from rfl)) (i3Mx (show (0 : Int32) = i3 0 from rfl) (i3S (zm_rd (Z := Z) (ν := ν) (k := 12) (rfl : ((x0b : Nat) : Int) = x0b) (show ((0 : Nat) : Int) = 0 from rfl) (i3I (y := (x12 / 24)) (i3D (rfl : i3 x12 = i3 x12) (show (24 : Int32) = i3 24 from rfl) (by omega) (by omega) (by omega) (by omega)) (by omega) (by omega) (by omega))) (zm_rd (Z := Z) (ν := ν) (k := 41) (rfl : ((x0b : Nat) : Int) = x0b) ex6i (show ((1 : Nat) : Int) = 1 from rfl))) (by omega) (by omega) (by omega) (by omega))) (show (8 : Int32) = i3 8 from rfl) (by omega) (by omega) (by omega) (by omega)))) (show (2000 : Int32) = i3 2000 from rfl) (by omega) (by omega) (by omega) (by omega))) (zconso (zvo (rfl : i3 x8 = i3 x8)) (zconso rfl (zconso (zvo (show (0 : Int32) = i3 0 from rfl)) (zconso (zvo (zm_rd (Z := Z) (ν := ν) (k := 12) (rfl : ((x0b : Nat) : Int) = x0b) (show ((0 : Nat) : Int) = 0 from rfl) (i3I (y := (x12 / 24)) (i3D (rfl : i3 x12 = i3 x12) (show (24 : Int32) = i3 24 from rfl) (by omega) (by omega) (by omega) (by omega)) (by omega) (by omega) (by omega)))) (zconso (zvo (i3A (rfl : i3 x12 = i3 x12) (show (1 : Int32) = i3 1 from rfl))) (zconso rfl rfl)))))))))))))), rfl,  by omega, by omega, by omega, by omega, by omega,  hP⟩
    · replace hP := zE_n hP h2
      have r8 := zH_k hZ 12 x0b 0 (x12 / 24) (lo := 0) (hi := 40) (by decide) (zrc_12 (by omega) (by omega))
      refine wz_br (i3Le (zm_rd (Z := Z) (ν := ν) (k := 12) (rfl : ((x0b : Nat) : Int) = x0b) (show ((0 : Nat) : Int) = 0 from rfl) (i3I (y := (x12 / 24)) (i3D (rfl : i3 x12 = i3 x12) (show (24 : Int32) = i3 24 from rfl) (by omega) (by omega) (by omega) (by omega)) (by omega) (by omega) (by omega))) (rfl : i3 x11 = i3 x11) (by omega) (by omega) (by omega) (by omega)) (fun h9 => ?_) (fun h9 => ?_)
      · replace hP := zE_p hP h9
        have r10 := zH_k hZ 43 x0b x9ij 2 (lo := 0) (hi := 9) (by decide) rfl
        refine wz_br (i3Le (i3S (rfl : i3 x11 = i3 x11) (i3A (zm_rd (Z := Z) (ν := ν) (k := 43) (rfl : ((x0b : Nat) : Int) = x0b) ex9i (show ((2 : Nat) : Int) = 2 from rfl)) (rfl : i3 x10 = i3 x10))) (zm_rd (Z := Z) (ν := ν) (k := 12) (rfl : ((x0b : Nat) : Int) = x0b) (show ((0 : Nat) : Int) = 0 from rfl) (i3I (y := (x12 / 24)) (i3D (rfl : i3 x12 = i3 x12) (show (24 : Int32) = i3 24 from rfl) (by omega) (by omega) (by omega) (by omega)) (by omega) (by omega) (by omega))) (by omega) (by omega) (by omega) (by omega)) (fun h11 => ?_) (fun h11 => ?_)
        · replace hP := zE_p hP h11
          have r12 := zH_k hZ 43 x0b x9ij 3 (lo := 0) (hi := 40) (by decide) rfl
          refine wz_br (i3Le (zm_rd (Z := Z) (ν := ν) (k := 43) (rfl : ((x0b : Nat) : Int) = x0b) ex9i (show ((3 : Nat) : Int) = 3 from rfl)) (zm_rd (Z := Z) (ν := ν) (k := 12) (rfl : ((x0b : Nat) : Int) = x0b) (show ((0 : Nat) : Int) = 0 from rfl) (i3I (y := (x12 / 24)) (i3D (rfl : i3 x12 = i3 x12) (show (24 : Int32) = i3 24 from rfl) (by omega) (by omega) (by omega) (by omega)) (by omega) (by omega) (by omega))) (by omega) (by omega) (by omega) (by omega)) (fun h13 => ?_) (fun h13 => ?_)
          · replace hP := zE_p hP h13
            have r14 := zH_k hZ 43 x0b x9ij 1 (lo := 0) (hi := 9) (by decide) rfl
            refine wz_br (i3Le (i3S (zm_rd (Z := Z) (ν := ν) (k := 12) (rfl : ((x0b : Nat) : Int) = x0b) (show ((0 : Nat) : Int) = 0 from rfl) (i3I (y := (x12 / 24)) (i3D (rfl : i3 x12 = i3 x12) (show (24 : Int32) = i3 24 from rfl) (by omega) (by omega) (by omega) (by omega)) (by omega) (by omega) (by omega))) (zm_rd (Z := Z) (ν := ν) (k := 43) (rfl : ((x0b : Nat) : Int) = x0b) ex9i (show ((1 : Nat) : Int) = 1 from rfl))) (zm_rd (Z := Z) (ν := ν) (k := 43) (rfl : ((x0b : Nat) : Int) = x0b) ex9i (show ((3 : Nat) : Int) = 3 from rfl)) (by omega) (by omega) (by omega) (by omega)) (fun h15 => ?_) (fun h15 => ?_)
            · replace hP := zE_p hP h15
              refine wz_i0 (Eq.trans (i3E (rfl : i3 x8 = i3 x8) (show (0 : Int32) = i3 0 from rfl) (by omega) (by omega) (by omega) (by omega)) (decide_eq_false (by omega))) ?_
              have r16 := zH_k hZ 43 x0b x9ij 4 (lo := 0) (hi := 1) (by decide) rfl
              refine wz_br (i3NE (zm_rd (Z := Z) (ν := ν) (k := 43) (rfl : ((x0b : Nat) : Int) = x0b) ex9i (show ((4 : Nat) : Int) = 4 from rfl)) (show (1 : Int32) = i3 1 from rfl) (by omega) (by omega) (by omega) (by omega)) (fun h17 => ?_) (fun h17 => ?_)
              · replace hP := zE_p hP h17
                have r18 := zH_k hZ 41 x0b x6ij 0 (lo := 0) (hi := 9) (by decide) rfl
                have r19 := zH_k hZ 41 x0b x6ij 1 (lo := 0) (hi := 12) (by decide) rfl
                have r20 := z_mul (x := (Z 41 x0b x6ij 0)) (y := (max 0 ((Z 43 x0b x9ij 3) - (Z 41 x0b x6ij 1)))) (a := 9) (b := 40) (by omega) (by omega) (by omega) (by omega)
                have r21 := w3_r (x7 + (((Z 41 x0b x6ij 0) * (max 0 ((Z 43 x0b x9ij 3) - (Z 41 x0b x6ij 1)))) / 8))
                obtain ⟨m2, rfl⟩ : ∃ m2, m = m2 + 1 := ⟨m - 1, by omega⟩
                exact wz_k1 ⟨m2, by omega, (min (w3 (x7 + (((Z 41 x0b x6ij 0) * (max 0 ((Z 43 x0b x9ij 3) - (Z 41 x0b x6ij 1)))) / 8))) 2000), 0, (Z 43 x0b x9ij 3), (x12 + 1), (zconso rfl (zconso rfl (zconso rfl (zconso rfl (zconso (zvo (rfl : i3 x4 = i3 x4)) (zconso rfl (zconso rfl (zconso (zvo (i3Mn (i3W (i3A (rfl : i3 x7 = i3 x7) (i3D (i3M (zm_rd (Z := Z) (ν := ν) (k := 41) (rfl : ((x0b : Nat) : Int) = x0b) ex6i (show ((0 : Nat) : Int) = 0 from rfl)) (i3Mx (show (0 : Int32) = i3 0 from rfl) (i3S (zm_rd (Z := Z) (ν := ν) (k := 43) (rfl : ((x0b : Nat) : Int) = x0b) ex9i (show ((3 : Nat) : Int) = 3 from rfl)) (zm_rd (Z := Z) (ν := ν) (k := 41) (rfl : ((x0b : Nat) : Int) = x0b) ex6i (show ((1 : Nat) : Int) = 1 from rfl))) (by omega) (by omega) (by omega) (by omega))) (show (8 : Int32) = i3 8 from rfl) (by omega) (by omega) (by omega) (by omega)))) (show (2000 : Int32) = i3 2000 from rfl) (by omega) (by omega) (by omega) (by omega))) (zconso (zvo (rfl : i3 x8 = i3 x8)) (zconso rfl (zconso (zvo (show (0 : Int32) = i3 0 from rfl)) (zconso (zvo (zm_rd (Z := Z) (ν := ν) (k := 43) (rfl : ((x0b : Nat) : Int) = x0b) ex9i (show ((3 : Nat) : Int) = 3 from rfl))) (zconso (zvo (i3A (rfl : i3 x12 = i3 x12) (show (1 : Int32) = i3 1 from rfl))) (zconso rfl rfl)))))))))))))), rfl,  by omega, by omega, by omega, by omega, by omega,  hP⟩
              · replace hP := zE_n hP h17
                have r22 := zH_k hZ 41 x0b x6ij 0 (lo := 0) (hi := 9) (by decide) rfl
                have r23 := zH_k hZ 41 x0b x6ij 1 (lo := 0) (hi := 12) (by decide) rfl
                have r24 := z_mul (x := (Z 41 x0b x6ij 0)) (y := (max 0 ((Z 43 x0b x9ij 3) - (Z 41 x0b x6ij 1)))) (a := 9) (b := 40) (by omega) (by omega) (by omega) (by omega)
                have r25 := w3_r (x7 + (2 * (((Z 41 x0b x6ij 0) * (max 0 ((Z 43 x0b x9ij 3) - (Z 41 x0b x6ij 1)))) / 8)))
                obtain ⟨m2, rfl⟩ : ∃ m2, m = m2 + 1 := ⟨m - 1, by omega⟩
                exact wz_k1 ⟨m2, by omega, (min (w3 (x7 + (2 * (((Z 41 x0b x6ij 0) * (max 0 ((Z 43 x0b x9ij 3) - (Z 41 x0b x6ij 1)))) / 8)))) 2000), 0, (Z 43 x0b x9ij 3), (x12 + 1), (zconso rfl (zconso rfl (zconso rfl (zconso rfl (zconso (zvo (rfl : i3 x4 = i3 x4)) (zconso rfl (zconso rfl (zconso (zvo (i3Mn (i3W (i3A (rfl : i3 x7 = i3 x7) (i3M (show (2 : Int32) = i3 2 from rfl) (i3D (i3M (zm_rd (Z := Z) (ν := ν) (k := 41) (rfl : ((x0b : Nat) : Int) = x0b) ex6i (show ((0 : Nat) : Int) = 0 from rfl)) (i3Mx (show (0 : Int32) = i3 0 from rfl) (i3S (zm_rd (Z := Z) (ν := ν) (k := 43) (rfl : ((x0b : Nat) : Int) = x0b) ex9i (show ((3 : Nat) : Int) = 3 from rfl)) (zm_rd (Z := Z) (ν := ν) (k := 41) (rfl : ((x0b : Nat) : Int) = x0b) ex6i (show ((1 : Nat) : Int) = 1 from rfl))) (by omega) (by omega) (by omega) (by omega))) (show (8 : Int32) = i3 8 from rfl) (by omega) (by omega) (by omega) (by omega))))) (show (2000 : Int32) = i3 2000 from rfl) (by omega) (by omega) (by omega) (by omega))) (zconso (zvo (rfl : i3 x8 = i3 x8)) (zconso rfl (zconso (zvo (show (0 : Int32) = i3 0 from rfl)) (zconso (zvo (zm_rd (Z := Z) (ν := ν) (k := 43) (rfl : ((x0b : Nat) : Int) = x0b) ex9i (show ((3 : Nat) : Int) = 3 from rfl))) (zconso (zvo (i3A (rfl : i3 x12 = i3 x12) (show (1 : Int32) = i3 1 from rfl))) (zconso rfl rfl)))))))))))))), rfl,  by omega, by omega, by omega, by omega, by omega,  hP⟩
            · replace hP := zE_n hP h15
              refine wz_i0 (Eq.trans (i3E (rfl : i3 x8 = i3 x8) (show (0 : Int32) = i3 0 from rfl) (by omega) (by omega) (by omega) (by omega)) (decide_eq_false (by omega))) ?_
              have r26 := zH_k hZ 43 x0b x9ij 4 (lo := 0) (hi := 1) (by decide) rfl
              refine wz_br (i3NE (zm_rd (Z := Z) (ν := ν) (k := 43) (rfl : ((x0b : Nat) : Int) = x0b) ex9i (show ((4 : Nat) : Int) = 4 from rfl)) (show (1 : Int32) = i3 1 from rfl) (by omega) (by omega) (by omega) (by omega)) (fun h27 => ?_) (fun h27 => ?_)
              · replace hP := zE_p hP h27
                have r28 := zH_k hZ 41 x0b x6ij 0 (lo := 0) (hi := 9) (by decide) rfl
                have r29 := zH_k hZ 41 x0b x6ij 1 (lo := 0) (hi := 12) (by decide) rfl
                have r30 := z_mul (x := (Z 41 x0b x6ij 0)) (y := (max 0 (((Z 12 x0b 0 (x12 / 24)) - (Z 43 x0b x9ij 1)) - (Z 41 x0b x6ij 1)))) (a := 9) (b := 40) (by omega) (by omega) (by omega) (by omega)
                have r31 := w3_r (x7 + (((Z 41 x0b x6ij 0) * (max 0 (((Z 12 x0b 0 (x12 / 24)) - (Z 43 x0b x9ij 1)) - (Z 41 x0b x6ij 1)))) / 8))
                obtain ⟨m2, rfl⟩ : ∃ m2, m = m2 + 1 := ⟨m - 1, by omega⟩
                exact wz_k1 ⟨m2, by omega, (min (w3 (x7 + (((Z 41 x0b x6ij 0) * (max 0 (((Z 12 x0b 0 (x12 / 24)) - (Z 43 x0b x9ij 1)) - (Z 41 x0b x6ij 1)))) / 8))) 2000), 0, ((Z 12 x0b 0 (x12 / 24)) - (Z 43 x0b x9ij 1)), (x12 + 1), (zconso rfl (zconso rfl (zconso rfl (zconso rfl (zconso (zvo (rfl : i3 x4 = i3 x4)) (zconso rfl (zconso rfl (zconso (zvo (i3Mn (i3W (i3A (rfl : i3 x7 = i3 x7) (i3D (i3M (zm_rd (Z := Z) (ν := ν) (k := 41) (rfl : ((x0b : Nat) : Int) = x0b) ex6i (show ((0 : Nat) : Int) = 0 from rfl)) (i3Mx (show (0 : Int32) = i3 0 from rfl) (i3S (i3S (zm_rd (Z := Z) (ν := ν) (k := 12) (rfl : ((x0b : Nat) : Int) = x0b) (show ((0 : Nat) : Int) = 0 from rfl) (i3I (y := (x12 / 24)) (i3D (rfl : i3 x12 = i3 x12) (show (24 : Int32) = i3 24 from rfl) (by omega) (by omega) (by omega) (by omega)) (by omega) (by omega) (by omega))) (zm_rd (Z := Z) (ν := ν) (k := 43) (rfl : ((x0b : Nat) : Int) = x0b) ex9i (show ((1 : Nat) : Int) = 1 from rfl))) (zm_rd (Z := Z) (ν := ν) (k := 41) (rfl : ((x0b : Nat) : Int) = x0b) ex6i (show ((1 : Nat) : Int) = 1 from rfl))) (by omega) (by omega) (by omega) (by omega))) (show (8 : Int32) = i3 8 from rfl) (by omega) (by omega) (by omega) (by omega)))) (show (2000 : Int32) = i3 2000 from rfl) (by omega) (by omega) (by omega) (by omega))) (zconso (zvo (rfl : i3 x8 = i3 x8)) (zconso rfl (zconso (zvo (show (0 : Int32) = i3 0 from rfl)) (zconso (zvo (i3S (zm_rd (Z := Z) (ν := ν) (k := 12) (rfl : ((x0b : Nat) : Int) = x0b) (show ((0 : Nat) : Int) = 0 from rfl) (i3I (y := (x12 / 24)) (i3D (rfl : i3 x12 = i3 x12) (show (24 : Int32) = i3 24 from rfl) (by omega) (by omega) (by omega) (by omega)) (by omega) (by omega) (by omega))) (zm_rd (Z := Z) (ν := ν) (k := 43) (rfl : ((x0b : Nat) : Int) = x0b) ex9i (show ((1 : Nat) : Int) = 1 from rfl)))) (zconso (zvo (i3A (rfl : i3 x12 = i3 x12) (show (1 : Int32) = i3 1 from rfl))) (zconso rfl rfl)))))))))))))), rfl,  by omega, by omega, by omega, by omega, by omega,  hP⟩
              · replace hP := zE_n hP h27
                have r32 := zH_k hZ 41 x0b x6ij 0 (lo := 0) (hi := 9) (by decide) rfl
                have r33 := zH_k hZ 41 x0b x6ij 1 (lo := 0) (hi := 12) (by decide) rfl
                have r34 := z_mul (x := (Z 41 x0b x6ij 0)) (y := (max 0 (((Z 12 x0b 0 (x12 / 24)) - (Z 43 x0b x9ij 1)) - (Z 41 x0b x6ij 1)))) (a := 9) (b := 40) (by omega) (by omega) (by omega) (by omega)
                have r35 := w3_r (x7 + (2 * (((Z 41 x0b x6ij 0) * (max 0 (((Z 12 x0b 0 (x12 / 24)) - (Z 43 x0b x9ij 1)) - (Z 41 x0b x6ij 1)))) / 8)))
                obtain ⟨m2, rfl⟩ : ∃ m2, m = m2 + 1 := ⟨m - 1, by omega⟩
                exact wz_k1 ⟨m2, by omega, (min (w3 (x7 + (2 * (((Z 41 x0b x6ij 0) * (max 0 (((Z 12 x0b 0 (x12 / 24)) - (Z 43 x0b x9ij 1)) - (Z 41 x0b x6ij 1)))) / 8)))) 2000), 0, ((Z 12 x0b 0 (x12 / 24)) - (Z 43 x0b x9ij 1)), (x12 + 1), (zconso rfl (zconso rfl (zconso rfl (zconso rfl (zconso (zvo (rfl : i3 x4 = i3 x4)) (zconso rfl (zconso rfl (zconso (zvo (i3Mn (i3W (i3A (rfl : i3 x7 = i3 x7) (i3M (show (2 : Int32) = i3 2 from rfl) (i3D (i3M (zm_rd (Z := Z) (ν := ν) (k := 41) (rfl : ((x0b : Nat) : Int) = x0b) ex6i (show ((0 : Nat) : Int) = 0 from rfl)) (i3Mx (show (0 : Int32) = i3 0 from rfl) (i3S (i3S (zm_rd (Z := Z) (ν := ν) (k := 12) (rfl : ((x0b : Nat) : Int) = x0b) (show ((0 : Nat) : Int) = 0 from rfl) (i3I (y := (x12 / 24)) (i3D (rfl : i3 x12 = i3 x12) (show (24 : Int32) = i3 24 from rfl) (by omega) (by omega) (by omega) (by omega)) (by omega) (by omega) (by omega))) (zm_rd (Z := Z) (ν := ν) (k := 43) (rfl : ((x0b : Nat) : Int) = x0b) ex9i (show ((1 : Nat) : Int) = 1 from rfl))) (zm_rd (Z := Z) (ν := ν) (k := 41) (rfl : ((x0b : Nat) : Int) = x0b) ex6i (show ((1 : Nat) : Int) = 1 from rfl))) (by omega) (by omega) (by omega) (by omega))) (show (8 : Int32) = i3 8 from rfl) (by omega) (by omega) (by omega) (by omega))))) (show (2000 : Int32) = i3 2000 from rfl) (by omega) (by omega) (by omega) (by omega))) (zconso (zvo (rfl : i3 x8 = i3 x8)) (zconso rfl (zconso (zvo (show (0 : Int32) = i3 0 from rfl)) (zconso (zvo (i3S (zm_rd (Z := Z) (ν := ν) (k := 12) (rfl : ((x0b : Nat) : Int) = x0b) (show ((0 : Nat) : Int) = 0 from rfl) (i3I (y := (x12 / 24)) (i3D (rfl : i3 x12 = i3 x12) (show (24 : Int32) = i3 24 from rfl) (by omega) (by omega) (by omega) (by omega)) (by omega) (by omega) (by omega))) (zm_rd (Z := Z) (ν := ν) (k := 43) (rfl : ((x0b : Nat) : Int) = x0b) ex9i (show ((1 : Nat) : Int) = 1 from rfl)))) (zconso (zvo (i3A (rfl : i3 x12 = i3 x12) (show (1 : Int32) = i3 1 from rfl))) (zconso rfl rfl)))))))))))))), rfl,  by omega, by omega, by omega, by omega, by omega,  hP⟩
          · replace hP := zE_n hP h13
            have r36 := zH_k hZ 43 x0b x9ij 1 (lo := 0) (hi := 9) (by decide) rfl
            refine wz_br (i3Le (zm_rd (Z := Z) (ν := ν) (k := 43) (rfl : ((x0b : Nat) : Int) = x0b) ex9i (show ((3 : Nat) : Int) = 3 from rfl)) (i3A (zm_rd (Z := Z) (ν := ν) (k := 12) (rfl : ((x0b : Nat) : Int) = x0b) (show ((0 : Nat) : Int) = 0 from rfl) (i3I (y := (x12 / 24)) (i3D (rfl : i3 x12 = i3 x12) (show (24 : Int32) = i3 24 from rfl) (by omega) (by omega) (by omega) (by omega)) (by omega) (by omega) (by omega))) (zm_rd (Z := Z) (ν := ν) (k := 43) (rfl : ((x0b : Nat) : Int) = x0b) ex9i (show ((1 : Nat) : Int) = 1 from rfl))) (by omega) (by omega) (by omega) (by omega)) (fun h37 => ?_) (fun h37 => ?_)
            · replace hP := zE_p hP h37
              refine wz_i0 (Eq.trans (i3E (rfl : i3 x8 = i3 x8) (show (0 : Int32) = i3 0 from rfl) (by omega) (by omega) (by omega) (by omega)) (decide_eq_false (by omega))) ?_
              have r38 := zH_k hZ 43 x0b x9ij 4 (lo := 0) (hi := 1) (by decide) rfl
              refine wz_br (i3NE (zm_rd (Z := Z) (ν := ν) (k := 43) (rfl : ((x0b : Nat) : Int) = x0b) ex9i (show ((4 : Nat) : Int) = 4 from rfl)) (show (1 : Int32) = i3 1 from rfl) (by omega) (by omega) (by omega) (by omega)) (fun h39 => ?_) (fun h39 => ?_)
              · replace hP := zE_p hP h39
                have r40 := zH_k hZ 41 x0b x6ij 0 (lo := 0) (hi := 9) (by decide) rfl
                have r41 := zH_k hZ 41 x0b x6ij 1 (lo := 0) (hi := 12) (by decide) rfl
                have r42 := z_mul (x := (Z 41 x0b x6ij 0)) (y := (max 0 ((Z 43 x0b x9ij 3) - (Z 41 x0b x6ij 1)))) (a := 9) (b := 40) (by omega) (by omega) (by omega) (by omega)
                have r43 := w3_r (x7 + (((Z 41 x0b x6ij 0) * (max 0 ((Z 43 x0b x9ij 3) - (Z 41 x0b x6ij 1)))) / 8))
                obtain ⟨m2, rfl⟩ : ∃ m2, m = m2 + 1 := ⟨m - 1, by omega⟩
                exact wz_k1 ⟨m2, by omega, (min (w3 (x7 + (((Z 41 x0b x6ij 0) * (max 0 ((Z 43 x0b x9ij 3) - (Z 41 x0b x6ij 1)))) / 8))) 2000), 0, (Z 43 x0b x9ij 3), (x12 + 1), (zconso rfl (zconso rfl (zconso rfl (zconso rfl (zconso (zvo (rfl : i3 x4 = i3 x4)) (zconso rfl (zconso rfl (zconso (zvo (i3Mn (i3W (i3A (rfl : i3 x7 = i3 x7) (i3D (i3M (zm_rd (Z := Z) (ν := ν) (k := 41) (rfl : ((x0b : Nat) : Int) = x0b) ex6i (show ((0 : Nat) : Int) = 0 from rfl)) (i3Mx (show (0 : Int32) = i3 0 from rfl) (i3S (zm_rd (Z := Z) (ν := ν) (k := 43) (rfl : ((x0b : Nat) : Int) = x0b) ex9i (show ((3 : Nat) : Int) = 3 from rfl)) (zm_rd (Z := Z) (ν := ν) (k := 41) (rfl : ((x0b : Nat) : Int) = x0b) ex6i (show ((1 : Nat) : Int) = 1 from rfl))) (by omega) (by omega) (by omega) (by omega))) (show (8 : Int32) = i3 8 from rfl) (by omega) (by omega) (by omega) (by omega)))) (show (2000 : Int32) = i3 2000 from rfl) (by omega) (by omega) (by omega) (by omega))) (zconso (zvo (rfl : i3 x8 = i3 x8)) (zconso rfl (zconso (zvo (show (0 : Int32) = i3 0 from rfl)) (zconso (zvo (zm_rd (Z := Z) (ν := ν) (k := 43) (rfl : ((x0b : Nat) : Int) = x0b) ex9i (show ((3 : Nat) : Int) = 3 from rfl))) (zconso (zvo (i3A (rfl : i3 x12 = i3 x12) (show (1 : Int32) = i3 1 from rfl))) (zconso rfl rfl)))))))))))))), rfl,  by omega, by omega, by omega, by omega, by omega,  hP⟩
              · replace hP := zE_n hP h39
                have r44 := zH_k hZ 41 x0b x6ij 0 (lo := 0) (hi := 9) (by decide) rfl
                have r45 := zH_k hZ 41 x0b x6ij 1 (lo := 0) (hi := 12) (by decide) rfl
                have r46 := z_mul (x := (Z 41 x0b x6ij 0)) (y := (max 0 ((Z 43 x0b x9ij 3) - (Z 41 x0b x6ij 1)))) (a := 9) (b := 40) (by omega) (by omega) (by omega) (by omega)
                have r47 := w3_r (x7 + (2 * (((Z 41 x0b x6ij 0) * (max 0 ((Z 43 x0b x9ij 3) - (Z 41 x0b x6ij 1)))) / 8)))
                obtain ⟨m2, rfl⟩ : ∃ m2, m = m2 + 1 := ⟨m - 1, by omega⟩
                exact wz_k1 ⟨m2, by omega, (min (w3 (x7 + (2 * (((Z 41 x0b x6ij 0) * (max 0 ((Z 43 x0b x9ij 3) - (Z 41 x0b x6ij 1)))) / 8)))) 2000), 0, (Z 43 x0b x9ij 3), (x12 + 1), (zconso rfl (zconso rfl (zconso rfl (zconso rfl (zconso (zvo (rfl : i3 x4 = i3 x4)) (zconso rfl (zconso rfl (zconso (zvo (i3Mn (i3W (i3A (rfl : i3 x7 = i3 x7) (i3M (show (2 : Int32) = i3 2 from rfl) (i3D (i3M (zm_rd (Z := Z) (ν := ν) (k := 41) (rfl : ((x0b : Nat) : Int) = x0b) ex6i (show ((0 : Nat) : Int) = 0 from rfl)) (i3Mx (show (0 : Int32) = i3 0 from rfl) (i3S (zm_rd (Z := Z) (ν := ν) (k := 43) (rfl : ((x0b : Nat) : Int) = x0b) ex9i (show ((3 : Nat) : Int) = 3 from rfl)) (zm_rd (Z := Z) (ν := ν) (k := 41) (rfl : ((x0b : Nat) : Int) = x0b) ex6i (show ((1 : Nat) : Int) = 1 from rfl))) (by omega) (by omega) (by omega) (by omega))) (show (8 : Int32) = i3 8 from rfl) (by omega) (by omega) (by omega) (by omega))))) (show (2000 : Int32) = i3 2000 from rfl) (by omega) (by omega) (by omega) (by omega))) (zconso (zvo (rfl : i3 x8 = i3 x8)) (zconso rfl (zconso (zvo (show (0 : Int32) = i3 0 from rfl)) (zconso (zvo (zm_rd (Z := Z) (ν := ν) (k := 43) (rfl : ((x0b : Nat) : Int) = x0b) ex9i (show ((3 : Nat) : Int) = 3 from rfl))) (zconso (zvo (i3A (rfl : i3 x12 = i3 x12) (show (1 : Int32) = i3 1 from rfl))) (zconso rfl rfl)))))))))))))), rfl,  by omega, by omega, by omega, by omega, by omega,  hP⟩
            · replace hP := zE_n hP h37
              refine wz_i0 (Eq.trans (i3E (rfl : i3 x8 = i3 x8) (show (0 : Int32) = i3 0 from rfl) (by omega) (by omega) (by omega) (by omega)) (decide_eq_false (by omega))) ?_
              have r48 := zH_k hZ 43 x0b x9ij 4 (lo := 0) (hi := 1) (by decide) rfl
              refine wz_br (i3NE (zm_rd (Z := Z) (ν := ν) (k := 43) (rfl : ((x0b : Nat) : Int) = x0b) ex9i (show ((4 : Nat) : Int) = 4 from rfl)) (show (1 : Int32) = i3 1 from rfl) (by omega) (by omega) (by omega) (by omega)) (fun h49 => ?_) (fun h49 => ?_)
              · replace hP := zE_p hP h49
                have r50 := zH_k hZ 41 x0b x6ij 0 (lo := 0) (hi := 9) (by decide) rfl
                have r51 := zH_k hZ 41 x0b x6ij 1 (lo := 0) (hi := 12) (by decide) rfl
                have r52 := z_mul (x := (Z 41 x0b x6ij 0)) (y := (max 0 (((Z 12 x0b 0 (x12 / 24)) + (Z 43 x0b x9ij 1)) - (Z 41 x0b x6ij 1)))) (a := 9) (b := 48) (by omega) (by omega) (by omega) (by omega)
                have r53 := w3_r (x7 + (((Z 41 x0b x6ij 0) * (max 0 (((Z 12 x0b 0 (x12 / 24)) + (Z 43 x0b x9ij 1)) - (Z 41 x0b x6ij 1)))) / 8))
                obtain ⟨m2, rfl⟩ : ∃ m2, m = m2 + 1 := ⟨m - 1, by omega⟩
                exact wz_k1 ⟨m2, by omega, (min (w3 (x7 + (((Z 41 x0b x6ij 0) * (max 0 (((Z 12 x0b 0 (x12 / 24)) + (Z 43 x0b x9ij 1)) - (Z 41 x0b x6ij 1)))) / 8))) 2000), 0, ((Z 12 x0b 0 (x12 / 24)) + (Z 43 x0b x9ij 1)), (x12 + 1), (zconso rfl (zconso rfl (zconso rfl (zconso rfl (zconso (zvo (rfl : i3 x4 = i3 x4)) (zconso rfl (zconso rfl (zconso (zvo (i3Mn (i3W (i3A (rfl : i3 x7 = i3 x7) (i3D (i3M (zm_rd (Z := Z) (ν := ν) (k := 41) (rfl : ((x0b : Nat) : Int) = x0b) ex6i (show ((0 : Nat) : Int) = 0 from rfl)) (i3Mx (show (0 : Int32) = i3 0 from rfl) (i3S (i3A (zm_rd (Z := Z) (ν := ν) (k := 12) (rfl : ((x0b : Nat) : Int) = x0b) (show ((0 : Nat) : Int) = 0 from rfl) (i3I (y := (x12 / 24)) (i3D (rfl : i3 x12 = i3 x12) (show (24 : Int32) = i3 24 from rfl) (by omega) (by omega) (by omega) (by omega)) (by omega) (by omega) (by omega))) (zm_rd (Z := Z) (ν := ν) (k := 43) (rfl : ((x0b : Nat) : Int) = x0b) ex9i (show ((1 : Nat) : Int) = 1 from rfl))) (zm_rd (Z := Z) (ν := ν) (k := 41) (rfl : ((x0b : Nat) : Int) = x0b) ex6i (show ((1 : Nat) : Int) = 1 from rfl))) (by omega) (by omega) (by omega) (by omega))) (show (8 : Int32) = i3 8 from rfl) (by omega) (by omega) (by omega) (by omega)))) (show (2000 : Int32) = i3 2000 from rfl) (by omega) (by omega) (by omega) (by omega))) (zconso (zvo (rfl : i3 x8 = i3 x8)) (zconso rfl (zconso (zvo (show (0 : Int32) = i3 0 from rfl)) (zconso (zvo (i3A (zm_rd (Z := Z) (ν := ν) (k := 12) (rfl : ((x0b : Nat) : Int) = x0b) (show ((0 : Nat) : Int) = 0 from rfl) (i3I (y := (x12 / 24)) (i3D (rfl : i3 x12 = i3 x12) (show (24 : Int32) = i3 24 from rfl) (by omega) (by omega) (by omega) (by omega)) (by omega) (by omega) (by omega))) (zm_rd (Z := Z) (ν := ν) (k := 43) (rfl : ((x0b : Nat) : Int) = x0b) ex9i (show ((1 : Nat) : Int) = 1 from rfl)))) (zconso (zvo (i3A (rfl : i3 x12 = i3 x12) (show (1 : Int32) = i3 1 from rfl))) (zconso rfl rfl)))))))))))))), rfl,  by omega, by omega, by omega, by omega, by omega,  hP⟩
              · replace hP := zE_n hP h49
                have r54 := zH_k hZ 41 x0b x6ij 0 (lo := 0) (hi := 9) (by decide) rfl
                have r55 := zH_k hZ 41 x0b x6ij 1 (lo := 0) (hi := 12) (by decide) rfl
                have r56 := z_mul (x := (Z 41 x0b x6ij 0)) (y := (max 0 (((Z 12 x0b 0 (x12 / 24)) + (Z 43 x0b x9ij 1)) - (Z 41 x0b x6ij 1)))) (a := 9) (b := 48) (by omega) (by omega) (by omega) (by omega)
                have r57 := w3_r (x7 + (2 * (((Z 41 x0b x6ij 0) * (max 0 (((Z 12 x0b 0 (x12 / 24)) + (Z 43 x0b x9ij 1)) - (Z 41 x0b x6ij 1)))) / 8)))
                obtain ⟨m2, rfl⟩ : ∃ m2, m = m2 + 1 := ⟨m - 1, by omega⟩
                exact wz_k1 ⟨m2, by omega, (min (w3 (x7 + (2 * (((Z 41 x0b x6ij 0) * (max 0 (((Z 12 x0b 0 (x12 / 24)) + (Z 43 x0b x9ij 1)) - (Z 41 x0b x6ij 1)))) / 8)))) 2000), 0, ((Z 12 x0b 0 (x12 / 24)) + (Z 43 x0b x9ij 1)), (x12 + 1), (zconso rfl (zconso rfl (zconso rfl (zconso rfl (zconso (zvo (rfl : i3 x4 = i3 x4)) (zconso rfl (zconso rfl (zconso (zvo (i3Mn (i3W (i3A (rfl : i3 x7 = i3 x7) (i3M (show (2 : Int32) = i3 2 from rfl) (i3D (i3M (zm_rd (Z := Z) (ν := ν) (k := 41) (rfl : ((x0b : Nat) : Int) = x0b) ex6i (show ((0 : Nat) : Int) = 0 from rfl)) (i3Mx (show (0 : Int32) = i3 0 from rfl) (i3S (i3A (zm_rd (Z := Z) (ν := ν) (k := 12) (rfl : ((x0b : Nat) : Int) = x0b) (show ((0 : Nat) : Int) = 0 from rfl) (i3I (y := (x12 / 24)) (i3D (rfl : i3 x12 = i3 x12) (show (24 : Int32) = i3 24 from rfl) (by omega) (by omega) (by omega) (by omega)) (by omega) (by omega) (by omega))) (zm_rd (Z := Z) (ν := ν) (k := 43) (rfl : ((x0b : Nat) : Int) = x0b) ex9i (show ((1 : Nat) : Int) = 1 from rfl))) (zm_rd (Z := Z) (ν := ν) (k := 41) (rfl : ((x0b : Nat) : Int) = x0b) ex6i (show ((1 : Nat) : Int) = 1 from rfl))) (by omega) (by omega) (by omega) (by omega))) (show (8 : Int32) = i3 8 from rfl) (by omega) (by omega) (by omega) (by omega))))) (show (2000 : Int32) = i3 2000 from rfl) (by omega) (by omega) (by omega) (by omega))) (zconso (zvo (rfl : i3 x8 = i3 x8)) (zconso rfl (zconso (zvo (show (0 : Int32) = i3 0 from rfl)) (zconso (zvo (i3A (zm_rd (Z := Z) (ν := ν) (k := 12) (rfl : ((x0b : Nat) : Int) = x0b) (show ((0 : Nat) : Int) = 0 from rfl) (i3I (y := (x12 / 24)) (i3D (rfl : i3 x12 = i3 x12) (show (24 : Int32) = i3 24 from rfl) (by omega) (by omega) (by omega) (by omega)) (by omega) (by omega) (by omega))) (zm_rd (Z := Z) (ν := ν) (k := 43) (rfl : ((x0b : Nat) : Int) = x0b) ex9i (show ((1 : Nat) : Int) = 1 from rfl)))) (zconso (zvo (i3A (rfl : i3 x12 = i3 x12) (show (1 : Int32) = i3 1 from rfl))) (zconso rfl rfl)))))))))))))), rfl,  by omega, by omega, by omega, by omega, by omega,  hP⟩
        · replace hP := zE_n hP h11
          have r58 := zH_k hZ 43 x0b x9ij 3 (lo := 0) (hi := 40) (by decide) rfl
          refine wz_br (i3Le (zm_rd (Z := Z) (ν := ν) (k := 43) (rfl : ((x0b : Nat) : Int) = x0b) ex9i (show ((3 : Nat) : Int) = 3 from rfl)) (i3S (rfl : i3 x11 = i3 x11) (i3A (zm_rd (Z := Z) (ν := ν) (k := 43) (rfl : ((x0b : Nat) : Int) = x0b) ex9i (show ((2 : Nat) : Int) = 2 from rfl)) (rfl : i3 x10 = i3 x10))) (by omega) (by omega) (by omega) (by omega)) (fun h59 => ?_) (fun h59 => ?_)
          · replace hP := zE_p hP h59
            have r60 := zH_k hZ 43 x0b x9ij 1 (lo := 0) (hi := 9) (by decide) rfl
            refine wz_br (i3Le (i3S (i3S (rfl : i3 x11 = i3 x11) (i3A (zm_rd (Z := Z) (ν := ν) (k := 43) (rfl : ((x0b : Nat) : Int) = x0b) ex9i (show ((2 : Nat) : Int) = 2 from rfl)) (rfl : i3 x10 = i3 x10))) (zm_rd (Z := Z) (ν := ν) (k := 43) (rfl : ((x0b : Nat) : Int) = x0b) ex9i (show ((1 : Nat) : Int) = 1 from rfl))) (zm_rd (Z := Z) (ν := ν) (k := 43) (rfl : ((x0b : Nat) : Int) = x0b) ex9i (show ((3 : Nat) : Int) = 3 from rfl)) (by omega) (by omega) (by omega) (by omega)) (fun h61 => ?_) (fun h61 => ?_)
            · replace hP := zE_p hP h61
              refine wz_i0 (Eq.trans (i3E (rfl : i3 x8 = i3 x8) (show (0 : Int32) = i3 0 from rfl) (by omega) (by omega) (by omega) (by omega)) (decide_eq_false (by omega))) ?_
              have r62 := zH_k hZ 43 x0b x9ij 4 (lo := 0) (hi := 1) (by decide) rfl
              refine wz_br (i3NE (zm_rd (Z := Z) (ν := ν) (k := 43) (rfl : ((x0b : Nat) : Int) = x0b) ex9i (show ((4 : Nat) : Int) = 4 from rfl)) (show (1 : Int32) = i3 1 from rfl) (by omega) (by omega) (by omega) (by omega)) (fun h63 => ?_) (fun h63 => ?_)
              · replace hP := zE_p hP h63
                have r64 := zH_k hZ 41 x0b x6ij 0 (lo := 0) (hi := 9) (by decide) rfl
                have r65 := zH_k hZ 41 x0b x6ij 1 (lo := 0) (hi := 12) (by decide) rfl
                have r66 := z_mul (x := (Z 41 x0b x6ij 0)) (y := (max 0 ((Z 43 x0b x9ij 3) - (Z 41 x0b x6ij 1)))) (a := 9) (b := 40) (by omega) (by omega) (by omega) (by omega)
                have r67 := w3_r (x7 + (((Z 41 x0b x6ij 0) * (max 0 ((Z 43 x0b x9ij 3) - (Z 41 x0b x6ij 1)))) / 8))
                obtain ⟨m2, rfl⟩ : ∃ m2, m = m2 + 1 := ⟨m - 1, by omega⟩
                exact wz_k1 ⟨m2, by omega, (min (w3 (x7 + (((Z 41 x0b x6ij 0) * (max 0 ((Z 43 x0b x9ij 3) - (Z 41 x0b x6ij 1)))) / 8))) 2000), 0, (Z 43 x0b x9ij 3), (x12 + 1), (zconso rfl (zconso rfl (zconso rfl (zconso rfl (zconso (zvo (rfl : i3 x4 = i3 x4)) (zconso rfl (zconso rfl (zconso (zvo (i3Mn (i3W (i3A (rfl : i3 x7 = i3 x7) (i3D (i3M (zm_rd (Z := Z) (ν := ν) (k := 41) (rfl : ((x0b : Nat) : Int) = x0b) ex6i (show ((0 : Nat) : Int) = 0 from rfl)) (i3Mx (show (0 : Int32) = i3 0 from rfl) (i3S (zm_rd (Z := Z) (ν := ν) (k := 43) (rfl : ((x0b : Nat) : Int) = x0b) ex9i (show ((3 : Nat) : Int) = 3 from rfl)) (zm_rd (Z := Z) (ν := ν) (k := 41) (rfl : ((x0b : Nat) : Int) = x0b) ex6i (show ((1 : Nat) : Int) = 1 from rfl))) (by omega) (by omega) (by omega) (by omega))) (show (8 : Int32) = i3 8 from rfl) (by omega) (by omega) (by omega) (by omega)))) (show (2000 : Int32) = i3 2000 from rfl) (by omega) (by omega) (by omega) (by omega))) (zconso (zvo (rfl : i3 x8 = i3 x8)) (zconso rfl (zconso (zvo (show (0 : Int32) = i3 0 from rfl)) (zconso (zvo (zm_rd (Z := Z) (ν := ν) (k := 43) (rfl : ((x0b : Nat) : Int) = x0b) ex9i (show ((3 : Nat) : Int) = 3 from rfl))) (zconso (zvo (i3A (rfl : i3 x12 = i3 x12) (show (1 : Int32) = i3 1 from rfl))) (zconso rfl rfl)))))))))))))), rfl,  by omega, by omega, by omega, by omega, by omega,  hP⟩
              · replace hP := zE_n hP h63
                have r68 := zH_k hZ 41 x0b x6ij 0 (lo := 0) (hi := 9) (by decide) rfl
                have r69 := zH_k hZ 41 x0b x6ij 1 (lo := 0) (hi := 12) (by decide) rfl
                have r70 := z_mul (x := (Z 41 x0b x6ij 0)) (y := (max 0 ((Z 43 x0b x9ij 3) - (Z 41 x0b x6ij 1)))) (a := 9) (b := 40) (by omega) (by omega) (by omega) (by omega)
                have r71 := w3_r (x7 + (2 * (((Z 41 x0b x6ij 0) * (max 0 ((Z 43 x0b x9ij 3) - (Z 41 x0b x6ij 1)))) / 8)))
                obtain ⟨m2, rfl⟩ : ∃ m2, m = m2 + 1 := ⟨m - 1, by omega⟩
                exact wz_k1 ⟨m2, by omega, (min (w3 (x7 + (2 * (((Z 41 x0b x6ij 0) * (max 0 ((Z 43 x0b x9ij 3) - (Z 41 x0b x6ij 1)))) / 8)))) 2000), 0, (Z 43 x0b x9ij 3), (x12 + 1), (zconso rfl (zconso rfl (zconso rfl (zconso rfl (zconso (zvo (rfl : i3 x4 = i3 x4)) (zconso rfl (zconso rfl (zconso (zvo (i3Mn (i3W (i3A (rfl : i3 x7 = i3 x7) (i3M (show (2 : Int32) = i3 2 from rfl) (i3D (i3M (zm_rd (Z := Z) (ν := ν) (k := 41) (rfl : ((x0b : Nat) : Int) = x0b) ex6i (show ((0 : Nat) : Int) = 0 from rfl)) (i3Mx (show (0 : Int32) = i3 0 from rfl) (i3S (zm_rd (Z := Z) (ν := ν) (k := 43) (rfl : ((x0b : Nat) : Int) = x0b) ex9i (show ((3 : Nat) : Int) = 3 from rfl)) (zm_rd (Z := Z) (ν := ν) (k := 41) (rfl : ((x0b : Nat) : Int) = x0b) ex6i (show ((1 : Nat) : Int) = 1 from rfl))) (by omega) (by omega) (by omega) (by omega))) (show (8 : Int32) = i3 8 from rfl) (by omega) (by omega) (by omega) (by omega))))) (show (2000 : Int32) = i3 2000 from rfl) (by omega) (by omega) (by omega) (by omega))) (zconso (zvo (rfl : i3 x8 = i3 x8)) (zconso rfl (zconso (zvo (show (0 : Int32) = i3 0 from rfl)) (zconso (zvo (zm_rd (Z := Z) (ν := ν) (k := 43) (rfl : ((x0b : Nat) : Int) = x0b) ex9i (show ((3 : Nat) : Int) = 3 from rfl))) (zconso (zvo (i3A (rfl : i3 x12 = i3 x12) (show (1 : Int32) = i3 1 from rfl))) (zconso rfl rfl)))))))))))))), rfl,  by omega, by omega, by omega, by omega, by omega,  hP⟩
            · replace hP := zE_n hP h61
              refine wz_i0 (Eq.trans (i3E (rfl : i3 x8 = i3 x8) (show (0 : Int32) = i3 0 from rfl) (by omega) (by omega) (by omega) (by omega)) (decide_eq_false (by omega))) ?_
              have r72 := zH_k hZ 43 x0b x9ij 4 (lo := 0) (hi := 1) (by decide) rfl
              refine wz_br (i3NE (zm_rd (Z := Z) (ν := ν) (k := 43) (rfl : ((x0b : Nat) : Int) = x0b) ex9i (show ((4 : Nat) : Int) = 4 from rfl)) (show (1 : Int32) = i3 1 from rfl) (by omega) (by omega) (by omega) (by omega)) (fun h73 => ?_) (fun h73 => ?_)
              · replace hP := zE_p hP h73
                have r74 := zH_k hZ 41 x0b x6ij 0 (lo := 0) (hi := 9) (by decide) rfl
                have r75 := zH_k hZ 41 x0b x6ij 1 (lo := 0) (hi := 12) (by decide) rfl
                have r76 := z_mul (x := (Z 41 x0b x6ij 0)) (y := (max 0 (((x11 - ((Z 43 x0b x9ij 2) + x10)) - (Z 43 x0b x9ij 1)) - (Z 41 x0b x6ij 1)))) (a := 9) (b := 2147483647) (by omega) (by omega) (by omega) (by omega)
                have r77 := w3_r ((Z 41 x0b x6ij 0) * (max 0 (((x11 - ((Z 43 x0b x9ij 2) + x10)) - (Z 43 x0b x9ij 1)) - (Z 41 x0b x6ij 1))))
                have r78 := z2_r (fun x y => x / y) (w3 ((Z 41 x0b x6ij 0) * (max 0 (((x11 - ((Z 43 x0b x9ij 2) + x10)) - (Z 43 x0b x9ij 1)) - (Z 41 x0b x6ij 1))))) 8
                have r79 := w3_r (x7 + (z2 (fun x y => x / y) (w3 ((Z 41 x0b x6ij 0) * (max 0 (((x11 - ((Z 43 x0b x9ij 2) + x10)) - (Z 43 x0b x9ij 1)) - (Z 41 x0b x6ij 1))))) 8))
                obtain ⟨m2, rfl⟩ : ∃ m2, m = m2 + 1 := ⟨m - 1, by omega⟩
                exact wz_k1 ⟨m2, by omega, (min (w3 (x7 + (z2 (fun x y => x / y) (w3 ((Z 41 x0b x6ij 0) * (max 0 (((x11 - ((Z 43 x0b x9ij 2) + x10)) - (Z 43 x0b x9ij 1)) - (Z 41 x0b x6ij 1))))) 8))) 2000), 0, ((x11 - ((Z 43 x0b x9ij 2) + x10)) - (Z 43 x0b x9ij 1)), (x12 + 1), (zconso rfl (zconso rfl (zconso rfl (zconso rfl (zconso (zvo (rfl : i3 x4 = i3 x4)) (zconso rfl (zconso rfl (zconso (zvo (i3Mn (i3W (i3A (rfl : i3 x7 = i3 x7) (i3Z (fun x y => x / y) (i3W (i3M (zm_rd (Z := Z) (ν := ν) (k := 41) (rfl : ((x0b : Nat) : Int) = x0b) ex6i (show ((0 : Nat) : Int) = 0 from rfl)) (i3Mx (show (0 : Int32) = i3 0 from rfl) (i3S (i3S (i3S (rfl : i3 x11 = i3 x11) (i3A (zm_rd (Z := Z) (ν := ν) (k := 43) (rfl : ((x0b : Nat) : Int) = x0b) ex9i (show ((2 : Nat) : Int) = 2 from rfl)) (rfl : i3 x10 = i3 x10))) (zm_rd (Z := Z) (ν := ν) (k := 43) (rfl : ((x0b : Nat) : Int) = x0b) ex9i (show ((1 : Nat) : Int) = 1 from rfl))) (zm_rd (Z := Z) (ν := ν) (k := 41) (rfl : ((x0b : Nat) : Int) = x0b) ex6i (show ((1 : Nat) : Int) = 1 from rfl))) (by omega) (by omega) (by omega) (by omega)))) (show (8 : Int32) = i3 8 from rfl)))) (show (2000 : Int32) = i3 2000 from rfl) (by omega) (by omega) (by omega) (by omega))) (zconso (zvo (rfl : i3 x8 = i3 x8)) (zconso rfl (zconso (zvo (show (0 : Int32) = i3 0 from rfl)) (zconso (zvo (i3S (i3S (rfl : i3 x11 = i3 x11) (i3A (zm_rd (Z := Z) (ν := ν) (k := 43) (rfl : ((x0b : Nat) : Int) = x0b) ex9i (show ((2 : Nat) : Int) = 2 from rfl)) (rfl : i3 x10 = i3 x10))) (zm_rd (Z := Z) (ν := ν) (k := 43) (rfl : ((x0b : Nat) : Int) = x0b) ex9i (show ((1 : Nat) : Int) = 1 from rfl)))) (zconso (zvo (i3A (rfl : i3 x12 = i3 x12) (show (1 : Int32) = i3 1 from rfl))) (zconso rfl rfl)))))))))))))), rfl,  by omega, by omega, by omega, by omega, by omega,  hP⟩
              · replace hP := zE_n hP h73
                have r80 := zH_k hZ 41 x0b x6ij 0 (lo := 0) (hi := 9) (by decide) rfl
                have r81 := zH_k hZ 41 x0b x6ij 1 (lo := 0) (hi := 12) (by decide) rfl
                have r82 := z_mul (x := (Z 41 x0b x6ij 0)) (y := (max 0 (((x11 - ((Z 43 x0b x9ij 2) + x10)) - (Z 43 x0b x9ij 1)) - (Z 41 x0b x6ij 1)))) (a := 9) (b := 2147483647) (by omega) (by omega) (by omega) (by omega)
                have r83 := w3_r ((Z 41 x0b x6ij 0) * (max 0 (((x11 - ((Z 43 x0b x9ij 2) + x10)) - (Z 43 x0b x9ij 1)) - (Z 41 x0b x6ij 1))))
                have r84 := z2_r (fun x y => x / y) (w3 ((Z 41 x0b x6ij 0) * (max 0 (((x11 - ((Z 43 x0b x9ij 2) + x10)) - (Z 43 x0b x9ij 1)) - (Z 41 x0b x6ij 1))))) 8
                have r85 := w3_r (2 * (z2 (fun x y => x / y) (w3 ((Z 41 x0b x6ij 0) * (max 0 (((x11 - ((Z 43 x0b x9ij 2) + x10)) - (Z 43 x0b x9ij 1)) - (Z 41 x0b x6ij 1))))) 8))
                have r86 := w3_r (x7 + (w3 (2 * (z2 (fun x y => x / y) (w3 ((Z 41 x0b x6ij 0) * (max 0 (((x11 - ((Z 43 x0b x9ij 2) + x10)) - (Z 43 x0b x9ij 1)) - (Z 41 x0b x6ij 1))))) 8))))
                obtain ⟨m2, rfl⟩ : ∃ m2, m = m2 + 1 := ⟨m - 1, by omega⟩
                exact wz_k1 ⟨m2, by omega, (min (w3 (x7 + (w3 (2 * (z2 (fun x y => x / y) (w3 ((Z 41 x0b x6ij 0) * (max 0 (((x11 - ((Z 43 x0b x9ij 2) + x10)) - (Z 43 x0b x9ij 1)) - (Z 41 x0b x6ij 1))))) 8))))) 2000), 0, ((x11 - ((Z 43 x0b x9ij 2) + x10)) - (Z 43 x0b x9ij 1)), (x12 + 1), (zconso rfl (zconso rfl (zconso rfl (zconso rfl (zconso (zvo (rfl : i3 x4 = i3 x4)) (zconso rfl (zconso rfl (zconso (zvo (i3Mn (i3W (i3A (rfl : i3 x7 = i3 x7) (i3W (i3M (show (2 : Int32) = i3 2 from rfl) (i3Z (fun x y => x / y) (i3W (i3M (zm_rd (Z := Z) (ν := ν) (k := 41) (rfl : ((x0b : Nat) : Int) = x0b) ex6i (show ((0 : Nat) : Int) = 0 from rfl)) (i3Mx (show (0 : Int32) = i3 0 from rfl) (i3S (i3S (i3S (rfl : i3 x11 = i3 x11) (i3A (zm_rd (Z := Z) (ν := ν) (k := 43) (rfl : ((x0b : Nat) : Int) = x0b) ex9i (show ((2 : Nat) : Int) = 2 from rfl)) (rfl : i3 x10 = i3 x10))) (zm_rd (Z := Z) (ν := ν) (k := 43) (rfl : ((x0b : Nat) : Int) = x0b) ex9i (show ((1 : Nat) : Int) = 1 from rfl))) (zm_rd (Z := Z) (ν := ν) (k := 41) (rfl : ((x0b : Nat) : Int) = x0b) ex6i (show ((1 : Nat) : Int) = 1 from rfl))) (by omega) (by omega) (by omega) (by omega)))) (show (8 : Int32) = i3 8 from rfl)))))) (show (2000 : Int32) = i3 2000 from rfl) (by omega) (by omega) (by omega) (by omega))) (zconso (zvo (rfl : i3 x8 = i3 x8)) (zconso rfl (zconso (zvo (show (0 : Int32) = i3 0 from rfl)) (zconso (zvo (i3S (i3S (rfl : i3 x11 = i3 x11) (i3A (zm_rd (Z := Z) (ν := ν) (k := 43) (rfl : ((x0b : Nat) : Int) = x0b) ex9i (show ((2 : Nat) : Int) = 2 from rfl)) (rfl : i3 x10 = i3 x10))) (zm_rd (Z := Z) (ν := ν) (k := 43) (rfl : ((x0b : Nat) : Int) = x0b) ex9i (show ((1 : Nat) : Int) = 1 from rfl)))) (zconso (zvo (i3A (rfl : i3 x12 = i3 x12) (show (1 : Int32) = i3 1 from rfl))) (zconso rfl rfl)))))))))))))), rfl,  by omega, by omega, by omega, by omega, by omega,  hP⟩
          · replace hP := zE_n hP h59
            have r87 := zH_k hZ 43 x0b x9ij 1 (lo := 0) (hi := 9) (by decide) rfl
            refine wz_br (i3Le (zm_rd (Z := Z) (ν := ν) (k := 43) (rfl : ((x0b : Nat) : Int) = x0b) ex9i (show ((3 : Nat) : Int) = 3 from rfl)) (i3A (i3S (rfl : i3 x11 = i3 x11) (i3A (zm_rd (Z := Z) (ν := ν) (k := 43) (rfl : ((x0b : Nat) : Int) = x0b) ex9i (show ((2 : Nat) : Int) = 2 from rfl)) (rfl : i3 x10 = i3 x10))) (zm_rd (Z := Z) (ν := ν) (k := 43) (rfl : ((x0b : Nat) : Int) = x0b) ex9i (show ((1 : Nat) : Int) = 1 from rfl))) (by omega) (by omega) (by omega) (by omega)) (fun h88 => ?_) (fun h88 => ?_)
            · replace hP := zE_p hP h88
              refine wz_i0 (Eq.trans (i3E (rfl : i3 x8 = i3 x8) (show (0 : Int32) = i3 0 from rfl) (by omega) (by omega) (by omega) (by omega)) (decide_eq_false (by omega))) ?_
              have r89 := zH_k hZ 43 x0b x9ij 4 (lo := 0) (hi := 1) (by decide) rfl
              refine wz_br (i3NE (zm_rd (Z := Z) (ν := ν) (k := 43) (rfl : ((x0b : Nat) : Int) = x0b) ex9i (show ((4 : Nat) : Int) = 4 from rfl)) (show (1 : Int32) = i3 1 from rfl) (by omega) (by omega) (by omega) (by omega)) (fun h90 => ?_) (fun h90 => ?_)
              · replace hP := zE_p hP h90
                have r91 := zH_k hZ 41 x0b x6ij 0 (lo := 0) (hi := 9) (by decide) rfl
                have r92 := zH_k hZ 41 x0b x6ij 1 (lo := 0) (hi := 12) (by decide) rfl
                have r93 := z_mul (x := (Z 41 x0b x6ij 0)) (y := (max 0 ((Z 43 x0b x9ij 3) - (Z 41 x0b x6ij 1)))) (a := 9) (b := 40) (by omega) (by omega) (by omega) (by omega)
                have r94 := w3_r (x7 + (((Z 41 x0b x6ij 0) * (max 0 ((Z 43 x0b x9ij 3) - (Z 41 x0b x6ij 1)))) / 8))
                obtain ⟨m2, rfl⟩ : ∃ m2, m = m2 + 1 := ⟨m - 1, by omega⟩
                exact wz_k1 ⟨m2, by omega, (min (w3 (x7 + (((Z 41 x0b x6ij 0) * (max 0 ((Z 43 x0b x9ij 3) - (Z 41 x0b x6ij 1)))) / 8))) 2000), 0, (Z 43 x0b x9ij 3), (x12 + 1), (zconso rfl (zconso rfl (zconso rfl (zconso rfl (zconso (zvo (rfl : i3 x4 = i3 x4)) (zconso rfl (zconso rfl (zconso (zvo (i3Mn (i3W (i3A (rfl : i3 x7 = i3 x7) (i3D (i3M (zm_rd (Z := Z) (ν := ν) (k := 41) (rfl : ((x0b : Nat) : Int) = x0b) ex6i (show ((0 : Nat) : Int) = 0 from rfl)) (i3Mx (show (0 : Int32) = i3 0 from rfl) (i3S (zm_rd (Z := Z) (ν := ν) (k := 43) (rfl : ((x0b : Nat) : Int) = x0b) ex9i (show ((3 : Nat) : Int) = 3 from rfl)) (zm_rd (Z := Z) (ν := ν) (k := 41) (rfl : ((x0b : Nat) : Int) = x0b) ex6i (show ((1 : Nat) : Int) = 1 from rfl))) (by omega) (by omega) (by omega) (by omega))) (show (8 : Int32) = i3 8 from rfl) (by omega) (by omega) (by omega) (by omega)))) (show (2000 : Int32) = i3 2000 from rfl) (by omega) (by omega) (by omega) (by omega))) (zconso (zvo (rfl : i3 x8 = i3 x8)) (zconso rfl (zconso (zvo (show (0 : Int32) = i3 0 from rfl)) (zconso (zvo (zm_rd (Z := Z) (ν := ν) (k := 43) (rfl : ((x0b : Nat) : Int) = x0b) ex9i (show ((3 : Nat) : Int) = 3 from rfl))) (zconso (zvo (i3A (rfl : i3 x12 = i3 x12) (show (1 : Int32) = i3 1 from rfl))) (zconso rfl rfl)))))))))))))), rfl,  by omega, by omega, by omega, by omega, by omega,  hP⟩
              · replace hP := zE_n hP h90
                have r95 := zH_k hZ 41 x0b x6ij 0 (lo := 0) (hi := 9) (by decide) rfl
                have r96 := zH_k hZ 41 x0b x6ij 1 (lo := 0) (hi := 12) (by decide) rfl
                have r97 := z_mul (x := (Z 41 x0b x6ij 0)) (y := (max 0 ((Z 43 x0b x9ij 3) - (Z 41 x0b x6ij 1)))) (a := 9) (b := 40) (by omega) (by omega) (by omega) (by omega)
                have r98 := w3_r (x7 + (2 * (((Z 41 x0b x6ij 0) * (max 0 ((Z 43 x0b x9ij 3) - (Z 41 x0b x6ij 1)))) / 8)))
                obtain ⟨m2, rfl⟩ : ∃ m2, m = m2 + 1 := ⟨m - 1, by omega⟩
                exact wz_k1 ⟨m2, by omega, (min (w3 (x7 + (2 * (((Z 41 x0b x6ij 0) * (max 0 ((Z 43 x0b x9ij 3) - (Z 41 x0b x6ij 1)))) / 8)))) 2000), 0, (Z 43 x0b x9ij 3), (x12 + 1), (zconso rfl (zconso rfl (zconso rfl (zconso rfl (zconso (zvo (rfl : i3 x4 = i3 x4)) (zconso rfl (zconso rfl (zconso (zvo (i3Mn (i3W (i3A (rfl : i3 x7 = i3 x7) (i3M (show (2 : Int32) = i3 2 from rfl) (i3D (i3M (zm_rd (Z := Z) (ν := ν) (k := 41) (rfl : ((x0b : Nat) : Int) = x0b) ex6i (show ((0 : Nat) : Int) = 0 from rfl)) (i3Mx (show (0 : Int32) = i3 0 from rfl) (i3S (zm_rd (Z := Z) (ν := ν) (k := 43) (rfl : ((x0b : Nat) : Int) = x0b) ex9i (show ((3 : Nat) : Int) = 3 from rfl)) (zm_rd (Z := Z) (ν := ν) (k := 41) (rfl : ((x0b : Nat) : Int) = x0b) ex6i (show ((1 : Nat) : Int) = 1 from rfl))) (by omega) (by omega) (by omega) (by omega))) (show (8 : Int32) = i3 8 from rfl) (by omega) (by omega) (by omega) (by omega))))) (show (2000 : Int32) = i3 2000 from rfl) (by omega) (by omega) (by omega) (by omega))) (zconso (zvo (rfl : i3 x8 = i3 x8)) (zconso rfl (zconso (zvo (show (0 : Int32) = i3 0 from rfl)) (zconso (zvo (zm_rd (Z := Z) (ν := ν) (k := 43) (rfl : ((x0b : Nat) : Int) = x0b) ex9i (show ((3 : Nat) : Int) = 3 from rfl))) (zconso (zvo (i3A (rfl : i3 x12 = i3 x12) (show (1 : Int32) = i3 1 from rfl))) (zconso rfl rfl)))))))))))))), rfl,  by omega, by omega, by omega, by omega, by omega,  hP⟩
            · replace hP := zE_n hP h88
              refine wz_i0 (Eq.trans (i3E (rfl : i3 x8 = i3 x8) (show (0 : Int32) = i3 0 from rfl) (by omega) (by omega) (by omega) (by omega)) (decide_eq_false (by omega))) ?_
              have r99 := zH_k hZ 43 x0b x9ij 4 (lo := 0) (hi := 1) (by decide) rfl
              refine wz_br (i3NE (zm_rd (Z := Z) (ν := ν) (k := 43) (rfl : ((x0b : Nat) : Int) = x0b) ex9i (show ((4 : Nat) : Int) = 4 from rfl)) (show (1 : Int32) = i3 1 from rfl) (by omega) (by omega) (by omega) (by omega)) (fun h100 => ?_) (fun h100 => ?_)
              · replace hP := zE_p hP h100
                have r101 := zH_k hZ 41 x0b x6ij 0 (lo := 0) (hi := 9) (by decide) rfl
                have r102 := zH_k hZ 41 x0b x6ij 1 (lo := 0) (hi := 12) (by decide) rfl
                have r103 := z_mul (x := (Z 41 x0b x6ij 0)) (y := (max 0 (((x11 - ((Z 43 x0b x9ij 2) + x10)) + (Z 43 x0b x9ij 1)) - (Z 41 x0b x6ij 1)))) (a := 9) (b := 1000000060) (by omega) (by omega) (by omega) (by omega)
                have r104 := w3_r ((Z 41 x0b x6ij 0) * (max 0 (((x11 - ((Z 43 x0b x9ij 2) + x10)) + (Z 43 x0b x9ij 1)) - (Z 41 x0b x6ij 1))))
                have r105 := z2_r (fun x y => x / y) (w3 ((Z 41 x0b x6ij 0) * (max 0 (((x11 - ((Z 43 x0b x9ij 2) + x10)) + (Z 43 x0b x9ij 1)) - (Z 41 x0b x6ij 1))))) 8
                have r106 := w3_r (x7 + (z2 (fun x y => x / y) (w3 ((Z 41 x0b x6ij 0) * (max 0 (((x11 - ((Z 43 x0b x9ij 2) + x10)) + (Z 43 x0b x9ij 1)) - (Z 41 x0b x6ij 1))))) 8))
                obtain ⟨m2, rfl⟩ : ∃ m2, m = m2 + 1 := ⟨m - 1, by omega⟩
                exact wz_k1 ⟨m2, by omega, (min (w3 (x7 + (z2 (fun x y => x / y) (w3 ((Z 41 x0b x6ij 0) * (max 0 (((x11 - ((Z 43 x0b x9ij 2) + x10)) + (Z 43 x0b x9ij 1)) - (Z 41 x0b x6ij 1))))) 8))) 2000), 0, ((x11 - ((Z 43 x0b x9ij 2) + x10)) + (Z 43 x0b x9ij 1)), (x12 + 1), (zconso rfl (zconso rfl (zconso rfl (zconso rfl (zconso (zvo (rfl : i3 x4 = i3 x4)) (zconso rfl (zconso rfl (zconso (zvo (i3Mn (i3W (i3A (rfl : i3 x7 = i3 x7) (i3Z (fun x y => x / y) (i3W (i3M (zm_rd (Z := Z) (ν := ν) (k := 41) (rfl : ((x0b : Nat) : Int) = x0b) ex6i (show ((0 : Nat) : Int) = 0 from rfl)) (i3Mx (show (0 : Int32) = i3 0 from rfl) (i3S (i3A (i3S (rfl : i3 x11 = i3 x11) (i3A (zm_rd (Z := Z) (ν := ν) (k := 43) (rfl : ((x0b : Nat) : Int) = x0b) ex9i (show ((2 : Nat) : Int) = 2 from rfl)) (rfl : i3 x10 = i3 x10))) (zm_rd (Z := Z) (ν := ν) (k := 43) (rfl : ((x0b : Nat) : Int) = x0b) ex9i (show ((1 : Nat) : Int) = 1 from rfl))) (zm_rd (Z := Z) (ν := ν) (k := 41) (rfl : ((x0b : Nat) : Int) = x0b) ex6i (show ((1 : Nat) : Int) = 1 from rfl))) (by omega) (by omega) (by omega) (by omega)))) (show (8 : Int32) = i3 8 from rfl)))) (show (2000 : Int32) = i3 2000 from rfl) (by omega) (by omega) (by omega) (by omega))) (zconso (zvo (rfl : i3 x8 = i3 x8)) (zconso rfl (zconso (zvo (show (0 : Int32) = i3 0 from rfl)) (zconso (zvo (i3A (i3S (rfl : i3 x11 = i3 x11) (i3A (zm_rd (Z := Z) (ν := ν) (k := 43) (rfl : ((x0b : Nat) : Int) = x0b) ex9i (show ((2 : Nat) : Int) = 2 from rfl)) (rfl : i3 x10 = i3 x10))) (zm_rd (Z := Z) (ν := ν) (k := 43) (rfl : ((x0b : Nat) : Int) = x0b) ex9i (show ((1 : Nat) : Int) = 1 from rfl)))) (zconso (zvo (i3A (rfl : i3 x12 = i3 x12) (show (1 : Int32) = i3 1 from rfl))) (zconso rfl rfl)))))))))))))), rfl,  by omega, by omega, by omega, by omega, by omega,  hP⟩
              · replace hP := zE_n hP h100
                have r107 := zH_k hZ 41 x0b x6ij 0 (lo := 0) (hi := 9) (by decide) rfl
                have r108 := zH_k hZ 41 x0b x6ij 1 (lo := 0) (hi := 12) (by decide) rfl
                have r109 := z_mul (x := (Z 41 x0b x6ij 0)) (y := (max 0 (((x11 - ((Z 43 x0b x9ij 2) + x10)) + (Z 43 x0b x9ij 1)) - (Z 41 x0b x6ij 1)))) (a := 9) (b := 1000000060) (by omega) (by omega) (by omega) (by omega)
                have r110 := w3_r ((Z 41 x0b x6ij 0) * (max 0 (((x11 - ((Z 43 x0b x9ij 2) + x10)) + (Z 43 x0b x9ij 1)) - (Z 41 x0b x6ij 1))))
                have r111 := z2_r (fun x y => x / y) (w3 ((Z 41 x0b x6ij 0) * (max 0 (((x11 - ((Z 43 x0b x9ij 2) + x10)) + (Z 43 x0b x9ij 1)) - (Z 41 x0b x6ij 1))))) 8
                have r112 := w3_r (2 * (z2 (fun x y => x / y) (w3 ((Z 41 x0b x6ij 0) * (max 0 (((x11 - ((Z 43 x0b x9ij 2) + x10)) + (Z 43 x0b x9ij 1)) - (Z 41 x0b x6ij 1))))) 8))
                have r113 := w3_r (x7 + (w3 (2 * (z2 (fun x y => x / y) (w3 ((Z 41 x0b x6ij 0) * (max 0 (((x11 - ((Z 43 x0b x9ij 2) + x10)) + (Z 43 x0b x9ij 1)) - (Z 41 x0b x6ij 1))))) 8))))
                obtain ⟨m2, rfl⟩ : ∃ m2, m = m2 + 1 := ⟨m - 1, by omega⟩
                exact wz_k1 ⟨m2, by omega, (min (w3 (x7 + (w3 (2 * (z2 (fun x y => x / y) (w3 ((Z 41 x0b x6ij 0) * (max 0 (((x11 - ((Z 43 x0b x9ij 2) + x10)) + (Z 43 x0b x9ij 1)) - (Z 41 x0b x6ij 1))))) 8))))) 2000), 0, ((x11 - ((Z 43 x0b x9ij 2) + x10)) + (Z 43 x0b x9ij 1)), (x12 + 1), (zconso rfl (zconso rfl (zconso rfl (zconso rfl (zconso (zvo (rfl : i3 x4 = i3 x4)) (zconso rfl (zconso rfl (zconso (zvo (i3Mn (i3W (i3A (rfl : i3 x7 = i3 x7) (i3W (i3M (show (2 : Int32) = i3 2 from rfl) (i3Z (fun x y => x / y) (i3W (i3M (zm_rd (Z := Z) (ν := ν) (k := 41) (rfl : ((x0b : Nat) : Int) = x0b) ex6i (show ((0 : Nat) : Int) = 0 from rfl)) (i3Mx (show (0 : Int32) = i3 0 from rfl) (i3S (i3A (i3S (rfl : i3 x11 = i3 x11) (i3A (zm_rd (Z := Z) (ν := ν) (k := 43) (rfl : ((x0b : Nat) : Int) = x0b) ex9i (show ((2 : Nat) : Int) = 2 from rfl)) (rfl : i3 x10 = i3 x10))) (zm_rd (Z := Z) (ν := ν) (k := 43) (rfl : ((x0b : Nat) : Int) = x0b) ex9i (show ((1 : Nat) : Int) = 1 from rfl))) (zm_rd (Z := Z) (ν := ν) (k := 41) (rfl : ((x0b : Nat) : Int) = x0b) ex6i (show ((1 : Nat) : Int) = 1 from rfl))) (by omega) (by omega) (by omega) (by omega)))) (show (8 : Int32) = i3 8 from rfl)))))) (show (2000 : Int32) = i3 2000 from rfl) (by omega) (by omega) (by omega) (by omega))) (zconso (zvo (rfl : i3 x8 = i3 x8)) (zconso rfl (zconso (zvo (show (0 : Int32) = i3 0 from rfl)) (zconso (zvo (i3A (i3S (rfl : i3 x11 = i3 x11) (i3A (zm_rd (Z := Z) (ν := ν) (k := 43) (rfl : ((x0b : Nat) : Int) = x0b) ex9i (show ((2 : Nat) : Int) = 2 from rfl)) (rfl : i3 x10 = i3 x10))) (zm_rd (Z := Z) (ν := ν) (k := 43) (rfl : ((x0b : Nat) : Int) = x0b) ex9i (show ((1 : Nat) : Int) = 1 from rfl)))) (zconso (zvo (i3A (rfl : i3 x12 = i3 x12) (show (1 : Int32) = i3 1 from rfl))) (zconso rfl rfl)))))))))))))), rfl,  by omega, by omega, by omega, by omega, by omega,  hP⟩
      · replace hP := zE_n hP h9
        have r114 := zH_k hZ 43 x0b x9ij 2 (lo := 0) (hi := 9) (by decide) rfl
        refine wz_br (i3Le (zm_rd (Z := Z) (ν := ν) (k := 12) (rfl : ((x0b : Nat) : Int) = x0b) (show ((0 : Nat) : Int) = 0 from rfl) (i3I (y := (x12 / 24)) (i3D (rfl : i3 x12 = i3 x12) (show (24 : Int32) = i3 24 from rfl) (by omega) (by omega) (by omega) (by omega)) (by omega) (by omega) (by omega))) (i3A (rfl : i3 x11 = i3 x11) (i3A (zm_rd (Z := Z) (ν := ν) (k := 43) (rfl : ((x0b : Nat) : Int) = x0b) ex9i (show ((2 : Nat) : Int) = 2 from rfl)) (rfl : i3 x10 = i3 x10))) (by omega) (by omega) (by omega) (by omega)) (fun h115 => ?_) (fun h115 => ?_)
        · replace hP := zE_p hP h115
          have r116 := zH_k hZ 43 x0b x9ij 3 (lo := 0) (hi := 40) (by decide) rfl
          refine wz_br (i3Le (zm_rd (Z := Z) (ν := ν) (k := 43) (rfl : ((x0b : Nat) : Int) = x0b) ex9i (show ((3 : Nat) : Int) = 3 from rfl)) (zm_rd (Z := Z) (ν := ν) (k := 12) (rfl : ((x0b : Nat) : Int) = x0b) (show ((0 : Nat) : Int) = 0 from rfl) (i3I (y := (x12 / 24)) (i3D (rfl : i3 x12 = i3 x12) (show (24 : Int32) = i3 24 from rfl) (by omega) (by omega) (by omega) (by omega)) (by omega) (by omega) (by omega))) (by omega) (by omega) (by omega) (by omega)) (fun h117 => ?_) (fun h117 => ?_)
          · replace hP := zE_p hP h117
            have r118 := zH_k hZ 43 x0b x9ij 1 (lo := 0) (hi := 9) (by decide) rfl
            refine wz_br (i3Le (i3S (zm_rd (Z := Z) (ν := ν) (k := 12) (rfl : ((x0b : Nat) : Int) = x0b) (show ((0 : Nat) : Int) = 0 from rfl) (i3I (y := (x12 / 24)) (i3D (rfl : i3 x12 = i3 x12) (show (24 : Int32) = i3 24 from rfl) (by omega) (by omega) (by omega) (by omega)) (by omega) (by omega) (by omega))) (zm_rd (Z := Z) (ν := ν) (k := 43) (rfl : ((x0b : Nat) : Int) = x0b) ex9i (show ((1 : Nat) : Int) = 1 from rfl))) (zm_rd (Z := Z) (ν := ν) (k := 43) (rfl : ((x0b : Nat) : Int) = x0b) ex9i (show ((3 : Nat) : Int) = 3 from rfl)) (by omega) (by omega) (by omega) (by omega)) (fun h119 => ?_) (fun h119 => ?_)
            · replace hP := zE_p hP h119
              refine wz_i0 (Eq.trans (i3E (rfl : i3 x8 = i3 x8) (show (0 : Int32) = i3 0 from rfl) (by omega) (by omega) (by omega) (by omega)) (decide_eq_false (by omega))) ?_
              have r120 := zH_k hZ 43 x0b x9ij 4 (lo := 0) (hi := 1) (by decide) rfl
              refine wz_br (i3NE (zm_rd (Z := Z) (ν := ν) (k := 43) (rfl : ((x0b : Nat) : Int) = x0b) ex9i (show ((4 : Nat) : Int) = 4 from rfl)) (show (1 : Int32) = i3 1 from rfl) (by omega) (by omega) (by omega) (by omega)) (fun h121 => ?_) (fun h121 => ?_)
              · replace hP := zE_p hP h121
                have r122 := zH_k hZ 41 x0b x6ij 0 (lo := 0) (hi := 9) (by decide) rfl
                have r123 := zH_k hZ 41 x0b x6ij 1 (lo := 0) (hi := 12) (by decide) rfl
                have r124 := z_mul (x := (Z 41 x0b x6ij 0)) (y := (max 0 ((Z 43 x0b x9ij 3) - (Z 41 x0b x6ij 1)))) (a := 9) (b := 40) (by omega) (by omega) (by omega) (by omega)
                have r125 := w3_r (x7 + (((Z 41 x0b x6ij 0) * (max 0 ((Z 43 x0b x9ij 3) - (Z 41 x0b x6ij 1)))) / 8))
                obtain ⟨m2, rfl⟩ : ∃ m2, m = m2 + 1 := ⟨m - 1, by omega⟩
                exact wz_k1 ⟨m2, by omega, (min (w3 (x7 + (((Z 41 x0b x6ij 0) * (max 0 ((Z 43 x0b x9ij 3) - (Z 41 x0b x6ij 1)))) / 8))) 2000), 0, (Z 43 x0b x9ij 3), (x12 + 1), (zconso rfl (zconso rfl (zconso rfl (zconso rfl (zconso (zvo (rfl : i3 x4 = i3 x4)) (zconso rfl (zconso rfl (zconso (zvo (i3Mn (i3W (i3A (rfl : i3 x7 = i3 x7) (i3D (i3M (zm_rd (Z := Z) (ν := ν) (k := 41) (rfl : ((x0b : Nat) : Int) = x0b) ex6i (show ((0 : Nat) : Int) = 0 from rfl)) (i3Mx (show (0 : Int32) = i3 0 from rfl) (i3S (zm_rd (Z := Z) (ν := ν) (k := 43) (rfl : ((x0b : Nat) : Int) = x0b) ex9i (show ((3 : Nat) : Int) = 3 from rfl)) (zm_rd (Z := Z) (ν := ν) (k := 41) (rfl : ((x0b : Nat) : Int) = x0b) ex6i (show ((1 : Nat) : Int) = 1 from rfl))) (by omega) (by omega) (by omega) (by omega))) (show (8 : Int32) = i3 8 from rfl) (by omega) (by omega) (by omega) (by omega)))) (show (2000 : Int32) = i3 2000 from rfl) (by omega) (by omega) (by omega) (by omega))) (zconso (zvo (rfl : i3 x8 = i3 x8)) (zconso rfl (zconso (zvo (show (0 : Int32) = i3 0 from rfl)) (zconso (zvo (zm_rd (Z := Z) (ν := ν) (k := 43) (rfl : ((x0b : Nat) : Int) = x0b) ex9i (show ((3 : Nat) : Int) = 3 from rfl))) (zconso (zvo (i3A (rfl : i3 x12 = i3 x12) (show (1 : Int32) = i3 1 from rfl))) (zconso rfl rfl)))))))))))))), rfl,  by omega, by omega, by omega, by omega, by omega,  hP⟩
              · replace hP := zE_n hP h121
                have r126 := zH_k hZ 41 x0b x6ij 0 (lo := 0) (hi := 9) (by decide) rfl
                have r127 := zH_k hZ 41 x0b x6ij 1 (lo := 0) (hi := 12) (by decide) rfl
                have r128 := z_mul (x := (Z 41 x0b x6ij 0)) (y := (max 0 ((Z 43 x0b x9ij 3) - (Z 41 x0b x6ij 1)))) (a := 9) (b := 40) (by omega) (by omega) (by omega) (by omega)
                have r129 := w3_r (x7 + (2 * (((Z 41 x0b x6ij 0) * (max 0 ((Z 43 x0b x9ij 3) - (Z 41 x0b x6ij 1)))) / 8)))
                obtain ⟨m2, rfl⟩ : ∃ m2, m = m2 + 1 := ⟨m - 1, by omega⟩
                exact wz_k1 ⟨m2, by omega, (min (w3 (x7 + (2 * (((Z 41 x0b x6ij 0) * (max 0 ((Z 43 x0b x9ij 3) - (Z 41 x0b x6ij 1)))) / 8)))) 2000), 0, (Z 43 x0b x9ij 3), (x12 + 1), (zconso rfl (zconso rfl (zconso rfl (zconso rfl (zconso (zvo (rfl : i3 x4 = i3 x4)) (zconso rfl (zconso rfl (zconso (zvo (i3Mn (i3W (i3A (rfl : i3 x7 = i3 x7) (i3M (show (2 : Int32) = i3 2 from rfl) (i3D (i3M (zm_rd (Z := Z) (ν := ν) (k := 41) (rfl : ((x0b : Nat) : Int) = x0b) ex6i (show ((0 : Nat) : Int) = 0 from rfl)) (i3Mx (show (0 : Int32) = i3 0 from rfl) (i3S (zm_rd (Z := Z) (ν := ν) (k := 43) (rfl : ((x0b : Nat) : Int) = x0b) ex9i (show ((3 : Nat) : Int) = 3 from rfl)) (zm_rd (Z := Z) (ν := ν) (k := 41) (rfl : ((x0b : Nat) : Int) = x0b) ex6i (show ((1 : Nat) : Int) = 1 from rfl))) (by omega) (by omega) (by omega) (by omega))) (show (8 : Int32) = i3 8 from rfl) (by omega) (by omega) (by omega) (by omega))))) (show (2000 : Int32) = i3 2000 from rfl) (by omega) (by omega) (by omega) (by omega))) (zconso (zvo (rfl : i3 x8 = i3 x8)) (zconso rfl (zconso (zvo (show (0 : Int32) = i3 0 from rfl)) (zconso (zvo (zm_rd (Z := Z) (ν := ν) (k := 43) (rfl : ((x0b : Nat) : Int) = x0b) ex9i (show ((3 : Nat) : Int) = 3 from rfl))) (zconso (zvo (i3A (rfl : i3 x12 = i3 x12) (show (1 : Int32) = i3 1 from rfl))) (zconso rfl rfl)))))))))))))), rfl,  by omega, by omega, by omega, by omega, by omega,  hP⟩
            · replace hP := zE_n hP h119
              refine wz_i0 (Eq.trans (i3E (rfl : i3 x8 = i3 x8) (show (0 : Int32) = i3 0 from rfl) (by omega) (by omega) (by omega) (by omega)) (decide_eq_false (by omega))) ?_
              have r130 := zH_k hZ 43 x0b x9ij 4 (lo := 0) (hi := 1) (by decide) rfl
              refine wz_br (i3NE (zm_rd (Z := Z) (ν := ν) (k := 43) (rfl : ((x0b : Nat) : Int) = x0b) ex9i (show ((4 : Nat) : Int) = 4 from rfl)) (show (1 : Int32) = i3 1 from rfl) (by omega) (by omega) (by omega) (by omega)) (fun h131 => ?_) (fun h131 => ?_)
              · replace hP := zE_p hP h131
                have r132 := zH_k hZ 41 x0b x6ij 0 (lo := 0) (hi := 9) (by decide) rfl
                have r133 := zH_k hZ 41 x0b x6ij 1 (lo := 0) (hi := 12) (by decide) rfl
                have r134 := z_mul (x := (Z 41 x0b x6ij 0)) (y := (max 0 (((Z 12 x0b 0 (x12 / 24)) - (Z 43 x0b x9ij 1)) - (Z 41 x0b x6ij 1)))) (a := 9) (b := 40) (by omega) (by omega) (by omega) (by omega)
                have r135 := w3_r (x7 + (((Z 41 x0b x6ij 0) * (max 0 (((Z 12 x0b 0 (x12 / 24)) - (Z 43 x0b x9ij 1)) - (Z 41 x0b x6ij 1)))) / 8))
                obtain ⟨m2, rfl⟩ : ∃ m2, m = m2 + 1 := ⟨m - 1, by omega⟩
                exact wz_k1 ⟨m2, by omega, (min (w3 (x7 + (((Z 41 x0b x6ij 0) * (max 0 (((Z 12 x0b 0 (x12 / 24)) - (Z 43 x0b x9ij 1)) - (Z 41 x0b x6ij 1)))) / 8))) 2000), 0, ((Z 12 x0b 0 (x12 / 24)) - (Z 43 x0b x9ij 1)), (x12 + 1), (zconso rfl (zconso rfl (zconso rfl (zconso rfl (zconso (zvo (rfl : i3 x4 = i3 x4)) (zconso rfl (zconso rfl (zconso (zvo (i3Mn (i3W (i3A (rfl : i3 x7 = i3 x7) (i3D (i3M (zm_rd (Z := Z) (ν := ν) (k := 41) (rfl : ((x0b : Nat) : Int) = x0b) ex6i (show ((0 : Nat) : Int) = 0 from rfl)) (i3Mx (show (0 : Int32) = i3 0 from rfl) (i3S (i3S (zm_rd (Z := Z) (ν := ν) (k := 12) (rfl : ((x0b : Nat) : Int) = x0b) (show ((0 : Nat) : Int) = 0 from rfl) (i3I (y := (x12 / 24)) (i3D (rfl : i3 x12 = i3 x12) (show (24 : Int32) = i3 24 from rfl) (by omega) (by omega) (by omega) (by omega)) (by omega) (by omega) (by omega))) (zm_rd (Z := Z) (ν := ν) (k := 43) (rfl : ((x0b : Nat) : Int) = x0b) ex9i (show ((1 : Nat) : Int) = 1 from rfl))) (zm_rd (Z := Z) (ν := ν) (k := 41) (rfl : ((x0b : Nat) : Int) = x0b) ex6i (show ((1 : Nat) : Int) = 1 from rfl))) (by omega) (by omega) (by omega) (by omega))) (show (8 : Int32) = i3 8 from rfl) (by omega) (by omega) (by omega) (by omega)))) (show (2000 : Int32) = i3 2000 from rfl) (by omega) (by omega) (by omega) (by omega))) (zconso (zvo (rfl : i3 x8 = i3 x8)) (zconso rfl (zconso (zvo (show (0 : Int32) = i3 0 from rfl)) (zconso (zvo (i3S (zm_rd (Z := Z) (ν := ν) (k := 12) (rfl : ((x0b : Nat) : Int) = x0b) (show ((0 : Nat) : Int) = 0 from rfl) (i3I (y := (x12 / 24)) (i3D (rfl : i3 x12 = i3 x12) (show (24 : Int32) = i3 24 from rfl) (by omega) (by omega) (by omega) (by omega)) (by omega) (by omega) (by omega))) (zm_rd (Z := Z) (ν := ν) (k := 43) (rfl : ((x0b : Nat) : Int) = x0b) ex9i (show ((1 : Nat) : Int) = 1 from rfl)))) (zconso (zvo (i3A (rfl : i3 x12 = i3 x12) (show (1 : Int32) = i3 1 from rfl))) (zconso rfl rfl)))))))))))))), rfl,  by omega, by omega, by omega, by omega, by omega,  hP⟩
              · replace hP := zE_n hP h131
                have r136 := zH_k hZ 41 x0b x6ij 0 (lo := 0) (hi := 9) (by decide) rfl
                have r137 := zH_k hZ 41 x0b x6ij 1 (lo := 0) (hi := 12) (by decide) rfl
                have r138 := z_mul (x := (Z 41 x0b x6ij 0)) (y := (max 0 (((Z 12 x0b 0 (x12 / 24)) - (Z 43 x0b x9ij 1)) - (Z 41 x0b x6ij 1)))) (a := 9) (b := 40) (by omega) (by omega) (by omega) (by omega)
                have r139 := w3_r (x7 + (2 * (((Z 41 x0b x6ij 0) * (max 0 (((Z 12 x0b 0 (x12 / 24)) - (Z 43 x0b x9ij 1)) - (Z 41 x0b x6ij 1)))) / 8)))
                obtain ⟨m2, rfl⟩ : ∃ m2, m = m2 + 1 := ⟨m - 1, by omega⟩
                exact wz_k1 ⟨m2, by omega, (min (w3 (x7 + (2 * (((Z 41 x0b x6ij 0) * (max 0 (((Z 12 x0b 0 (x12 / 24)) - (Z 43 x0b x9ij 1)) - (Z 41 x0b x6ij 1)))) / 8)))) 2000), 0, ((Z 12 x0b 0 (x12 / 24)) - (Z 43 x0b x9ij 1)), (x12 + 1), (zconso rfl (zconso rfl (zconso rfl (zconso rfl (zconso (zvo (rfl : i3 x4 = i3 x4)) (zconso rfl (zconso rfl (zconso (zvo (i3Mn (i3W (i3A (rfl : i3 x7 = i3 x7) (i3M (show (2 : Int32) = i3 2 from rfl) (i3D (i3M (zm_rd (Z := Z) (ν := ν) (k := 41) (rfl : ((x0b : Nat) : Int) = x0b) ex6i (show ((0 : Nat) : Int) = 0 from rfl)) (i3Mx (show (0 : Int32) = i3 0 from rfl) (i3S (i3S (zm_rd (Z := Z) (ν := ν) (k := 12) (rfl : ((x0b : Nat) : Int) = x0b) (show ((0 : Nat) : Int) = 0 from rfl) (i3I (y := (x12 / 24)) (i3D (rfl : i3 x12 = i3 x12) (show (24 : Int32) = i3 24 from rfl) (by omega) (by omega) (by omega) (by omega)) (by omega) (by omega) (by omega))) (zm_rd (Z := Z) (ν := ν) (k := 43) (rfl : ((x0b : Nat) : Int) = x0b) ex9i (show ((1 : Nat) : Int) = 1 from rfl))) (zm_rd (Z := Z) (ν := ν) (k := 41) (rfl : ((x0b : Nat) : Int) = x0b) ex6i (show ((1 : Nat) : Int) = 1 from rfl))) (by omega) (by omega) (by omega) (by omega))) (show (8 : Int32) = i3 8 from rfl) (by omega) (by omega) (by omega) (by omega))))) (show (2000 : Int32) = i3 2000 from rfl) (by omega) (by omega) (by omega) (by omega))) (zconso (zvo (rfl : i3 x8 = i3 x8)) (zconso rfl (zconso (zvo (show (0 : Int32) = i3 0 from rfl)) (zconso (zvo (i3S (zm_rd (Z := Z) (ν := ν) (k := 12) (rfl : ((x0b : Nat) : Int) = x0b) (show ((0 : Nat) : Int) = 0 from rfl) (i3I (y := (x12 / 24)) (i3D (rfl : i3 x12 = i3 x12) (show (24 : Int32) = i3 24 from rfl) (by omega) (by omega) (by omega) (by omega)) (by omega) (by omega) (by omega))) (zm_rd (Z := Z) (ν := ν) (k := 43) (rfl : ((x0b : Nat) : Int) = x0b) ex9i (show ((1 : Nat) : Int) = 1 from rfl)))) (zconso (zvo (i3A (rfl : i3 x12 = i3 x12) (show (1 : Int32) = i3 1 from rfl))) (zconso rfl rfl)))))))))))))), rfl,  by omega, by omega, by omega, by omega, by omega,  hP⟩
          · replace hP := zE_n hP h117
            have r140 := zH_k hZ 43 x0b x9ij 1 (lo := 0) (hi := 9) (by decide) rfl
            refine wz_br (i3Le (zm_rd (Z := Z) (ν := ν) (k := 43) (rfl : ((x0b : Nat) : Int) = x0b) ex9i (show ((3 : Nat) : Int) = 3 from rfl)) (i3A (zm_rd (Z := Z) (ν := ν) (k := 12) (rfl : ((x0b : Nat) : Int) = x0b) (show ((0 : Nat) : Int) = 0 from rfl) (i3I (y := (x12 / 24)) (i3D (rfl : i3 x12 = i3 x12) (show (24 : Int32) = i3 24 from rfl) (by omega) (by omega) (by omega) (by omega)) (by omega) (by omega) (by omega))) (zm_rd (Z := Z) (ν := ν) (k := 43) (rfl : ((x0b : Nat) : Int) = x0b) ex9i (show ((1 : Nat) : Int) = 1 from rfl))) (by omega) (by omega) (by omega) (by omega)) (fun h141 => ?_) (fun h141 => ?_)
            · replace hP := zE_p hP h141
              refine wz_i0 (Eq.trans (i3E (rfl : i3 x8 = i3 x8) (show (0 : Int32) = i3 0 from rfl) (by omega) (by omega) (by omega) (by omega)) (decide_eq_false (by omega))) ?_
              have r142 := zH_k hZ 43 x0b x9ij 4 (lo := 0) (hi := 1) (by decide) rfl
              refine wz_br (i3NE (zm_rd (Z := Z) (ν := ν) (k := 43) (rfl : ((x0b : Nat) : Int) = x0b) ex9i (show ((4 : Nat) : Int) = 4 from rfl)) (show (1 : Int32) = i3 1 from rfl) (by omega) (by omega) (by omega) (by omega)) (fun h143 => ?_) (fun h143 => ?_)
              · replace hP := zE_p hP h143
                have r144 := zH_k hZ 41 x0b x6ij 0 (lo := 0) (hi := 9) (by decide) rfl
                have r145 := zH_k hZ 41 x0b x6ij 1 (lo := 0) (hi := 12) (by decide) rfl
                have r146 := z_mul (x := (Z 41 x0b x6ij 0)) (y := (max 0 ((Z 43 x0b x9ij 3) - (Z 41 x0b x6ij 1)))) (a := 9) (b := 40) (by omega) (by omega) (by omega) (by omega)
                have r147 := w3_r (x7 + (((Z 41 x0b x6ij 0) * (max 0 ((Z 43 x0b x9ij 3) - (Z 41 x0b x6ij 1)))) / 8))
                obtain ⟨m2, rfl⟩ : ∃ m2, m = m2 + 1 := ⟨m - 1, by omega⟩
                exact wz_k1 ⟨m2, by omega, (min (w3 (x7 + (((Z 41 x0b x6ij 0) * (max 0 ((Z 43 x0b x9ij 3) - (Z 41 x0b x6ij 1)))) / 8))) 2000), 0, (Z 43 x0b x9ij 3), (x12 + 1), (zconso rfl (zconso rfl (zconso rfl (zconso rfl (zconso (zvo (rfl : i3 x4 = i3 x4)) (zconso rfl (zconso rfl (zconso (zvo (i3Mn (i3W (i3A (rfl : i3 x7 = i3 x7) (i3D (i3M (zm_rd (Z := Z) (ν := ν) (k := 41) (rfl : ((x0b : Nat) : Int) = x0b) ex6i (show ((0 : Nat) : Int) = 0 from rfl)) (i3Mx (show (0 : Int32) = i3 0 from rfl) (i3S (zm_rd (Z := Z) (ν := ν) (k := 43) (rfl : ((x0b : Nat) : Int) = x0b) ex9i (show ((3 : Nat) : Int) = 3 from rfl)) (zm_rd (Z := Z) (ν := ν) (k := 41) (rfl : ((x0b : Nat) : Int) = x0b) ex6i (show ((1 : Nat) : Int) = 1 from rfl))) (by omega) (by omega) (by omega) (by omega))) (show (8 : Int32) = i3 8 from rfl) (by omega) (by omega) (by omega) (by omega)))) (show (2000 : Int32) = i3 2000 from rfl) (by omega) (by omega) (by omega) (by omega))) (zconso (zvo (rfl : i3 x8 = i3 x8)) (zconso rfl (zconso (zvo (show (0 : Int32) = i3 0 from rfl)) (zconso (zvo (zm_rd (Z := Z) (ν := ν) (k := 43) (rfl : ((x0b : Nat) : Int) = x0b) ex9i (show ((3 : Nat) : Int) = 3 from rfl))) (zconso (zvo (i3A (rfl : i3 x12 = i3 x12) (show (1 : Int32) = i3 1 from rfl))) (zconso rfl rfl)))))))))))))), rfl,  by omega, by omega, by omega, by omega, by omega,  hP⟩
              · replace hP := zE_n hP h143
                have r148 := zH_k hZ 41 x0b x6ij 0 (lo := 0) (hi := 9) (by decide) rfl
                have r149 := zH_k hZ 41 x0b x6ij 1 (lo := 0) (hi := 12) (by decide) rfl
                have r150 := z_mul (x := (Z 41 x0b x6ij 0)) (y := (max 0 ((Z 43 x0b x9ij 3) - (Z 41 x0b x6ij 1)))) (a := 9) (b := 40) (by omega) (by omega) (by omega) (by omega)
                have r151 := w3_r (x7 + (2 * (((Z 41 x0b x6ij 0) * (max 0 ((Z 43 x0b x9ij 3) - (Z 41 x0b x6ij 1)))) / 8)))
                obtain ⟨m2, rfl⟩ : ∃ m2, m = m2 + 1 := ⟨m - 1, by omega⟩
                exact wz_k1 ⟨m2, by omega, (min (w3 (x7 + (2 * (((Z 41 x0b x6ij 0) * (max 0 ((Z 43 x0b x9ij 3) - (Z 41 x0b x6ij 1)))) / 8)))) 2000), 0, (Z 43 x0b x9ij 3), (x12 + 1), (zconso rfl (zconso rfl (zconso rfl (zconso rfl (zconso (zvo (rfl : i3 x4 = i3 x4)) (zconso rfl (zconso rfl (zconso (zvo (i3Mn (i3W (i3A (rfl : i3 x7 = i3 x7) (i3M (show (2 : Int32) = i3 2 from rfl) (i3D (i3M (zm_rd (Z := Z) (ν := ν) (k := 41) (rfl : ((x0b : Nat) : Int) = x0b) ex6i (show ((0 : Nat) : Int) = 0 from rfl)) (i3Mx (show (0 : Int32) = i3 0 from rfl) (i3S (zm_rd (Z := Z) (ν := ν) (k := 43) (rfl : ((x0b : Nat) : Int) = x0b) ex9i (show ((3 : Nat) : Int) = 3 from rfl)) (zm_rd (Z := Z) (ν := ν) (k := 41) (rfl : ((x0b : Nat) : Int) = x0b) ex6i (show ((1 : Nat) : Int) = 1 from rfl))) (by omega) (by omega) (by omega) (by omega))) (show (8 : Int32) = i3 8 from rfl) (by omega) (by omega) (by omega) (by omega))))) (show (2000 : Int32) = i3 2000 from rfl) (by omega) (by omega) (by omega) (by omega))) (zconso (zvo (rfl : i3 x8 = i3 x8)) (zconso rfl (zconso (zvo (show (0 : Int32) = i3 0 from rfl)) (zconso (zvo (zm_rd (Z := Z) (ν := ν) (k := 43) (rfl : ((x0b : Nat) : Int) = x0b) ex9i (show ((3 : Nat) : Int) = 3 from rfl))) (zconso (zvo (i3A (rfl : i3 x12 = i3 x12) (show (1 : Int32) = i3 1 from rfl))) (zconso rfl rfl)))))))))))))), rfl,  by omega, by omega, by omega, by omega, by omega,  hP⟩
            · replace hP := zE_n hP h141
              refine wz_i0 (Eq.trans (i3E (rfl : i3 x8 = i3 x8) (show (0 : Int32) = i3 0 from rfl) (by omega) (by omega) (by omega) (by omega)) (decide_eq_false (by omega))) ?_
              have r152 := zH_k hZ 43 x0b x9ij 4 (lo := 0) (hi := 1) (by decide) rfl
              refine wz_br (i3NE (zm_rd (Z := Z) (ν := ν) (k := 43) (rfl : ((x0b : Nat) : Int) = x0b) ex9i (show ((4 : Nat) : Int) = 4 from rfl)) (show (1 : Int32) = i3 1 from rfl) (by omega) (by omega) (by omega) (by omega)) (fun h153 => ?_) (fun h153 => ?_)
              · replace hP := zE_p hP h153
                have r154 := zH_k hZ 41 x0b x6ij 0 (lo := 0) (hi := 9) (by decide) rfl
                have r155 := zH_k hZ 41 x0b x6ij 1 (lo := 0) (hi := 12) (by decide) rfl
                have r156 := z_mul (x := (Z 41 x0b x6ij 0)) (y := (max 0 (((Z 12 x0b 0 (x12 / 24)) + (Z 43 x0b x9ij 1)) - (Z 41 x0b x6ij 1)))) (a := 9) (b := 48) (by omega) (by omega) (by omega) (by omega)
                have r157 := w3_r (x7 + (((Z 41 x0b x6ij 0) * (max 0 (((Z 12 x0b 0 (x12 / 24)) + (Z 43 x0b x9ij 1)) - (Z 41 x0b x6ij 1)))) / 8))
                obtain ⟨m2, rfl⟩ : ∃ m2, m = m2 + 1 := ⟨m - 1, by omega⟩
                exact wz_k1 ⟨m2, by omega, (min (w3 (x7 + (((Z 41 x0b x6ij 0) * (max 0 (((Z 12 x0b 0 (x12 / 24)) + (Z 43 x0b x9ij 1)) - (Z 41 x0b x6ij 1)))) / 8))) 2000), 0, ((Z 12 x0b 0 (x12 / 24)) + (Z 43 x0b x9ij 1)), (x12 + 1), (zconso rfl (zconso rfl (zconso rfl (zconso rfl (zconso (zvo (rfl : i3 x4 = i3 x4)) (zconso rfl (zconso rfl (zconso (zvo (i3Mn (i3W (i3A (rfl : i3 x7 = i3 x7) (i3D (i3M (zm_rd (Z := Z) (ν := ν) (k := 41) (rfl : ((x0b : Nat) : Int) = x0b) ex6i (show ((0 : Nat) : Int) = 0 from rfl)) (i3Mx (show (0 : Int32) = i3 0 from rfl) (i3S (i3A (zm_rd (Z := Z) (ν := ν) (k := 12) (rfl : ((x0b : Nat) : Int) = x0b) (show ((0 : Nat) : Int) = 0 from rfl) (i3I (y := (x12 / 24)) (i3D (rfl : i3 x12 = i3 x12) (show (24 : Int32) = i3 24 from rfl) (by omega) (by omega) (by omega) (by omega)) (by omega) (by omega) (by omega))) (zm_rd (Z := Z) (ν := ν) (k := 43) (rfl : ((x0b : Nat) : Int) = x0b) ex9i (show ((1 : Nat) : Int) = 1 from rfl))) (zm_rd (Z := Z) (ν := ν) (k := 41) (rfl : ((x0b : Nat) : Int) = x0b) ex6i (show ((1 : Nat) : Int) = 1 from rfl))) (by omega) (by omega) (by omega) (by omega))) (show (8 : Int32) = i3 8 from rfl) (by omega) (by omega) (by omega) (by omega)))) (show (2000 : Int32) = i3 2000 from rfl) (by omega) (by omega) (by omega) (by omega))) (zconso (zvo (rfl : i3 x8 = i3 x8)) (zconso rfl (zconso (zvo (show (0 : Int32) = i3 0 from rfl)) (zconso (zvo (i3A (zm_rd (Z := Z) (ν := ν) (k := 12) (rfl : ((x0b : Nat) : Int) = x0b) (show ((0 : Nat) : Int) = 0 from rfl) (i3I (y := (x12 / 24)) (i3D (rfl : i3 x12 = i3 x12) (show (24 : Int32) = i3 24 from rfl) (by omega) (by omega) (by omega) (by omega)) (by omega) (by omega) (by omega))) (zm_rd (Z := Z) (ν := ν) (k := 43) (rfl : ((x0b : Nat) : Int) = x0b) ex9i (show ((1 : Nat) : Int) = 1 from rfl)))) (zconso (zvo (i3A (rfl : i3 x12 = i3 x12) (show (1 : Int32) = i3 1 from rfl))) (zconso rfl rfl)))))))))))))), rfl,  by omega, by omega, by omega, by omega, by omega,  hP⟩
              · replace hP := zE_n hP h153
                have r158 := zH_k hZ 41 x0b x6ij 0 (lo := 0) (hi := 9) (by decide) rfl
                have r159 := zH_k hZ 41 x0b x6ij 1 (lo := 0) (hi := 12) (by decide) rfl
                have r160 := z_mul (x := (Z 41 x0b x6ij 0)) (y := (max 0 (((Z 12 x0b 0 (x12 / 24)) + (Z 43 x0b x9ij 1)) - (Z 41 x0b x6ij 1)))) (a := 9) (b := 48) (by omega) (by omega) (by omega) (by omega)
                have r161 := w3_r (x7 + (2 * (((Z 41 x0b x6ij 0) * (max 0 (((Z 12 x0b 0 (x12 / 24)) + (Z 43 x0b x9ij 1)) - (Z 41 x0b x6ij 1)))) / 8)))
                obtain ⟨m2, rfl⟩ : ∃ m2, m = m2 + 1 := ⟨m - 1, by omega⟩
                exact wz_k1 ⟨m2, by omega, (min (w3 (x7 + (2 * (((Z 41 x0b x6ij 0) * (max 0 (((Z 12 x0b 0 (x12 / 24)) + (Z 43 x0b x9ij 1)) - (Z 41 x0b x6ij 1)))) / 8)))) 2000), 0, ((Z 12 x0b 0 (x12 / 24)) + (Z 43 x0b x9ij 1)), (x12 + 1), (zconso rfl (zconso rfl (zconso rfl (zconso rfl (zconso (zvo (rfl : i3 x4 = i3 x4)) (zconso rfl (zconso rfl (zconso (zvo (i3Mn (i3W (i3A (rfl : i3 x7 = i3 x7) (i3M (show (2 : Int32) = i3 2 from rfl) (i3D (i3M (zm_rd (Z := Z) (ν := ν) (k := 41) (rfl : ((x0b : Nat) : Int) = x0b) ex6i (show ((0 : Nat) : Int) = 0 from rfl)) (i3Mx (show (0 : Int32) = i3 0 from rfl) (i3S (i3A (zm_rd (Z := Z) (ν := ν) (k := 12) (rfl : ((x0b : Nat) : Int) = x0b) (show ((0 : Nat) : Int) = 0 from rfl) (i3I (y := (x12 / 24)) (i3D (rfl : i3 x12 = i3 x12) (show (24 : Int32) = i3 24 from rfl) (by omega) (by omega) (by omega) (by omega)) (by omega) (by omega) (by omega))) (zm_rd (Z := Z) (ν := ν) (k := 43) (rfl : ((x0b : Nat) : Int) = x0b) ex9i (show ((1 : Nat) : Int) = 1 from rfl))) (zm_rd (Z := Z) (ν := ν) (k := 41) (rfl : ((x0b : Nat) : Int) = x0b) ex6i (show ((1 : Nat) : Int) = 1 from rfl))) (by omega) (by omega) (by omega) (by omega))) (show (8 : Int32) = i3 8 from rfl) (by omega) (by omega) (by omega) (by omega))))) (show (2000 : Int32) = i3 2000 from rfl) (by omega) (by omega) (by omega) (by omega))) (zconso (zvo (rfl : i3 x8 = i3 x8)) (zconso rfl (zconso (zvo (show (0 : Int32) = i3 0 from rfl)) (zconso (zvo (i3A (zm_rd (Z := Z) (ν := ν) (k := 12) (rfl : ((x0b : Nat) : Int) = x0b) (show ((0 : Nat) : Int) = 0 from rfl) (i3I (y := (x12 / 24)) (i3D (rfl : i3 x12 = i3 x12) (show (24 : Int32) = i3 24 from rfl) (by omega) (by omega) (by omega) (by omega)) (by omega) (by omega) (by omega))) (zm_rd (Z := Z) (ν := ν) (k := 43) (rfl : ((x0b : Nat) : Int) = x0b) ex9i (show ((1 : Nat) : Int) = 1 from rfl)))) (zconso (zvo (i3A (rfl : i3 x12 = i3 x12) (show (1 : Int32) = i3 1 from rfl))) (zconso rfl rfl)))))))))))))), rfl,  by omega, by omega, by omega, by omega, by omega,  hP⟩
        · replace hP := zE_n hP h115
          have r162 := zH_k hZ 43 x0b x9ij 3 (lo := 0) (hi := 40) (by decide) rfl
          refine wz_br (i3Le (zm_rd (Z := Z) (ν := ν) (k := 43) (rfl : ((x0b : Nat) : Int) = x0b) ex9i (show ((3 : Nat) : Int) = 3 from rfl)) (i3A (rfl : i3 x11 = i3 x11) (i3A (zm_rd (Z := Z) (ν := ν) (k := 43) (rfl : ((x0b : Nat) : Int) = x0b) ex9i (show ((2 : Nat) : Int) = 2 from rfl)) (rfl : i3 x10 = i3 x10))) (by omega) (by omega) (by omega) (by omega)) (fun h163 => ?_) (fun h163 => ?_)
          · replace hP := zE_p hP h163
            have r164 := zH_k hZ 43 x0b x9ij 1 (lo := 0) (hi := 9) (by decide) rfl
            refine wz_br (i3Le (i3S (i3A (rfl : i3 x11 = i3 x11) (i3A (zm_rd (Z := Z) (ν := ν) (k := 43) (rfl : ((x0b : Nat) : Int) = x0b) ex9i (show ((2 : Nat) : Int) = 2 from rfl)) (rfl : i3 x10 = i3 x10))) (zm_rd (Z := Z) (ν := ν) (k := 43) (rfl : ((x0b : Nat) : Int) = x0b) ex9i (show ((1 : Nat) : Int) = 1 from rfl))) (zm_rd (Z := Z) (ν := ν) (k := 43) (rfl : ((x0b : Nat) : Int) = x0b) ex9i (show ((3 : Nat) : Int) = 3 from rfl)) (by omega) (by omega) (by omega) (by omega)) (fun h165 => ?_) (fun h165 => ?_)
            · replace hP := zE_p hP h165
              refine wz_i0 (Eq.trans (i3E (rfl : i3 x8 = i3 x8) (show (0 : Int32) = i3 0 from rfl) (by omega) (by omega) (by omega) (by omega)) (decide_eq_false (by omega))) ?_
              have r166 := zH_k hZ 43 x0b x9ij 4 (lo := 0) (hi := 1) (by decide) rfl
              refine wz_br (i3NE (zm_rd (Z := Z) (ν := ν) (k := 43) (rfl : ((x0b : Nat) : Int) = x0b) ex9i (show ((4 : Nat) : Int) = 4 from rfl)) (show (1 : Int32) = i3 1 from rfl) (by omega) (by omega) (by omega) (by omega)) (fun h167 => ?_) (fun h167 => ?_)
              · replace hP := zE_p hP h167
                have r168 := zH_k hZ 41 x0b x6ij 0 (lo := 0) (hi := 9) (by decide) rfl
                have r169 := zH_k hZ 41 x0b x6ij 1 (lo := 0) (hi := 12) (by decide) rfl
                have r170 := z_mul (x := (Z 41 x0b x6ij 0)) (y := (max 0 ((Z 43 x0b x9ij 3) - (Z 41 x0b x6ij 1)))) (a := 9) (b := 40) (by omega) (by omega) (by omega) (by omega)
                have r171 := w3_r (x7 + (((Z 41 x0b x6ij 0) * (max 0 ((Z 43 x0b x9ij 3) - (Z 41 x0b x6ij 1)))) / 8))
                obtain ⟨m2, rfl⟩ : ∃ m2, m = m2 + 1 := ⟨m - 1, by omega⟩
                exact wz_k1 ⟨m2, by omega, (min (w3 (x7 + (((Z 41 x0b x6ij 0) * (max 0 ((Z 43 x0b x9ij 3) - (Z 41 x0b x6ij 1)))) / 8))) 2000), 0, (Z 43 x0b x9ij 3), (x12 + 1), (zconso rfl (zconso rfl (zconso rfl (zconso rfl (zconso (zvo (rfl : i3 x4 = i3 x4)) (zconso rfl (zconso rfl (zconso (zvo (i3Mn (i3W (i3A (rfl : i3 x7 = i3 x7) (i3D (i3M (zm_rd (Z := Z) (ν := ν) (k := 41) (rfl : ((x0b : Nat) : Int) = x0b) ex6i (show ((0 : Nat) : Int) = 0 from rfl)) (i3Mx (show (0 : Int32) = i3 0 from rfl) (i3S (zm_rd (Z := Z) (ν := ν) (k := 43) (rfl : ((x0b : Nat) : Int) = x0b) ex9i (show ((3 : Nat) : Int) = 3 from rfl)) (zm_rd (Z := Z) (ν := ν) (k := 41) (rfl : ((x0b : Nat) : Int) = x0b) ex6i (show ((1 : Nat) : Int) = 1 from rfl))) (by omega) (by omega) (by omega) (by omega))) (show (8 : Int32) = i3 8 from rfl) (by omega) (by omega) (by omega) (by omega)))) (show (2000 : Int32) = i3 2000 from rfl) (by omega) (by omega) (by omega) (by omega))) (zconso (zvo (rfl : i3 x8 = i3 x8)) (zconso rfl (zconso (zvo (show (0 : Int32) = i3 0 from rfl)) (zconso (zvo (zm_rd (Z := Z) (ν := ν) (k := 43) (rfl : ((x0b : Nat) : Int) = x0b) ex9i (show ((3 : Nat) : Int) = 3 from rfl))) (zconso (zvo (i3A (rfl : i3 x12 = i3 x12) (show (1 : Int32) = i3 1 from rfl))) (zconso rfl rfl)))))))))))))), rfl,  by omega, by omega, by omega, by omega, by omega,  hP⟩
              · replace hP := zE_n hP h167
                have r172 := zH_k hZ 41 x0b x6ij 0 (lo := 0) (hi := 9) (by decide) rfl
                have r173 := zH_k hZ 41 x0b x6ij 1 (lo := 0) (hi := 12) (by decide) rfl
                have r174 := z_mul (x := (Z 41 x0b x6ij 0)) (y := (max 0 ((Z 43 x0b x9ij 3) - (Z 41 x0b x6ij 1)))) (a := 9) (b := 40) (by omega) (by omega) (by omega) (by omega)
                have r175 := w3_r (x7 + (2 * (((Z 41 x0b x6ij 0) * (max 0 ((Z 43 x0b x9ij 3) - (Z 41 x0b x6ij 1)))) / 8)))
                obtain ⟨m2, rfl⟩ : ∃ m2, m = m2 + 1 := ⟨m - 1, by omega⟩
                exact wz_k1 ⟨m2, by omega, (min (w3 (x7 + (2 * (((Z 41 x0b x6ij 0) * (max 0 ((Z 43 x0b x9ij 3) - (Z 41 x0b x6ij 1)))) / 8)))) 2000), 0, (Z 43 x0b x9ij 3), (x12 + 1), (zconso rfl (zconso rfl (zconso rfl (zconso rfl (zconso (zvo (rfl : i3 x4 = i3 x4)) (zconso rfl (zconso rfl (zconso (zvo (i3Mn (i3W (i3A (rfl : i3 x7 = i3 x7) (i3M (show (2 : Int32) = i3 2 from rfl) (i3D (i3M (zm_rd (Z := Z) (ν := ν) (k := 41) (rfl : ((x0b : Nat) : Int) = x0b) ex6i (show ((0 : Nat) : Int) = 0 from rfl)) (i3Mx (show (0 : Int32) = i3 0 from rfl) (i3S (zm_rd (Z := Z) (ν := ν) (k := 43) (rfl : ((x0b : Nat) : Int) = x0b) ex9i (show ((3 : Nat) : Int) = 3 from rfl)) (zm_rd (Z := Z) (ν := ν) (k := 41) (rfl : ((x0b : Nat) : Int) = x0b) ex6i (show ((1 : Nat) : Int) = 1 from rfl))) (by omega) (by omega) (by omega) (by omega))) (show (8 : Int32) = i3 8 from rfl) (by omega) (by omega) (by omega) (by omega))))) (show (2000 : Int32) = i3 2000 from rfl) (by omega) (by omega) (by omega) (by omega))) (zconso (zvo (rfl : i3 x8 = i3 x8)) (zconso rfl (zconso (zvo (show (0 : Int32) = i3 0 from rfl)) (zconso (zvo (zm_rd (Z := Z) (ν := ν) (k := 43) (rfl : ((x0b : Nat) : Int) = x0b) ex9i (show ((3 : Nat) : Int) = 3 from rfl))) (zconso (zvo (i3A (rfl : i3 x12 = i3 x12) (show (1 : Int32) = i3 1 from rfl))) (zconso rfl rfl)))))))))))))), rfl,  by omega, by omega, by omega, by omega, by omega,  hP⟩
            · replace hP := zE_n hP h165
              refine wz_i0 (Eq.trans (i3E (rfl : i3 x8 = i3 x8) (show (0 : Int32) = i3 0 from rfl) (by omega) (by omega) (by omega) (by omega)) (decide_eq_false (by omega))) ?_
              have r176 := zH_k hZ 43 x0b x9ij 4 (lo := 0) (hi := 1) (by decide) rfl
              refine wz_br (i3NE (zm_rd (Z := Z) (ν := ν) (k := 43) (rfl : ((x0b : Nat) : Int) = x0b) ex9i (show ((4 : Nat) : Int) = 4 from rfl)) (show (1 : Int32) = i3 1 from rfl) (by omega) (by omega) (by omega) (by omega)) (fun h177 => ?_) (fun h177 => ?_)
              · replace hP := zE_p hP h177
                have r178 := zH_k hZ 41 x0b x6ij 0 (lo := 0) (hi := 9) (by decide) rfl
                have r179 := zH_k hZ 41 x0b x6ij 1 (lo := 0) (hi := 12) (by decide) rfl
                have r180 := z_mul (x := (Z 41 x0b x6ij 0)) (y := (max 0 (((x11 + ((Z 43 x0b x9ij 2) + x10)) - (Z 43 x0b x9ij 1)) - (Z 41 x0b x6ij 1)))) (a := 9) (b := 1000000051) (by omega) (by omega) (by omega) (by omega)
                have r181 := w3_r ((Z 41 x0b x6ij 0) * (max 0 (((x11 + ((Z 43 x0b x9ij 2) + x10)) - (Z 43 x0b x9ij 1)) - (Z 41 x0b x6ij 1))))
                have r182 := z2_r (fun x y => x / y) (w3 ((Z 41 x0b x6ij 0) * (max 0 (((x11 + ((Z 43 x0b x9ij 2) + x10)) - (Z 43 x0b x9ij 1)) - (Z 41 x0b x6ij 1))))) 8
                have r183 := w3_r (x7 + (z2 (fun x y => x / y) (w3 ((Z 41 x0b x6ij 0) * (max 0 (((x11 + ((Z 43 x0b x9ij 2) + x10)) - (Z 43 x0b x9ij 1)) - (Z 41 x0b x6ij 1))))) 8))
                obtain ⟨m2, rfl⟩ : ∃ m2, m = m2 + 1 := ⟨m - 1, by omega⟩
                exact wz_k1 ⟨m2, by omega, (min (w3 (x7 + (z2 (fun x y => x / y) (w3 ((Z 41 x0b x6ij 0) * (max 0 (((x11 + ((Z 43 x0b x9ij 2) + x10)) - (Z 43 x0b x9ij 1)) - (Z 41 x0b x6ij 1))))) 8))) 2000), 0, ((x11 + ((Z 43 x0b x9ij 2) + x10)) - (Z 43 x0b x9ij 1)), (x12 + 1), (zconso rfl (zconso rfl (zconso rfl (zconso rfl (zconso (zvo (rfl : i3 x4 = i3 x4)) (zconso rfl (zconso rfl (zconso (zvo (i3Mn (i3W (i3A (rfl : i3 x7 = i3 x7) (i3Z (fun x y => x / y) (i3W (i3M (zm_rd (Z := Z) (ν := ν) (k := 41) (rfl : ((x0b : Nat) : Int) = x0b) ex6i (show ((0 : Nat) : Int) = 0 from rfl)) (i3Mx (show (0 : Int32) = i3 0 from rfl) (i3S (i3S (i3A (rfl : i3 x11 = i3 x11) (i3A (zm_rd (Z := Z) (ν := ν) (k := 43) (rfl : ((x0b : Nat) : Int) = x0b) ex9i (show ((2 : Nat) : Int) = 2 from rfl)) (rfl : i3 x10 = i3 x10))) (zm_rd (Z := Z) (ν := ν) (k := 43) (rfl : ((x0b : Nat) : Int) = x0b) ex9i (show ((1 : Nat) : Int) = 1 from rfl))) (zm_rd (Z := Z) (ν := ν) (k := 41) (rfl : ((x0b : Nat) : Int) = x0b) ex6i (show ((1 : Nat) : Int) = 1 from rfl))) (by omega) (by omega) (by omega) (by omega)))) (show (8 : Int32) = i3 8 from rfl)))) (show (2000 : Int32) = i3 2000 from rfl) (by omega) (by omega) (by omega) (by omega))) (zconso (zvo (rfl : i3 x8 = i3 x8)) (zconso rfl (zconso (zvo (show (0 : Int32) = i3 0 from rfl)) (zconso (zvo (i3S (i3A (rfl : i3 x11 = i3 x11) (i3A (zm_rd (Z := Z) (ν := ν) (k := 43) (rfl : ((x0b : Nat) : Int) = x0b) ex9i (show ((2 : Nat) : Int) = 2 from rfl)) (rfl : i3 x10 = i3 x10))) (zm_rd (Z := Z) (ν := ν) (k := 43) (rfl : ((x0b : Nat) : Int) = x0b) ex9i (show ((1 : Nat) : Int) = 1 from rfl)))) (zconso (zvo (i3A (rfl : i3 x12 = i3 x12) (show (1 : Int32) = i3 1 from rfl))) (zconso rfl rfl)))))))))))))), rfl,  by omega, by omega, by omega, by omega, by omega,  hP⟩
              · replace hP := zE_n hP h177
                have r184 := zH_k hZ 41 x0b x6ij 0 (lo := 0) (hi := 9) (by decide) rfl
                have r185 := zH_k hZ 41 x0b x6ij 1 (lo := 0) (hi := 12) (by decide) rfl
                have r186 := z_mul (x := (Z 41 x0b x6ij 0)) (y := (max 0 (((x11 + ((Z 43 x0b x9ij 2) + x10)) - (Z 43 x0b x9ij 1)) - (Z 41 x0b x6ij 1)))) (a := 9) (b := 1000000051) (by omega) (by omega) (by omega) (by omega)
                have r187 := w3_r ((Z 41 x0b x6ij 0) * (max 0 (((x11 + ((Z 43 x0b x9ij 2) + x10)) - (Z 43 x0b x9ij 1)) - (Z 41 x0b x6ij 1))))
                have r188 := z2_r (fun x y => x / y) (w3 ((Z 41 x0b x6ij 0) * (max 0 (((x11 + ((Z 43 x0b x9ij 2) + x10)) - (Z 43 x0b x9ij 1)) - (Z 41 x0b x6ij 1))))) 8
                have r189 := w3_r (2 * (z2 (fun x y => x / y) (w3 ((Z 41 x0b x6ij 0) * (max 0 (((x11 + ((Z 43 x0b x9ij 2) + x10)) - (Z 43 x0b x9ij 1)) - (Z 41 x0b x6ij 1))))) 8))
                have r190 := w3_r (x7 + (w3 (2 * (z2 (fun x y => x / y) (w3 ((Z 41 x0b x6ij 0) * (max 0 (((x11 + ((Z 43 x0b x9ij 2) + x10)) - (Z 43 x0b x9ij 1)) - (Z 41 x0b x6ij 1))))) 8))))
                obtain ⟨m2, rfl⟩ : ∃ m2, m = m2 + 1 := ⟨m - 1, by omega⟩
                exact wz_k1 ⟨m2, by omega, (min (w3 (x7 + (w3 (2 * (z2 (fun x y => x / y) (w3 ((Z 41 x0b x6ij 0) * (max 0 (((x11 + ((Z 43 x0b x9ij 2) + x10)) - (Z 43 x0b x9ij 1)) - (Z 41 x0b x6ij 1))))) 8))))) 2000), 0, ((x11 + ((Z 43 x0b x9ij 2) + x10)) - (Z 43 x0b x9ij 1)), (x12 + 1), (zconso rfl (zconso rfl (zconso rfl (zconso rfl (zconso (zvo (rfl : i3 x4 = i3 x4)) (zconso rfl (zconso rfl (zconso (zvo (i3Mn (i3W (i3A (rfl : i3 x7 = i3 x7) (i3W (i3M (show (2 : Int32) = i3 2 from rfl) (i3Z (fun x y => x / y) (i3W (i3M (zm_rd (Z := Z) (ν := ν) (k := 41) (rfl : ((x0b : Nat) : Int) = x0b) ex6i (show ((0 : Nat) : Int) = 0 from rfl)) (i3Mx (show (0 : Int32) = i3 0 from rfl) (i3S (i3S (i3A (rfl : i3 x11 = i3 x11) (i3A (zm_rd (Z := Z) (ν := ν) (k := 43) (rfl : ((x0b : Nat) : Int) = x0b) ex9i (show ((2 : Nat) : Int) = 2 from rfl)) (rfl : i3 x10 = i3 x10))) (zm_rd (Z := Z) (ν := ν) (k := 43) (rfl : ((x0b : Nat) : Int) = x0b) ex9i (show ((1 : Nat) : Int) = 1 from rfl))) (zm_rd (Z := Z) (ν := ν) (k := 41) (rfl : ((x0b : Nat) : Int) = x0b) ex6i (show ((1 : Nat) : Int) = 1 from rfl))) (by omega) (by omega) (by omega) (by omega)))) (show (8 : Int32) = i3 8 from rfl)))))) (show (2000 : Int32) = i3 2000 from rfl) (by omega) (by omega) (by omega) (by omega))) (zconso (zvo (rfl : i3 x8 = i3 x8)) (zconso rfl (zconso (zvo (show (0 : Int32) = i3 0 from rfl)) (zconso (zvo (i3S (i3A (rfl : i3 x11 = i3 x11) (i3A (zm_rd (Z := Z) (ν := ν) (k := 43) (rfl : ((x0b : Nat) : Int) = x0b) ex9i (show ((2 : Nat) : Int) = 2 from rfl)) (rfl : i3 x10 = i3 x10))) (zm_rd (Z := Z) (ν := ν) (k := 43) (rfl : ((x0b : Nat) : Int) = x0b) ex9i (show ((1 : Nat) : Int) = 1 from rfl)))) (zconso (zvo (i3A (rfl : i3 x12 = i3 x12) (show (1 : Int32) = i3 1 from rfl))) (zconso rfl rfl)))))))))))))), rfl,  by omega, by omega, by omega, by omega, by omega,  hP⟩
          · replace hP := zE_n hP h163
            have r191 := zH_k hZ 43 x0b x9ij 1 (lo := 0) (hi := 9) (by decide) rfl
            refine wz_br (i3Le (zm_rd (Z := Z) (ν := ν) (k := 43) (rfl : ((x0b : Nat) : Int) = x0b) ex9i (show ((3 : Nat) : Int) = 3 from rfl)) (i3A (i3A (rfl : i3 x11 = i3 x11) (i3A (zm_rd (Z := Z) (ν := ν) (k := 43) (rfl : ((x0b : Nat) : Int) = x0b) ex9i (show ((2 : Nat) : Int) = 2 from rfl)) (rfl : i3 x10 = i3 x10))) (zm_rd (Z := Z) (ν := ν) (k := 43) (rfl : ((x0b : Nat) : Int) = x0b) ex9i (show ((1 : Nat) : Int) = 1 from rfl))) (by omega) (by omega) (by omega) (by omega)) (fun h192 => ?_) (fun h192 => ?_)
            · replace hP := zE_p hP h192
              refine wz_i0 (Eq.trans (i3E (rfl : i3 x8 = i3 x8) (show (0 : Int32) = i3 0 from rfl) (by omega) (by omega) (by omega) (by omega)) (decide_eq_false (by omega))) ?_
              have r193 := zH_k hZ 43 x0b x9ij 4 (lo := 0) (hi := 1) (by decide) rfl
              refine wz_br (i3NE (zm_rd (Z := Z) (ν := ν) (k := 43) (rfl : ((x0b : Nat) : Int) = x0b) ex9i (show ((4 : Nat) : Int) = 4 from rfl)) (show (1 : Int32) = i3 1 from rfl) (by omega) (by omega) (by omega) (by omega)) (fun h194 => ?_) (fun h194 => ?_)
              · replace hP := zE_p hP h194
                have r195 := zH_k hZ 41 x0b x6ij 0 (lo := 0) (hi := 9) (by decide) rfl
                have r196 := zH_k hZ 41 x0b x6ij 1 (lo := 0) (hi := 12) (by decide) rfl
                have r197 := z_mul (x := (Z 41 x0b x6ij 0)) (y := (max 0 ((Z 43 x0b x9ij 3) - (Z 41 x0b x6ij 1)))) (a := 9) (b := 40) (by omega) (by omega) (by omega) (by omega)
                have r198 := w3_r (x7 + (((Z 41 x0b x6ij 0) * (max 0 ((Z 43 x0b x9ij 3) - (Z 41 x0b x6ij 1)))) / 8))
                obtain ⟨m2, rfl⟩ : ∃ m2, m = m2 + 1 := ⟨m - 1, by omega⟩
                exact wz_k1 ⟨m2, by omega, (min (w3 (x7 + (((Z 41 x0b x6ij 0) * (max 0 ((Z 43 x0b x9ij 3) - (Z 41 x0b x6ij 1)))) / 8))) 2000), 0, (Z 43 x0b x9ij 3), (x12 + 1), (zconso rfl (zconso rfl (zconso rfl (zconso rfl (zconso (zvo (rfl : i3 x4 = i3 x4)) (zconso rfl (zconso rfl (zconso (zvo (i3Mn (i3W (i3A (rfl : i3 x7 = i3 x7) (i3D (i3M (zm_rd (Z := Z) (ν := ν) (k := 41) (rfl : ((x0b : Nat) : Int) = x0b) ex6i (show ((0 : Nat) : Int) = 0 from rfl)) (i3Mx (show (0 : Int32) = i3 0 from rfl) (i3S (zm_rd (Z := Z) (ν := ν) (k := 43) (rfl : ((x0b : Nat) : Int) = x0b) ex9i (show ((3 : Nat) : Int) = 3 from rfl)) (zm_rd (Z := Z) (ν := ν) (k := 41) (rfl : ((x0b : Nat) : Int) = x0b) ex6i (show ((1 : Nat) : Int) = 1 from rfl))) (by omega) (by omega) (by omega) (by omega))) (show (8 : Int32) = i3 8 from rfl) (by omega) (by omega) (by omega) (by omega)))) (show (2000 : Int32) = i3 2000 from rfl) (by omega) (by omega) (by omega) (by omega))) (zconso (zvo (rfl : i3 x8 = i3 x8)) (zconso rfl (zconso (zvo (show (0 : Int32) = i3 0 from rfl)) (zconso (zvo (zm_rd (Z := Z) (ν := ν) (k := 43) (rfl : ((x0b : Nat) : Int) = x0b) ex9i (show ((3 : Nat) : Int) = 3 from rfl))) (zconso (zvo (i3A (rfl : i3 x12 = i3 x12) (show (1 : Int32) = i3 1 from rfl))) (zconso rfl rfl)))))))))))))), rfl,  by omega, by omega, by omega, by omega, by omega,  hP⟩
              · replace hP := zE_n hP h194
                have r199 := zH_k hZ 41 x0b x6ij 0 (lo := 0) (hi := 9) (by decide) rfl
                have r200 := zH_k hZ 41 x0b x6ij 1 (lo := 0) (hi := 12) (by decide) rfl
                have r201 := z_mul (x := (Z 41 x0b x6ij 0)) (y := (max 0 ((Z 43 x0b x9ij 3) - (Z 41 x0b x6ij 1)))) (a := 9) (b := 40) (by omega) (by omega) (by omega) (by omega)
                have r202 := w3_r (x7 + (2 * (((Z 41 x0b x6ij 0) * (max 0 ((Z 43 x0b x9ij 3) - (Z 41 x0b x6ij 1)))) / 8)))
                obtain ⟨m2, rfl⟩ : ∃ m2, m = m2 + 1 := ⟨m - 1, by omega⟩
                exact wz_k1 ⟨m2, by omega, (min (w3 (x7 + (2 * (((Z 41 x0b x6ij 0) * (max 0 ((Z 43 x0b x9ij 3) - (Z 41 x0b x6ij 1)))) / 8)))) 2000), 0, (Z 43 x0b x9ij 3), (x12 + 1), (zconso rfl (zconso rfl (zconso rfl (zconso rfl (zconso (zvo (rfl : i3 x4 = i3 x4)) (zconso rfl (zconso rfl (zconso (zvo (i3Mn (i3W (i3A (rfl : i3 x7 = i3 x7) (i3M (show (2 : Int32) = i3 2 from rfl) (i3D (i3M (zm_rd (Z := Z) (ν := ν) (k := 41) (rfl : ((x0b : Nat) : Int) = x0b) ex6i (show ((0 : Nat) : Int) = 0 from rfl)) (i3Mx (show (0 : Int32) = i3 0 from rfl) (i3S (zm_rd (Z := Z) (ν := ν) (k := 43) (rfl : ((x0b : Nat) : Int) = x0b) ex9i (show ((3 : Nat) : Int) = 3 from rfl)) (zm_rd (Z := Z) (ν := ν) (k := 41) (rfl : ((x0b : Nat) : Int) = x0b) ex6i (show ((1 : Nat) : Int) = 1 from rfl))) (by omega) (by omega) (by omega) (by omega))) (show (8 : Int32) = i3 8 from rfl) (by omega) (by omega) (by omega) (by omega))))) (show (2000 : Int32) = i3 2000 from rfl) (by omega) (by omega) (by omega) (by omega))) (zconso (zvo (rfl : i3 x8 = i3 x8)) (zconso rfl (zconso (zvo (show (0 : Int32) = i3 0 from rfl)) (zconso (zvo (zm_rd (Z := Z) (ν := ν) (k := 43) (rfl : ((x0b : Nat) : Int) = x0b) ex9i (show ((3 : Nat) : Int) = 3 from rfl))) (zconso (zvo (i3A (rfl : i3 x12 = i3 x12) (show (1 : Int32) = i3 1 from rfl))) (zconso rfl rfl)))))))))))))), rfl,  by omega, by omega, by omega, by omega, by omega,  hP⟩
            · replace hP := zE_n hP h192
              refine wz_i0 (Eq.trans (i3E (rfl : i3 x8 = i3 x8) (show (0 : Int32) = i3 0 from rfl) (by omega) (by omega) (by omega) (by omega)) (decide_eq_false (by omega))) ?_
              have r203 := zH_k hZ 43 x0b x9ij 4 (lo := 0) (hi := 1) (by decide) rfl
              refine wz_br (i3NE (zm_rd (Z := Z) (ν := ν) (k := 43) (rfl : ((x0b : Nat) : Int) = x0b) ex9i (show ((4 : Nat) : Int) = 4 from rfl)) (show (1 : Int32) = i3 1 from rfl) (by omega) (by omega) (by omega) (by omega)) (fun h204 => ?_) (fun h204 => ?_)
              · replace hP := zE_p hP h204
                have r205 := zH_k hZ 41 x0b x6ij 0 (lo := 0) (hi := 9) (by decide) rfl
                have r206 := zH_k hZ 41 x0b x6ij 1 (lo := 0) (hi := 12) (by decide) rfl
                have r207 := w3_r (((x11 + ((Z 43 x0b x9ij 2) + x10)) + (Z 43 x0b x9ij 1)) - (Z 41 x0b x6ij 1))
                have r208 := z_mul (x := (Z 41 x0b x6ij 0)) (y := (max 0 (w3 (((x11 + ((Z 43 x0b x9ij 2) + x10)) + (Z 43 x0b x9ij 1)) - (Z 41 x0b x6ij 1))))) (a := 9) (b := 2147483647) (by omega) (by omega) (by omega) (by omega)
                have r209 := w3_r ((Z 41 x0b x6ij 0) * (max 0 (w3 (((x11 + ((Z 43 x0b x9ij 2) + x10)) + (Z 43 x0b x9ij 1)) - (Z 41 x0b x6ij 1)))))
                have r210 := z2_r (fun x y => x / y) (w3 ((Z 41 x0b x6ij 0) * (max 0 (w3 (((x11 + ((Z 43 x0b x9ij 2) + x10)) + (Z 43 x0b x9ij 1)) - (Z 41 x0b x6ij 1)))))) 8
                have r211 := w3_r (x7 + (z2 (fun x y => x / y) (w3 ((Z 41 x0b x6ij 0) * (max 0 (w3 (((x11 + ((Z 43 x0b x9ij 2) + x10)) + (Z 43 x0b x9ij 1)) - (Z 41 x0b x6ij 1)))))) 8))
                obtain ⟨m2, rfl⟩ : ∃ m2, m = m2 + 1 := ⟨m - 1, by omega⟩
                exact wz_k1 ⟨m2, by omega, (min (w3 (x7 + (z2 (fun x y => x / y) (w3 ((Z 41 x0b x6ij 0) * (max 0 (w3 (((x11 + ((Z 43 x0b x9ij 2) + x10)) + (Z 43 x0b x9ij 1)) - (Z 41 x0b x6ij 1)))))) 8))) 2000), 0, ((x11 + ((Z 43 x0b x9ij 2) + x10)) + (Z 43 x0b x9ij 1)), (x12 + 1), (zconso rfl (zconso rfl (zconso rfl (zconso rfl (zconso (zvo (rfl : i3 x4 = i3 x4)) (zconso rfl (zconso rfl (zconso (zvo (i3Mn (i3W (i3A (rfl : i3 x7 = i3 x7) (i3Z (fun x y => x / y) (i3W (i3M (zm_rd (Z := Z) (ν := ν) (k := 41) (rfl : ((x0b : Nat) : Int) = x0b) ex6i (show ((0 : Nat) : Int) = 0 from rfl)) (i3Mx (show (0 : Int32) = i3 0 from rfl) (i3W (i3S (i3A (i3A (rfl : i3 x11 = i3 x11) (i3A (zm_rd (Z := Z) (ν := ν) (k := 43) (rfl : ((x0b : Nat) : Int) = x0b) ex9i (show ((2 : Nat) : Int) = 2 from rfl)) (rfl : i3 x10 = i3 x10))) (zm_rd (Z := Z) (ν := ν) (k := 43) (rfl : ((x0b : Nat) : Int) = x0b) ex9i (show ((1 : Nat) : Int) = 1 from rfl))) (zm_rd (Z := Z) (ν := ν) (k := 41) (rfl : ((x0b : Nat) : Int) = x0b) ex6i (show ((1 : Nat) : Int) = 1 from rfl)))) (by omega) (by omega) (by omega) (by omega)))) (show (8 : Int32) = i3 8 from rfl)))) (show (2000 : Int32) = i3 2000 from rfl) (by omega) (by omega) (by omega) (by omega))) (zconso (zvo (rfl : i3 x8 = i3 x8)) (zconso rfl (zconso (zvo (show (0 : Int32) = i3 0 from rfl)) (zconso (zvo (i3A (i3A (rfl : i3 x11 = i3 x11) (i3A (zm_rd (Z := Z) (ν := ν) (k := 43) (rfl : ((x0b : Nat) : Int) = x0b) ex9i (show ((2 : Nat) : Int) = 2 from rfl)) (rfl : i3 x10 = i3 x10))) (zm_rd (Z := Z) (ν := ν) (k := 43) (rfl : ((x0b : Nat) : Int) = x0b) ex9i (show ((1 : Nat) : Int) = 1 from rfl)))) (zconso (zvo (i3A (rfl : i3 x12 = i3 x12) (show (1 : Int32) = i3 1 from rfl))) (zconso rfl rfl)))))))))))))), rfl,  by omega, by omega, by omega, by omega, by omega,  hP⟩
              · replace hP := zE_n hP h204
                have r212 := zH_k hZ 41 x0b x6ij 0 (lo := 0) (hi := 9) (by decide) rfl
                have r213 := zH_k hZ 41 x0b x6ij 1 (lo := 0) (hi := 12) (by decide) rfl
                have r214 := w3_r (((x11 + ((Z 43 x0b x9ij 2) + x10)) + (Z 43 x0b x9ij 1)) - (Z 41 x0b x6ij 1))
                have r215 := z_mul (x := (Z 41 x0b x6ij 0)) (y := (max 0 (w3 (((x11 + ((Z 43 x0b x9ij 2) + x10)) + (Z 43 x0b x9ij 1)) - (Z 41 x0b x6ij 1))))) (a := 9) (b := 2147483647) (by omega) (by omega) (by omega) (by omega)
                have r216 := w3_r ((Z 41 x0b x6ij 0) * (max 0 (w3 (((x11 + ((Z 43 x0b x9ij 2) + x10)) + (Z 43 x0b x9ij 1)) - (Z 41 x0b x6ij 1)))))
                have r217 := z2_r (fun x y => x / y) (w3 ((Z 41 x0b x6ij 0) * (max 0 (w3 (((x11 + ((Z 43 x0b x9ij 2) + x10)) + (Z 43 x0b x9ij 1)) - (Z 41 x0b x6ij 1)))))) 8
                have r218 := w3_r (2 * (z2 (fun x y => x / y) (w3 ((Z 41 x0b x6ij 0) * (max 0 (w3 (((x11 + ((Z 43 x0b x9ij 2) + x10)) + (Z 43 x0b x9ij 1)) - (Z 41 x0b x6ij 1)))))) 8))
                have r219 := w3_r (x7 + (w3 (2 * (z2 (fun x y => x / y) (w3 ((Z 41 x0b x6ij 0) * (max 0 (w3 (((x11 + ((Z 43 x0b x9ij 2) + x10)) + (Z 43 x0b x9ij 1)) - (Z 41 x0b x6ij 1)))))) 8))))
                obtain ⟨m2, rfl⟩ : ∃ m2, m = m2 + 1 := ⟨m - 1, by omega⟩
                exact wz_k1 ⟨m2, by omega, (min (w3 (x7 + (w3 (2 * (z2 (fun x y => x / y) (w3 ((Z 41 x0b x6ij 0) * (max 0 (w3 (((x11 + ((Z 43 x0b x9ij 2) + x10)) + (Z 43 x0b x9ij 1)) - (Z 41 x0b x6ij 1)))))) 8))))) 2000), 0, ((x11 + ((Z 43 x0b x9ij 2) + x10)) + (Z 43 x0b x9ij 1)), (x12 + 1), (zconso rfl (zconso rfl (zconso rfl (zconso rfl (zconso (zvo (rfl : i3 x4 = i3 x4)) (zconso rfl (zconso rfl (zconso (zvo (i3Mn (i3W (i3A (rfl : i3 x7 = i3 x7) (i3W (i3M (show (2 : Int32) = i3 2 from rfl) (i3Z (fun x y => x / y) (i3W (i3M (zm_rd (Z := Z) (ν := ν) (k := 41) (rfl : ((x0b : Nat) : Int) = x0b) ex6i (show ((0 : Nat) : Int) = 0 from rfl)) (i3Mx (show (0 : Int32) = i3 0 from rfl) (i3W (i3S (i3A (i3A (rfl : i3 x11 = i3 x11) (i3A (zm_rd (Z := Z) (ν := ν) (k := 43) (rfl : ((x0b : Nat) : Int) = x0b) ex9i (show ((2 : Nat) : Int) = 2 from rfl)) (rfl : i3 x10 = i3 x10))) (zm_rd (Z := Z) (ν := ν) (k := 43) (rfl : ((x0b : Nat) : Int) = x0b) ex9i (show ((1 : Nat) : Int) = 1 from rfl))) (zm_rd (Z := Z) (ν := ν) (k := 41) (rfl : ((x0b : Nat) : Int) = x0b) ex6i (show ((1 : Nat) : Int) = 1 from rfl)))) (by omega) (by omega) (by omega) (by omega)))) (show (8 : Int32) = i3 8 from rfl)))))) (show (2000 : Int32) = i3 2000 from rfl) (by omega) (by omega) (by omega) (by omega))) (zconso (zvo (rfl : i3 x8 = i3 x8)) (zconso rfl (zconso (zvo (show (0 : Int32) = i3 0 from rfl)) (zconso (zvo (i3A (i3A (rfl : i3 x11 = i3 x11) (i3A (zm_rd (Z := Z) (ν := ν) (k := 43) (rfl : ((x0b : Nat) : Int) = x0b) ex9i (show ((2 : Nat) : Int) = 2 from rfl)) (rfl : i3 x10 = i3 x10))) (zm_rd (Z := Z) (ν := ν) (k := 43) (rfl : ((x0b : Nat) : Int) = x0b) ex9i (show ((1 : Nat) : Int) = 1 from rfl)))) (zconso (zvo (i3A (rfl : i3 x12 = i3 x12) (show (1 : Int32) = i3 1 from rfl))) (zconso rfl rfl)))))))))))))), rfl,  by omega, by omega, by omega, by omega, by omega,  hP⟩
/- yX10_ripeAt -/
def zf_180 (Z : qz_Z) (a0b : Int) (a1 : Int) (a2 : Int) (a3 : Int) (a4 : Int) : Int := (if a2 = 6 then (zlet4 (zl_180_1 a0b (Z 44 a0b a1 1) 0 a4 0 ((672 - ((Z 11 a0b 0 13) + 1)).toNat + 1) Z (Z 44 a0b a1 7) ((Z 43 a0b 0 7) + a3) (Z 43 a0b 0 5) ((Z 11 a0b 0 13) + 1)) (fun y7 y8 y9 y10 => y7)) else (zlet4 (zl_180_1 a0b (Z 44 a0b a1 1) a2 a4 1 ((672 - ((Z 11 a0b 0 13) + 1)).toNat + 1) Z (Z 44 a0b a1 7) ((Z 43 a0b a2 7) + a3) (Z 43 a0b a2 5) ((Z 11 a0b 0 13) + 1)) (fun y16 y17 y18 y19 => y16)))
theorem sp_180 {s : zSM} {Z : qz_Z} {ν : qz_N} (hZ : zH s Z) (a0b : Nat) {a1 : Int} (ga1 : 0 ≤ a1 ∧ a1 ≤ 47) {a2 : Int} (ga2 : 0 ≤ a2 ∧ a2 ≤ 6) {a3 : Int} (ga3 : 0 ≤ a3 ∧ a3 ≤ 3) {a4 : Int} (ga4 : 0 ≤ a4 ∧ a4 ≤ 671) (hM : s.2 + 0 ≤ 1000000000) : ∃ P : Int, P = zf_180 Z a0b a1 a2 a3 a4 ∧ (qf_180 [.inr (.inr (some (10, a0b, 0))), .inl (i3 a1), .inl (i3 a2), .inl (i3 a3), .inl (i3 a4)] (zm Z ν) = some (zm Z ν, .inl (some (.inl (i3 P)))) ∧ -2147483648 ≤ P ∧ P ≤ 2147483647) := by
  obtain ⟨P, hP⟩ := zx (zf_180 Z a0b a1 a2 a3 a4)
  refine zc_R (Q := fun P => -2147483648 ≤ P ∧ P ≤ 2147483647) hP (fw_180 a0b (i3 a1) (i3 a2) (i3 a3) (i3 a4) _ _ ?_)
  replace hP : zE P (zf_180 Z a0b a1 a2 a3 a4) := hP
  unfold zf_180 at hP
  refine wz_i0 (i3O (n := 48) (rfl : i3 a1 = i3 a1) (by omega) (by omega) (by omega)) ?_
  have r1 := zH_k hZ 44 a0b a1 1 (lo := 0) (hi := 4) (by decide) rfl
  refine wz_i0 (i3O (n := 5) (zm_rd (Z := Z) (ν := ν) (k := 44) (rfl : ((a0b : Nat) : Int) = a0b) (i3I (y := a1) (rfl : i3 a1 = i3 a1) (by omega) (by omega) (by omega)) (show ((1 : Nat) : Int) = 1 from rfl)) (by omega) (by omega) (by omega)) ?_
  refine wz_br (i3E (rfl : i3 a2 = i3 a2) (show (6 : Int32) = i3 6 from rfl) (by omega) (by omega) (by omega) (by omega)) (fun h2 => ?_) (fun h2 => ?_)
  · replace hP := zE_p hP h2
    have r3 := zH_k hZ 44 a0b a1 7 (lo := 0) (hi := 2000) (by decide) rfl
    have r4 := zH_d hZ a0b 0 (zbh (c := 0) (k := 0) hM (Nat.le_of_ble_eq_true rfl))
    have r5 := zH_k hZ 43 a0b 0 5 (lo := 0) (hi := 40) (by decide) rfl
    have r6 := zH_k hZ 11 a0b 0 13 (lo := 0) (hi := 671) (by decide) rfl
    refine sl_180_1 (ν := ν) hZ (zbh (c := 0) (k := 0) hM (Nat.le_of_ble_eq_true rfl)) a0b _ (i3I (y := (Z 44 a0b a1 1)) (zm_rd (Z := Z) (ν := ν) (k := 44) (rfl : ((a0b : Nat) : Int) = a0b) (i3I (y := a1) (rfl : i3 a1 = i3 a1) (by omega) (by omega) (by omega)) (show ((1 : Nat) : Int) = 1 from rfl)) (by omega) (by omega) (by omega)) (by omega) _ (show ((0 : Nat) : Int) = 0 from rfl) (by omega) (x4 := a4) (by omega) (x7 := (Z 44 a0b a1 7)) (by omega) (x8 := 0) (by omega) (x10 := ((Z 43 a0b 0 7) + a3)) (by omega) (x11 := (Z 43 a0b 0 5)) (by omega) (x12 := ((Z 11 a0b 0 13) + 1)) (by omega)  (zconso rfl (zconso rfl (zconso rfl (zconso rfl (zconso (zvo (rfl : i3 a4 = i3 a4)) (zconso rfl (zconso rfl (zconso (zvo (zm_rd (Z := Z) (ν := ν) (k := 44) (rfl : ((a0b : Nat) : Int) = a0b) (i3I (y := a1) (rfl : i3 a1 = i3 a1) (by omega) (by omega) (by omega)) (show ((7 : Nat) : Int) = 7 from rfl))) (zconso (zvo (show (0 : Int32) = i3 0 from rfl)) (zconso rfl (zconso (zvo (i3A (zm_rd (Z := Z) (ν := ν) (k := 43) (rfl : ((a0b : Nat) : Int) = a0b) (show ((0 : Nat) : Int) = 0 from rfl) (show ((7 : Nat) : Int) = 7 from rfl)) (rfl : i3 a3 = i3 a3))) (zconso (zvo (zm_rd (Z := Z) (ν := ν) (k := 43) (rfl : ((a0b : Nat) : Int) = a0b) (show ((0 : Nat) : Int) = 0 from rfl) (show ((5 : Nat) : Int) = 5 from rfl))) (zconso (zvo (i3A (zm_rd (Z := Z) (ν := ν) (k := 11) (rfl : ((a0b : Nat) : Int) = a0b) (show ((0 : Nat) : Int) = 0 from rfl) (show ((13 : Nat) : Int) = 13 from rfl)) (show (1 : Int32) = i3 1 from rfl))) (zconso rfl rfl)))))))))))))) rfl ?_
    intro L11 y7 y8 y9 y10 hL11 gy7 gy8 gy9 gy10 q9
    replace hP := zl_e4 hP (Eq.symm q9)
    clear q9
    refine fc_180_2 (i3 y7) _ _ _ _ hL11 ?_
    exact zlR hP (rfl : i3 y7 = i3 y7) ⟨by omega, by omega⟩
  · replace hP := zE_n hP h2
    refine wz_i0 (i3O (n := 6) (rfl : i3 a2 = i3 a2) (by omega) (by omega) (by omega)) ?_
    have r12 := zH_k hZ 44 a0b a1 7 (lo := 0) (hi := 2000) (by decide) rfl
    have r13 := zH_d hZ a0b a2 (zbh (c := 0) (k := 0) hM (Nat.le_of_ble_eq_true rfl))
    have r14 := zH_k hZ 43 a0b a2 5 (lo := 0) (hi := 40) (by decide) rfl
    have r15 := zH_k hZ 11 a0b 0 13 (lo := 0) (hi := 671) (by decide) rfl
    refine sl_180_1 (ν := ν) hZ (zbh (c := 0) (k := 0) hM (Nat.le_of_ble_eq_true rfl)) a0b _ (i3I (y := (Z 44 a0b a1 1)) (zm_rd (Z := Z) (ν := ν) (k := 44) (rfl : ((a0b : Nat) : Int) = a0b) (i3I (y := a1) (rfl : i3 a1 = i3 a1) (by omega) (by omega) (by omega)) (show ((1 : Nat) : Int) = 1 from rfl)) (by omega) (by omega) (by omega)) (by omega) _ (i3I (y := a2) (rfl : i3 a2 = i3 a2) (by omega) (by omega) (by omega)) (by omega) (x4 := a4) (by omega) (x7 := (Z 44 a0b a1 7)) (by omega) (x8 := 1) (by omega) (x10 := ((Z 43 a0b a2 7) + a3)) (by omega) (x11 := (Z 43 a0b a2 5)) (by omega) (x12 := ((Z 11 a0b 0 13) + 1)) (by omega)  (zconso rfl (zconso rfl (zconso rfl (zconso rfl (zconso (zvo (rfl : i3 a4 = i3 a4)) (zconso rfl (zconso rfl (zconso (zvo (zm_rd (Z := Z) (ν := ν) (k := 44) (rfl : ((a0b : Nat) : Int) = a0b) (i3I (y := a1) (rfl : i3 a1 = i3 a1) (by omega) (by omega) (by omega)) (show ((7 : Nat) : Int) = 7 from rfl))) (zconso (zvo (show (1 : Int32) = i3 1 from rfl)) (zconso rfl (zconso (zvo (i3A (zm_rd (Z := Z) (ν := ν) (k := 43) (rfl : ((a0b : Nat) : Int) = a0b) (i3I (y := a2) (rfl : i3 a2 = i3 a2) (by omega) (by omega) (by omega)) (show ((7 : Nat) : Int) = 7 from rfl)) (rfl : i3 a3 = i3 a3))) (zconso (zvo (zm_rd (Z := Z) (ν := ν) (k := 43) (rfl : ((a0b : Nat) : Int) = a0b) (i3I (y := a2) (rfl : i3 a2 = i3 a2) (by omega) (by omega) (by omega)) (show ((5 : Nat) : Int) = 5 from rfl))) (zconso (zvo (i3A (zm_rd (Z := Z) (ν := ν) (k := 11) (rfl : ((a0b : Nat) : Int) = a0b) (show ((0 : Nat) : Int) = 0 from rfl) (show ((13 : Nat) : Int) = 13 from rfl)) (show (1 : Int32) = i3 1 from rfl))) (zconso rfl rfl)))))))))))))) rfl ?_
    intro L20 y16 y17 y18 y19 hL20 gy16 gy17 gy18 gy19 q9
    replace hP := zl_e4 hP (Eq.symm q9)
    clear q9
    refine fc_180_2 (i3 y16) _ _ _ _ hL20 ?_
    exact zlR hP (rfl : i3 y16 = i3 y16) ⟨by omega, by omega⟩
/- yX10_fineAt -/
def zf_169 (Z : qz_Z) (a0b : Int) (a1 : Int) (a2 : Int) (a3 : Int) (a4 : Int) : Int := (zlet (zf_180 Z a0b a1 a2 a3 a4) (fun v1 => (if ((Z 41 a0b (Z 44 a0b a1 1) 3) - (Z 41 a0b (Z 44 a0b a1 1) 4)) ≤ v1 then (if ((Z 41 a0b (Z 44 a0b a1 1) 3) + (Z 41 a0b (Z 44 a0b a1 1) 4)) < v1 then (if ((Z 41 a0b (Z 44 a0b a1 1) 3) + (3 * (Z 41 a0b (Z 44 a0b a1 1) 4))) < v1 then 0 else 0) else 1) else 0)))
theorem sp_169 {s : zSM} {Z : qz_Z} {ν : qz_N} (hZ : zH s Z) (a0b : Nat) {a1 : Int} (ga1 : 0 ≤ a1 ∧ a1 ≤ 47) {a2 : Int} (ga2 : 0 ≤ a2 ∧ a2 ≤ 6) {a3 : Int} (ga3 : 0 ≤ a3 ∧ a3 ≤ 3) {a4 : Int} (ga4 : 0 ≤ a4 ∧ a4 ≤ 671) (hM : s.2 + 0 ≤ 1000000000) : ∃ P : Int, P = zf_169 Z a0b a1 a2 a3 a4 ∧ (qf_169 [.inr (.inr (some (10, a0b, 0))), .inl (i3 a1), .inl (i3 a2), .inl (i3 a3), .inl (i3 a4)] (zm Z ν) = some (zm Z ν, .inl (some (.inl (i3 P)))) ∧ 0 ≤ P ∧ P ≤ 1) := by
  obtain ⟨P, hP⟩ := zx (zf_169 Z a0b a1 a2 a3 a4)
  refine zc_R (Q := fun P => 0 ≤ P ∧ P ≤ 1) hP (fw_169 a0b (i3 a1) (i3 a2) (i3 a3) (i3 a4) _ _ ?_)
  replace hP : zE P (zf_169 Z a0b a1 a2 a3 a4) := hP
  unfold zf_169 at hP
  obtain ⟨v1, hv1, c9, lv1, uv1⟩ := sp_180 (ν := ν) hZ a0b (a1 := a1) (by omega) (a2 := a2) (by omega) (a3 := a3) (by omega) (a4 := a4) (by omega) (zbh (c := 0) (k := 0) hM (Nat.le_of_ble_eq_true rfl))
  replace hP := zl_e hP hv1
  refine wz_cI_of (zas (zcons rfl (zcons (zvi (rfl : i3 a1 = i3 a1)) (zcons (zvi (rfl : i3 a2 = i3 a2)) (zcons (zvi (rfl : i3 a3 = i3 a3)) (zcons (zvi (rfl : i3 a4 = i3 a4)) rfl))))) c9) ?_
  clear c9
  refine wz_i0 (i3O (n := 48) (rfl : i3 a1 = i3 a1) (by omega) (by omega) (by omega)) ?_
  have r2 := zH_k hZ 44 a0b a1 1 (lo := 0) (hi := 4) (by decide) rfl
  refine wz_i0 (i3O (n := 5) (zm_rd (Z := Z) (ν := ν) (k := 44) (rfl : ((a0b : Nat) : Int) = a0b) (i3I (y := a1) (rfl : i3 a1 = i3 a1) (by omega) (by omega) (by omega)) (show ((1 : Nat) : Int) = 1 from rfl)) (by omega) (by omega) (by omega)) ?_
  refine wz_i0 (i3O (n := 5) (zm_rd (Z := Z) (ν := ν) (k := 44) (rfl : ((a0b : Nat) : Int) = a0b) (i3I (y := a1) (rfl : i3 a1 = i3 a1) (by omega) (by omega) (by omega)) (show ((1 : Nat) : Int) = 1 from rfl)) (by omega) (by omega) (by omega)) ?_
  have r3 := zH_k hZ 41 a0b (Z 44 a0b a1 1) 3 (lo := 0) (hi := 600) (by decide) rfl
  have r4 := zH_k hZ 41 a0b (Z 44 a0b a1 1) 4 (lo := 0) (hi := 99) (by decide) rfl
  refine wz_br (i3Le (i3S (zm_rd (Z := Z) (ν := ν) (k := 41) (rfl : ((a0b : Nat) : Int) = a0b) (i3I (y := (Z 44 a0b a1 1)) (zm_rd (Z := Z) (ν := ν) (k := 44) (rfl : ((a0b : Nat) : Int) = a0b) (i3I (y := a1) (rfl : i3 a1 = i3 a1) (by omega) (by omega) (by omega)) (show ((1 : Nat) : Int) = 1 from rfl)) (by omega) (by omega) (by omega)) (show ((3 : Nat) : Int) = 3 from rfl)) (zm_rd (Z := Z) (ν := ν) (k := 41) (rfl : ((a0b : Nat) : Int) = a0b) (i3I (y := (Z 44 a0b a1 1)) (zm_rd (Z := Z) (ν := ν) (k := 44) (rfl : ((a0b : Nat) : Int) = a0b) (i3I (y := a1) (rfl : i3 a1 = i3 a1) (by omega) (by omega) (by omega)) (show ((1 : Nat) : Int) = 1 from rfl)) (by omega) (by omega) (by omega)) (show ((4 : Nat) : Int) = 4 from rfl))) (rfl : i3 v1 = i3 v1) (by omega) (by omega) (by omega) (by omega)) (fun h5 => ?_) (fun h5 => ?_)
  · replace hP := zE_p hP h5
    refine wz_br (i3L (i3A (zm_rd (Z := Z) (ν := ν) (k := 41) (rfl : ((a0b : Nat) : Int) = a0b) (i3I (y := (Z 44 a0b a1 1)) (zm_rd (Z := Z) (ν := ν) (k := 44) (rfl : ((a0b : Nat) : Int) = a0b) (i3I (y := a1) (rfl : i3 a1 = i3 a1) (by omega) (by omega) (by omega)) (show ((1 : Nat) : Int) = 1 from rfl)) (by omega) (by omega) (by omega)) (show ((3 : Nat) : Int) = 3 from rfl)) (zm_rd (Z := Z) (ν := ν) (k := 41) (rfl : ((a0b : Nat) : Int) = a0b) (i3I (y := (Z 44 a0b a1 1)) (zm_rd (Z := Z) (ν := ν) (k := 44) (rfl : ((a0b : Nat) : Int) = a0b) (i3I (y := a1) (rfl : i3 a1 = i3 a1) (by omega) (by omega) (by omega)) (show ((1 : Nat) : Int) = 1 from rfl)) (by omega) (by omega) (by omega)) (show ((4 : Nat) : Int) = 4 from rfl))) (rfl : i3 v1 = i3 v1) (by omega) (by omega) (by omega) (by omega)) (fun h6 => ?_) (fun h6 => ?_)
    · replace hP := zE_p hP h6
      refine wz_br (i3L (i3A (zm_rd (Z := Z) (ν := ν) (k := 41) (rfl : ((a0b : Nat) : Int) = a0b) (i3I (y := (Z 44 a0b a1 1)) (zm_rd (Z := Z) (ν := ν) (k := 44) (rfl : ((a0b : Nat) : Int) = a0b) (i3I (y := a1) (rfl : i3 a1 = i3 a1) (by omega) (by omega) (by omega)) (show ((1 : Nat) : Int) = 1 from rfl)) (by omega) (by omega) (by omega)) (show ((3 : Nat) : Int) = 3 from rfl)) (i3M (show (3 : Int32) = i3 3 from rfl) (zm_rd (Z := Z) (ν := ν) (k := 41) (rfl : ((a0b : Nat) : Int) = a0b) (i3I (y := (Z 44 a0b a1 1)) (zm_rd (Z := Z) (ν := ν) (k := 44) (rfl : ((a0b : Nat) : Int) = a0b) (i3I (y := a1) (rfl : i3 a1 = i3 a1) (by omega) (by omega) (by omega)) (show ((1 : Nat) : Int) = 1 from rfl)) (by omega) (by omega) (by omega)) (show ((4 : Nat) : Int) = 4 from rfl)))) (rfl : i3 v1 = i3 v1) (by omega) (by omega) (by omega) (by omega)) (fun h7 => ?_) (fun h7 => ?_)
      · replace hP := zE_p hP h7
        exact zlR hP (show (0 : Int32) = i3 0 from rfl) ⟨by omega, by omega⟩
      · replace hP := zE_n hP h7
        exact zlR hP (show (0 : Int32) = i3 0 from rfl) ⟨by omega, by omega⟩
    · replace hP := zE_n hP h6
      exact zlR hP (show (1 : Int32) = i3 1 from rfl) ⟨by omega, by omega⟩
  · replace hP := zE_n hP h5
    exact zlR hP (show (0 : Int32) = i3 0 from rfl) ⟨by omega, by omega⟩
/- yX10_findFine -/
def zl_166_1 (x0b : Int) (x2b : Int) (x3b : Int) (x4b : Int) (x1 : Int) (x5 : Int) (x6 : Int) : Nat → qz_Z → Int → qz_Z × Int
  | 0, Z, x7 => (Z, x7)
  | m + 1, Z, x7 => (if 4 ≤ x7 then (Z, x7) else (if x6 < 0 then (Z, x7) else (if 6 ≤ x6 then (Z, x7) else (zlet (zf_169 Z x0b x5 x6 x7 x1) (fun v7 => (zlet (zu Z 200 x3b 0 (4 * x6 + x7) (w3 ((Z 200 x3b 0 (4 * x6 + x7)) + v7))) (fun Z10 => zl_166_1 x0b x2b x3b x4b x1 x5 x6 m Z10 (x7 + 1))))))))
theorem sl_166_1 {s : zSM} {Zs Z : qz_Z} {ν : qz_N} (hZ : zH s Z) (hM : s.2 + 0 ≤ 1000000000) (hs : s.1 = none) {n9 : Nat} (hn : ν.2.2.2.1 = n9) (x0b : Nat) (x2b : Nat) (hSx2 : zSh ν x2b 50 3) (gAx2 : zA (-1) 47 x2b Z) (x3b : Nat) (hSx3 : zSh ν x3b 50 24) (x4b : Nat) (hSx4 : zSh ν x4b 50 84) {x1 : Int} (gx1 : 0 ≤ x1 ∧ x1 ≤ 671) {x5 : Int} (gx5 : 0 ≤ x5 ∧ x5 ≤ 47) {x6 : Int} (gx6 : -1 ≤ x6 ∧ x6 ≤ 6) {x7 : Int} (gx7 : 0 ≤ x7 ∧ x7 ≤ 4) (hK : zL [] [x3b] n9 Zs Z) (hU : zU [] Zs Z) (gd0 : x3b ≠ x2b) (gd1 : x3b ≠ x4b) {k : wz_K} {R : wz_R} {L : qz_L} (hL : qz_fg [true, true, true, true, true, true, true, true] L = [some (.inr (.inr (some (10, x0b, 0)))), some (.inl (i3 x1)), some (.inr (.inr (some (200, x2b, 0)))), some (.inr (.inr (some (200, x3b, 0)))), some (.inr (.inr (some (200, x4b, 0)))), some (.inl (i3 x5)), some (.inl (i3 x6)), some (.inl (i3 x7))]) {T : qz_Z × Int} (hP : zE T (zl_166_1 x0b x2b x3b x4b x1 x5 x6 ((4 - x7).toNat + 1) Z x7)) (hk : ∀ (L9 : qz_L) (Z9 : qz_Z) (yx7 : Int), qz_fg [true, true, true, true, true, true, false, false] L9 = [some (.inr (.inr (some (10, x0b, 0)))), some (.inl (i3 x1)), some (.inr (.inr (some (200, x2b, 0)))), some (.inr (.inr (some (200, x3b, 0)))), some (.inr (.inr (some (200, x4b, 0)))), some (.inl (i3 x5)), none, none] → zH s Z9 → zL [] [x3b] n9 Zs Z9 → zU [] Zs Z9 → zA (-1) 47 x2b Z9 → (0 ≤ yx7 ∧ yx7 ≤ 4) → zE T ((Z9, yx7)) → k 0 (L9, [], zm Z9 ν)) : wz_loop qb_166_1 65536 k R (L, [], zm Z ν) := by
  refine wz_lp sb_166_1 (fun m x => ∃ Z : qz_Z, ∃ x7 : Int, qz_fg [true, true, true, true, true, true, true, true] x.1 = [some (.inr (.inr (some (10, x0b, 0)))), some (.inl (i3 x1)), some (.inr (.inr (some (200, x2b, 0)))), some (.inr (.inr (some (200, x3b, 0)))), some (.inr (.inr (some (200, x4b, 0)))), some (.inl (i3 x5)), some (.inl (i3 x6)), some (.inl (i3 x7))] ∧ x.2 = ([], zm Z ν) ∧ zH s Z ∧ zL [] [x3b] n9 Zs Z ∧ zU [] Zs Z ∧ zA (-1) 47 x2b Z ∧ m = (4 - x7).toNat ∧ (0 ≤ x7 ∧ x7 ≤ 4) ∧ zE T (zl_166_1 x0b x2b x3b x4b x1 x5 x6 (m + 1) Z x7)) ?_ 65536 ((4 - x7).toNat) _ (by omega) ⟨Z, x7, hL, rfl, hZ, hK, hU, gAx2, rfl, gx7, hP⟩
  clear hP gx7 hZ hK hU gAx2 hL
  clear x7
  clear Z
  rintro m ⟨L, st, μ⟩ ⟨Z, x7, hL, hx, hZ, hK, hU, gAx2, hm, gx7, hP⟩
  cases hx
  refine fb_166_1 x0b (i3 x1) (200, x2b, 0) (200, x3b, 0) (200, x4b, 0) (i3 x5) (i3 x6) (i3 x7) _ _ _ _ hL ?_
  have r1 := hSx2.1
  have r2 := hSx3.1
  have r3 := hSx4.1
  refine wz_br (i3Le (show (4 : Int32) = i3 4 from rfl) (rfl : i3 x7 = i3 x7) (by omega) (by omega) (by omega) (by omega)) (fun h4 => ?_) (fun h4 => ?_)
  · replace hP := zE_p hP h4
    exact hk _ _ _ (zconso rfl (zconso (zvo (rfl : i3 x1 = i3 x1)) (zconso rfl (zconso rfl (zconso rfl (zconso (zvo (rfl : i3 x5 = i3 x5)) (zconso rfl (zconso rfl rfl)))))))) hZ hK hU gAx2 (by omega)  hP
  · replace hP := zE_n hP h4
    refine wz_br (i3L (rfl : i3 x6 = i3 x6) (show (0 : Int32) = i3 0 from rfl) (by omega) (by omega) (by omega) (by omega)) (fun h5 => ?_) (fun h5 => ?_)
    · replace hP := zE_p hP h5
      exact hk _ _ _ (zconso rfl (zconso (zvo (rfl : i3 x1 = i3 x1)) (zconso rfl (zconso rfl (zconso rfl (zconso (zvo (rfl : i3 x5 = i3 x5)) (zconso rfl (zconso rfl rfl)))))))) hZ hK hU gAx2 (by omega)  hP
    · replace hP := zE_n hP h5
      refine wz_br (i3Le (show (6 : Int32) = i3 6 from rfl) (rfl : i3 x6 = i3 x6) (by omega) (by omega) (by omega) (by omega)) (fun h6 => ?_) (fun h6 => ?_)
      · replace hP := zE_p hP h6
        exact hk _ _ _ (zconso rfl (zconso (zvo (rfl : i3 x1 = i3 x1)) (zconso rfl (zconso rfl (zconso rfl (zconso (zvo (rfl : i3 x5 = i3 x5)) (zconso rfl (zconso rfl rfl)))))))) hZ hK hU gAx2 (by omega)  hP
      · replace hP := zE_n hP h6
        refine wz_i1 (by rw [zSh_t hSx3]; rfl) ?_
        refine wz_i0 (by rw [zSh_l hSx3]; exact i3O (n := 24) (i3A (i3M (rfl : i3 x6 = i3 x6) (show (4 : Int32) = i3 4 from rfl)) (rfl : i3 x7 = i3 x7)) (by omega) (by omega) (by omega)) ?_
        obtain ⟨v7, hv7, c9, lv7, uv7⟩ := sp_169 (ν := ν) hZ x0b (a1 := x5) (by omega) (a2 := x6) (by omega) (a3 := x7) (by omega) (a4 := x1) (by omega) (zbh (c := 0) (k := 0) hM (Nat.le_of_ble_eq_true rfl))
        replace hP := zl_e hP hv7
        refine wz_cI_of (zas (zcons rfl (zcons (zvi (rfl : i3 x5 = i3 x5)) (zcons (zvi (rfl : i3 x6 = i3 x6)) (zcons (zvi (rfl : i3 x7 = i3 x7)) (zcons (zvi (rfl : i3 x1 = i3 x1)) rfl))))) c9) ?_
        clear c9
        refine wz_i1 (by rw [zSh_t hSx3]; rfl) ?_
        refine wz_i0 (by rw [zSh_l hSx3]; exact i3O (n := 24) (i3A (i3M (rfl : i3 x6 = i3 x6) (show (4 : Int32) = i3 4 from rfl)) (rfl : i3 x7 = i3 x7)) (by omega) (by omega) (by omega)) ?_
        have r8 := zH_f hZ 200 x3b 0 (4 * x6 + x7)
        have r9 := w3_r ((Z 200 x3b 0 (4 * x6 + x7)) + v7)
        obtain ⟨Z10, hZ10⟩ := zx (zu Z 200 x3b 0 (4 * x6 + x7) (w3 ((Z 200 x3b 0 (4 * x6 + x7)) + v7)))
        replace hP := zl_e hP hZ10
        have hZ10I := zH_200 hZ hZ10 (by omega) hs
        have hZ10U : zU [] Zs Z10 := zU_u hU hZ10 (Or.inl rfl)
        have hZ10K : zL [] [x3b] n9 Zs Z10 := zL_a hK hZ10 (Or.inl (by simp))
        intro μ9 e9
        replace e9 := e9.trans (zm_wI (Z := Z) (ν := ν) hZ10 (rfl : ((x3b : Nat) : Int) = x3b) (show ((0 : Nat) : Int) = 0 from rfl) (i3I (y := (4 * x6 + x7)) (i3A (i3M (rfl : i3 x6 = i3 x6) (show (4 : Int32) = i3 4 from rfl)) (rfl : i3 x7 = i3 x7)) (by omega) (by omega) (by omega)) (i3W (i3A (zm_rd (Z := Z) (ν := ν) (k := 200) (rfl : ((x3b : Nat) : Int) = x3b) (show ((0 : Nat) : Int) = 0 from rfl) (i3I (y := (4 * x6 + x7)) (i3A (i3M (rfl : i3 x6 = i3 x6) (show (4 : Int32) = i3 4 from rfl)) (rfl : i3 x7 = i3 x7)) (by omega) (by omega) (by omega))) (rfl : i3 v7 = i3 v7))))
        subst e9
        obtain ⟨m2, rfl⟩ : ∃ m2, m = m2 + 1 := ⟨m - 1, by omega⟩
        exact wz_k1 ⟨m2, by omega, Z10, (x7 + 1), (zconso rfl (zconso (zvo (rfl : i3 x1 = i3 x1)) (zconso rfl (zconso rfl (zconso rfl (zconso (zvo (rfl : i3 x5 = i3 x5)) (zconso (zvo (rfl : i3 x6 = i3 x6)) (zconso (zvo (i3A (rfl : i3 x7 = i3 x7) (show (1 : Int32) = i3 1 from rfl))) rfl)))))))), rfl, hZ10I, hZ10K, hZ10U, (zA_o gAx2 hZ10 (fun q => absurd q.2 (by omega))), by omega, by omega,  hP⟩
/- yX10_findFine -/
def zl_166_3 (x0b : Int) (x2b : Int) (x3b : Int) (x4b : Int) (x1 : Int) : Nat → qz_Z → Int → qz_Z × Int
  | 0, Z, x5 => (Z, x5)
  | m + 1, Z, x5 => (if (Z 11 x0b 0 3) ≤ x5 then (Z, x5) else (zlet2 (zl_166_1 x0b x2b x3b x4b x1 x5 (Z 44 x0b x5 12) 5 Z 0) (fun Z8 y7 => zl_166_3 x0b x2b x3b x4b x1 m Z8 (x5 + 1))))
theorem sl_166_3 {s : zSM} {Zs Z : qz_Z} {ν : qz_N} (hZ : zH s Z) (hM : s.2 + 0 ≤ 1000000000) (hs : s.1 = none) {n9 : Nat} (hn : ν.2.2.2.1 = n9) (x0b : Nat) (x2b : Nat) (hSx2 : zSh ν x2b 50 3) (gAx2 : zA (-1) 47 x2b Z) (x3b : Nat) (hSx3 : zSh ν x3b 50 24) (x4b : Nat) (hSx4 : zSh ν x4b 50 84) {x1 : Int} (gx1 : 0 ≤ x1 ∧ x1 ≤ 671) {x5 : Int} (gx5 : 0 ≤ x5 ∧ x5 ≤ 48) (hK : zL [] [x3b] n9 Zs Z) (hU : zU [] Zs Z) (gd0 : x3b ≠ x2b) (gd1 : x3b ≠ x4b) {k : wz_K} {R : wz_R} {L : qz_L} (hL : qz_fg [true, true, true, true, true, true, false, false] L = [some (.inr (.inr (some (10, x0b, 0)))), some (.inl (i3 x1)), some (.inr (.inr (some (200, x2b, 0)))), some (.inr (.inr (some (200, x3b, 0)))), some (.inr (.inr (some (200, x4b, 0)))), some (.inl (i3 x5)), none, none]) {T : qz_Z × Int} (hP : zE T (zl_166_3 x0b x2b x3b x4b x1 ((48 - x5).toNat + 1) Z x5)) (hk : ∀ (L9 : qz_L) (Z9 : qz_Z) (yx5 : Int), qz_fg [true, true, true, false, true, false, false, false] L9 = [some (.inr (.inr (some (10, x0b, 0)))), some (.inl (i3 x1)), some (.inr (.inr (some (200, x2b, 0)))), none, some (.inr (.inr (some (200, x4b, 0)))), none, none, none] → zH s Z9 → zL [] [x3b] n9 Zs Z9 → zU [] Zs Z9 → zA (-1) 47 x2b Z9 → (0 ≤ yx5 ∧ yx5 ≤ 48) → zE T ((Z9, yx5)) → k 0 (L9, [], zm Z9 ν)) : wz_loop qb_166_3 65536 k R (L, [], zm Z ν) := by
  refine wz_lp sb_166_3 (fun m x => ∃ Z : qz_Z, ∃ x5 : Int, qz_fg [true, true, true, true, true, true, false, false] x.1 = [some (.inr (.inr (some (10, x0b, 0)))), some (.inl (i3 x1)), some (.inr (.inr (some (200, x2b, 0)))), some (.inr (.inr (some (200, x3b, 0)))), some (.inr (.inr (some (200, x4b, 0)))), some (.inl (i3 x5)), none, none] ∧ x.2 = ([], zm Z ν) ∧ zH s Z ∧ zL [] [x3b] n9 Zs Z ∧ zU [] Zs Z ∧ zA (-1) 47 x2b Z ∧ m = (48 - x5).toNat ∧ (0 ≤ x5 ∧ x5 ≤ 48) ∧ zE T (zl_166_3 x0b x2b x3b x4b x1 (m + 1) Z x5)) ?_ 65536 ((48 - x5).toNat) _ (by omega) ⟨Z, x5, hL, rfl, hZ, hK, hU, gAx2, rfl, gx5, hP⟩
  clear hP gx5 hZ hK hU gAx2 hL
  clear x5
  clear Z
  rintro m ⟨L, st, μ⟩ ⟨Z, x5, hL, hx, hZ, hK, hU, gAx2, hm, gx5, hP⟩
  cases hx
  refine fb_166_3 x0b (i3 x1) (200, x2b, 0) (200, x3b, 0) (200, x4b, 0) (i3 x5) _ _ _ _ hL ?_
  have r1 := hSx2.1
  have r2 := hSx3.1
  have r3 := hSx4.1
  have r4 := zH_k hZ 11 x0b 0 3 (lo := 0) (hi := 48) (by decide) rfl
  refine wz_br (i3Le (zm_rd (Z := Z) (ν := ν) (k := 11) (rfl : ((x0b : Nat) : Int) = x0b) (show ((0 : Nat) : Int) = 0 from rfl) (show ((3 : Nat) : Int) = 3 from rfl)) (rfl : i3 x5 = i3 x5) (by omega) (by omega) (by omega) (by omega)) (fun h5 => ?_) (fun h5 => ?_)
  · replace hP := zE_p hP h5
    exact hk _ _ _ (zconso rfl (zconso (zvo (rfl : i3 x1 = i3 x1)) (zconso rfl (zconso rfl (zconso rfl (zconso rfl (zconso rfl (zconso rfl rfl)))))))) hZ hK hU gAx2 (by omega)  hP
  · replace hP := zE_n hP h5
    refine wz_i0 (i3O (n := 48) (rfl : i3 x5 = i3 x5) (by omega) (by omega) (by omega)) ?_
    have r6 := zH_k hZ 44 x0b x5 12 (lo := -1) (hi := 6) (by decide) rfl
    refine sl_166_1 (ν := ν) hZ (zbh (c := 0) (k := 0) hM (Nat.le_of_ble_eq_true rfl)) hs hn x0b x2b hSx2 gAx2 x3b hSx3 x4b hSx4 (x1 := x1) (by omega) (x5 := x5) (by omega) (x6 := (Z 44 x0b x5 12)) (by omega) (x7 := 0) (by omega) zL_r zU_r (by omega) (by omega)  (zconso rfl (zconso (zvo (rfl : i3 x1 = i3 x1)) (zconso rfl (zconso rfl (zconso rfl (zconso (zvo (rfl : i3 x5 = i3 x5)) (zconso (zvo (zm_rd (Z := Z) (ν := ν) (k := 44) (rfl : ((x0b : Nat) : Int) = x0b) (i3I (y := x5) (rfl : i3 x5 = i3 x5) (by omega) (by omega) (by omega)) (show ((12 : Nat) : Int) = 12 from rfl))) (zconso (zvo (show (0 : Int32) = i3 0 from rfl)) rfl)))))))) rfl ?_
    intro L9 Z8 y7 hL9 hZ8I kZ8 jZ8 aZ8_x2 gy7 q9
    replace hP := zl_e2 hP (Eq.symm q9)
    clear q9
    have hZ8U : zU [] Zs Z8 := zU_t hU jZ8 zU_b0
    have hZ8K : zL [] [x3b] n9 Zs Z8 := zL_t hK kZ8 (by decide) (zL_b1 (Or.inl (by simp)) zL_b0) (by omega)
    refine fc_166_2 _ (i3 x1) _ _ _ (i3 x5) _ _ _ _ hL9 ?_
    obtain ⟨m2, rfl⟩ : ∃ m2, m = m2 + 1 := ⟨m - 1, by omega⟩
    refine wz_kbs (n := 1) (?_)
    exact wz_k1 ⟨m2, by omega, Z8, (x5 + 1), (zconso rfl (zconso (zvo (rfl : i3 x1 = i3 x1)) (zconso rfl (zconso rfl (zconso rfl (zconso (zvo (i3A (rfl : i3 x5 = i3 x5) (show (1 : Int32) = i3 1 from rfl))) (zconso rfl (zconso rfl rfl)))))))), rfl, hZ8I, hZ8K, hZ8U, aZ8_x2, by omega, by omega,  hP⟩
/- yX10_findFine -/
def zl_166_4 (x0b : Int) (x2b : Int) (x4b : Int) (x1 : Int) (x5 : Int) (x6 : Int) : Nat → qz_Z → Int → qz_Z × Int
  | 0, Z, x7 => (Z, x7)
  | m + 1, Z, x7 => (if (Z 11 x0b 0 2) ≤ x7 then (Z, x7) else (zlet (zf_169 Z x0b (Z 200 x2b 0 x5) x7 x6 x1) (fun v6 => (zlet (zu Z 200 x4b 0 (28 * x5 + 4 * x7 + x6) v6) (fun Z7 => zl_166_4 x0b x2b x4b x1 x5 x6 m Z7 (x7 + 1))))))
theorem sl_166_4 {s : zSM} {Zs Z : qz_Z} {ν : qz_N} (hZ : zH s Z) (hM : s.2 + 0 ≤ 1000000000) (hs : s.1 = none) {n9 : Nat} (hn : ν.2.2.2.1 = n9) (x0b : Nat) (x2b : Nat) (hSx2 : zSh ν x2b 50 3) (gAx2 : zA (-1) 47 x2b Z) (x4b : Nat) (hSx4 : zSh ν x4b 50 84) {x1 : Int} (gx1 : 0 ≤ x1 ∧ x1 ≤ 671) {x5 : Int} (gx5 : 0 ≤ x5 ∧ x5 ≤ 2) {x6 : Int} (gx6 : 0 ≤ x6 ∧ x6 ≤ 3) {x7 : Int} (gx7 : 0 ≤ x7 ∧ x7 ≤ 6) (hK : zL [] [x4b] n9 Zs Z) (hU : zU [] Zs Z) (gd0 : x4b ≠ x2b) (gr0 : Z 200 x2b 0 x5 ≠ -1) {k : wz_K} {R : wz_R} {L : qz_L} (hL : qz_fg [true, true, true, false, true, true, true, true] L = [some (.inr (.inr (some (10, x0b, 0)))), some (.inl (i3 x1)), some (.inr (.inr (some (200, x2b, 0)))), none, some (.inr (.inr (some (200, x4b, 0)))), some (.inl (i3 x5)), some (.inl (i3 x6)), some (.inl (i3 x7))]) {T : qz_Z × Int} (hP : zE T (zl_166_4 x0b x2b x4b x1 x5 x6 ((6 - x7).toNat + 1) Z x7)) (hk : ∀ (L9 : qz_L) (Z9 : qz_Z) (yx7 : Int), qz_fg [true, true, true, false, true, true, true, false] L9 = [some (.inr (.inr (some (10, x0b, 0)))), some (.inl (i3 x1)), some (.inr (.inr (some (200, x2b, 0)))), none, some (.inr (.inr (some (200, x4b, 0)))), some (.inl (i3 x5)), some (.inl (i3 x6)), none] → zH s Z9 → zL [] [x4b] n9 Zs Z9 → zU [] Zs Z9 → zA (-1) 47 x2b Z9 → (0 ≤ yx7 ∧ yx7 ≤ 6) → (Z9 200 x2b 0 x5 ≠ -1) → zE T ((Z9, yx7)) → k 0 (L9, [], zm Z9 ν)) : wz_loop qb_166_4 65536 k R (L, [], zm Z ν) := by
  refine wz_lp sb_166_4 (fun m x => ∃ Z : qz_Z, ∃ x7 : Int, qz_fg [true, true, true, false, true, true, true, true] x.1 = [some (.inr (.inr (some (10, x0b, 0)))), some (.inl (i3 x1)), some (.inr (.inr (some (200, x2b, 0)))), none, some (.inr (.inr (some (200, x4b, 0)))), some (.inl (i3 x5)), some (.inl (i3 x6)), some (.inl (i3 x7))] ∧ x.2 = ([], zm Z ν) ∧ zH s Z ∧ zL [] [x4b] n9 Zs Z ∧ zU [] Zs Z ∧ zA (-1) 47 x2b Z ∧ m = (6 - x7).toNat ∧ (0 ≤ x7 ∧ x7 ≤ 6) ∧ (Z 200 x2b 0 x5 ≠ -1) ∧ zE T (zl_166_4 x0b x2b x4b x1 x5 x6 (m + 1) Z x7)) ?_ 65536 ((6 - x7).toNat) _ (by omega) ⟨Z, x7, hL, rfl, hZ, hK, hU, gAx2, rfl, gx7, gr0, hP⟩
  clear hP gr0 gx7 hZ hK hU gAx2 hL
  clear x7
  clear Z
  rintro m ⟨L, st, μ⟩ ⟨Z, x7, hL, hx, hZ, hK, hU, gAx2, hm, gx7, gr0, hP⟩
  cases hx
  refine fb_166_4 x0b (i3 x1) (200, x2b, 0) (200, x4b, 0) (i3 x5) (i3 x6) (i3 x7) _ _ _ _ hL ?_
  have r1 := hSx2.1
  have r2 := hSx4.1
  have r3 := gAx2 x5
  have r4 := zH_k hZ 11 x0b 0 2 (lo := 0) (hi := 6) (by decide) rfl
  refine wz_br (i3Le (zm_rd (Z := Z) (ν := ν) (k := 11) (rfl : ((x0b : Nat) : Int) = x0b) (show ((0 : Nat) : Int) = 0 from rfl) (show ((2 : Nat) : Int) = 2 from rfl)) (rfl : i3 x7 = i3 x7) (by omega) (by omega) (by omega) (by omega)) (fun h5 => ?_) (fun h5 => ?_)
  · replace hP := zE_p hP h5
    exact hk _ _ _ (zconso rfl (zconso (zvo (rfl : i3 x1 = i3 x1)) (zconso rfl (zconso rfl (zconso rfl (zconso (zvo (rfl : i3 x5 = i3 x5)) (zconso (zvo (rfl : i3 x6 = i3 x6)) (zconso rfl rfl)))))))) hZ hK hU gAx2 (by omega) (by omega) hP
  · replace hP := zE_n hP h5
    refine wz_i1 (by rw [zSh_t hSx2]; rfl) ?_
    refine wz_i0 (by rw [zSh_l hSx2]; exact i3O (n := 3) (rfl : i3 x5 = i3 x5) (by omega) (by omega) (by omega)) ?_
    obtain ⟨v6, hv6, c9, lv6, uv6⟩ := sp_169 (ν := ν) hZ x0b (a1 := (Z 200 x2b 0 x5)) (by omega) (a2 := x7) (by omega) (a3 := x6) (by omega) (a4 := x1) (by omega) (zbh (c := 0) (k := 0) hM (Nat.le_of_ble_eq_true rfl))
    replace hP := zl_e hP hv6
    refine wz_cI_of (zas (zcons rfl (zcons (zvi (zm_rd (Z := Z) (ν := ν) (k := 200) (rfl : ((x2b : Nat) : Int) = x2b) (show ((0 : Nat) : Int) = 0 from rfl) (i3I (y := x5) (rfl : i3 x5 = i3 x5) (by omega) (by omega) (by omega)))) (zcons (zvi (rfl : i3 x7 = i3 x7)) (zcons (zvi (rfl : i3 x6 = i3 x6)) (zcons (zvi (rfl : i3 x1 = i3 x1)) rfl))))) c9) ?_
    clear c9
    refine wz_i1 (by rw [zSh_t hSx4]; rfl) ?_
    refine wz_i0 (by rw [zSh_l hSx4]; exact i3O (n := 84) (i3A (i3M (i3A (i3M (rfl : i3 x5 = i3 x5) (show (7 : Int32) = i3 7 from rfl)) (rfl : i3 x7 = i3 x7)) (show (4 : Int32) = i3 4 from rfl)) (rfl : i3 x6 = i3 x6)) (by omega) (by omega) (by omega)) ?_
    obtain ⟨Z7, hZ7⟩ := zx (zu Z 200 x4b 0 (28 * x5 + 4 * x7 + x6) v6)
    replace hP := zl_e hP hZ7
    have hZ7I := zH_200 hZ hZ7 (by omega) hs
    have hZ7U : zU [] Zs Z7 := zU_u hU hZ7 (Or.inl rfl)
    have hZ7K : zL [] [x4b] n9 Zs Z7 := zL_a hK hZ7 (Or.inl (by simp))
    intro μ9 e9
    replace e9 := e9.trans (zm_wI (Z := Z) (ν := ν) hZ7 (rfl : ((x4b : Nat) : Int) = x4b) (show ((0 : Nat) : Int) = 0 from rfl) (i3I (y := (28 * x5 + 4 * x7 + x6)) (i3A (i3M (i3A (i3M (rfl : i3 x5 = i3 x5) (show (7 : Int32) = i3 7 from rfl)) (rfl : i3 x7 = i3 x7)) (show (4 : Int32) = i3 4 from rfl)) (rfl : i3 x6 = i3 x6)) (by omega) (by omega) (by omega)) (rfl : i3 v6 = i3 v6))
    subst e9
    have r8 := (zA_o gAx2 hZ7 (fun q => absurd q.2 (by omega))) x5
    have q9 := zu_ne (k' := 200) (b' := x2b) (i' := 0) (j' := x5) hZ7 (fun q => absurd q.2.1 (by omega))
    obtain ⟨m2, rfl⟩ : ∃ m2, m = m2 + 1 := ⟨m - 1, by omega⟩
    exact wz_k1 ⟨m2, by omega, Z7, (x7 + 1), (zconso rfl (zconso (zvo (rfl : i3 x1 = i3 x1)) (zconso rfl (zconso rfl (zconso rfl (zconso (zvo (rfl : i3 x5 = i3 x5)) (zconso (zvo (rfl : i3 x6 = i3 x6)) (zconso (zvo (i3A (rfl : i3 x7 = i3 x7) (show (1 : Int32) = i3 1 from rfl))) rfl)))))))), rfl, hZ7I, hZ7K, hZ7U, (zA_o gAx2 hZ7 (fun q => absurd q.2 (by omega))), by omega, by omega, by omega,  hP⟩
/- yX10_findFine -/
def zl_166_6 (x0b : Int) (x2b : Int) (x4b : Int) (x1 : Int) (x5 : Int) : Nat → qz_Z → Int → qz_Z × Int
  | 0, Z, x6 => (Z, x6)
  | m + 1, Z, x6 => (if 4 ≤ x6 then (Z, x6) else (zlet2 (zl_166_4 x0b x2b x4b x1 x5 x6 7 Z 0) (fun Z6 y5 => (zlet (zf_169 Z6 x0b (Z6 200 x2b 0 x5) 6 0 x1) (fun v10 => (zlet (zu Z6 200 x4b 0 (24 + 28 * x5 + x6) v10) (fun Z11 => zl_166_6 x0b x2b x4b x1 x5 m Z11 (x6 + 1))))))))
theorem sl_166_6 {s : zSM} {Zs Z : qz_Z} {ν : qz_N} (hZ : zH s Z) (hM : s.2 + 0 ≤ 1000000000) (hs : s.1 = none) {n9 : Nat} (hn : ν.2.2.2.1 = n9) (x0b : Nat) (x2b : Nat) (hSx2 : zSh ν x2b 50 3) (gAx2 : zA (-1) 47 x2b Z) (x4b : Nat) (hSx4 : zSh ν x4b 50 84) {x1 : Int} (gx1 : 0 ≤ x1 ∧ x1 ≤ 671) {x5 : Int} (gx5 : 0 ≤ x5 ∧ x5 ≤ 2) {x6 : Int} (gx6 : 0 ≤ x6 ∧ x6 ≤ 4) (hK : zL [] [x4b] n9 Zs Z) (hU : zU [] Zs Z) (gd0 : x4b ≠ x2b) (gr0 : Z 200 x2b 0 x5 ≠ -1) {k : wz_K} {R : wz_R} {L : qz_L} (hL : qz_fg [true, true, true, false, true, true, true, false] L = [some (.inr (.inr (some (10, x0b, 0)))), some (.inl (i3 x1)), some (.inr (.inr (some (200, x2b, 0)))), none, some (.inr (.inr (some (200, x4b, 0)))), some (.inl (i3 x5)), some (.inl (i3 x6)), none]) {T : qz_Z × Int} (hP : zE T (zl_166_6 x0b x2b x4b x1 x5 ((4 - x6).toNat + 1) Z x6)) (hk : ∀ (L9 : qz_L) (Z9 : qz_Z) (yx6 : Int), qz_fg [true, true, true, false, true, true, false, false] L9 = [some (.inr (.inr (some (10, x0b, 0)))), some (.inl (i3 x1)), some (.inr (.inr (some (200, x2b, 0)))), none, some (.inr (.inr (some (200, x4b, 0)))), some (.inl (i3 x5)), none, none] → zH s Z9 → zL [] [x4b] n9 Zs Z9 → zU [] Zs Z9 → zA (-1) 47 x2b Z9 → (0 ≤ yx6 ∧ yx6 ≤ 4) → (Z9 200 x2b 0 x5 ≠ -1) → zE T ((Z9, yx6)) → k 1 (L9, [], zm Z9 ν)) : wz_loop qb_166_6 65536 k R (L, [], zm Z ν) := by
  refine wz_lp sb_166_6 (fun m x => ∃ Z : qz_Z, ∃ x6 : Int, qz_fg [true, true, true, false, true, true, true, false] x.1 = [some (.inr (.inr (some (10, x0b, 0)))), some (.inl (i3 x1)), some (.inr (.inr (some (200, x2b, 0)))), none, some (.inr (.inr (some (200, x4b, 0)))), some (.inl (i3 x5)), some (.inl (i3 x6)), none] ∧ x.2 = ([], zm Z ν) ∧ zH s Z ∧ zL [] [x4b] n9 Zs Z ∧ zU [] Zs Z ∧ zA (-1) 47 x2b Z ∧ m = (4 - x6).toNat ∧ (0 ≤ x6 ∧ x6 ≤ 4) ∧ (Z 200 x2b 0 x5 ≠ -1) ∧ zE T (zl_166_6 x0b x2b x4b x1 x5 (m + 1) Z x6)) ?_ 65536 ((4 - x6).toNat) _ (by omega) ⟨Z, x6, hL, rfl, hZ, hK, hU, gAx2, rfl, gx6, gr0, hP⟩
  clear hP gr0 gx6 hZ hK hU gAx2 hL
  clear x6
  clear Z
  rintro m ⟨L, st, μ⟩ ⟨Z, x6, hL, hx, hZ, hK, hU, gAx2, hm, gx6, gr0, hP⟩
  cases hx
  refine fb_166_6 x0b (i3 x1) (200, x2b, 0) (200, x4b, 0) (i3 x5) (i3 x6) _ _ _ _ hL ?_
  have r1 := hSx2.1
  have r2 := hSx4.1
  have r3 := gAx2 x5
  refine wz_br (i3Le (show (4 : Int32) = i3 4 from rfl) (rfl : i3 x6 = i3 x6) (by omega) (by omega) (by omega) (by omega)) (fun h4 => ?_) (fun h4 => ?_)
  · replace hP := zE_p hP h4
    exact hk _ _ _ (zconso rfl (zconso (zvo (rfl : i3 x1 = i3 x1)) (zconso rfl (zconso rfl (zconso rfl (zconso (zvo (rfl : i3 x5 = i3 x5)) (zconso rfl (zconso rfl rfl)))))))) hZ hK hU gAx2 (by omega) (by omega) hP
  · replace hP := zE_n hP h4
    refine sl_166_4 (ν := ν) hZ (zbh (c := 0) (k := 0) hM (Nat.le_of_ble_eq_true rfl)) hs hn x0b x2b hSx2 gAx2 x4b hSx4 (x1 := x1) (by omega) (x5 := x5) (by omega) (x6 := x6) (by omega) (x7 := 0) (by omega) zL_r zU_r (by omega) (by omega) (zconso rfl (zconso (zvo (rfl : i3 x1 = i3 x1)) (zconso rfl (zconso rfl (zconso rfl (zconso (zvo (rfl : i3 x5 = i3 x5)) (zconso (zvo (rfl : i3 x6 = i3 x6)) (zconso (zvo (show (0 : Int32) = i3 0 from rfl)) rfl)))))))) rfl ?_
    intro L7 Z6 y5 hL7 hZ6I kZ6 jZ6 aZ6_x2 gy5 gL7_0 q9
    replace hP := zl_e2 hP (Eq.symm q9)
    clear q9
    have hZ6U : zU [] Zs Z6 := zU_t hU jZ6 zU_b0
    have hZ6K : zL [] [x4b] n9 Zs Z6 := zL_t hK kZ6 (by decide) (zL_b1 (Or.inl (by simp)) zL_b0) (by omega)
    have r8 := aZ6_x2 x5
    have q9 := zL_x kZ6 (zA_b1 (by omega) zA_b0) (by omega) 0 x5
    refine fc_166_5 _ (i3 x1) _ _ (i3 x5) (i3 x6) _ _ _ _ hL7 ?_
    refine wz_i1 (by rw [zSh_t hSx2]; rfl) ?_
    refine wz_i0 (by rw [zSh_l hSx2]; exact i3O (n := 3) (rfl : i3 x5 = i3 x5) (by omega) (by omega) (by omega)) ?_
    obtain ⟨v10, hv10, c9, lv10, uv10⟩ := sp_169 (ν := ν) hZ6I x0b (a1 := (Z6 200 x2b 0 x5)) (by omega) (a2 := 6) (by omega) (a3 := 0) (by omega) (a4 := x1) (by omega) (zbh (c := 0) (k := 0) hM (Nat.le_of_ble_eq_true rfl))
    replace hP := zl_e hP hv10
    refine wz_cI_of (zas (zcons rfl (zcons (zvi (zm_rd (Z := Z6) (ν := ν) (k := 200) (rfl : ((x2b : Nat) : Int) = x2b) (show ((0 : Nat) : Int) = 0 from rfl) (i3I (y := x5) (rfl : i3 x5 = i3 x5) (by omega) (by omega) (by omega)))) (zcons (zvi (show (6 : Int32) = i3 6 from rfl)) (zcons (zvi (show (0 : Int32) = i3 0 from rfl)) (zcons (zvi (rfl : i3 x1 = i3 x1)) rfl))))) c9) ?_
    clear c9
    refine wz_i1 (by rw [zSh_t hSx4]; rfl) ?_
    refine wz_i0 (by rw [zSh_l hSx4]; exact i3O (n := 84) (i3A (i3M (i3A (i3M (rfl : i3 x5 = i3 x5) (show (7 : Int32) = i3 7 from rfl)) (show (6 : Int32) = i3 6 from rfl)) (show (4 : Int32) = i3 4 from rfl)) (rfl : i3 x6 = i3 x6)) (by omega) (by omega) (by omega)) ?_
    obtain ⟨Z11, hZ11⟩ := zx (zu Z6 200 x4b 0 (24 + 28 * x5 + x6) v10)
    replace hP := zl_e hP hZ11
    have hZ11I := zH_200 hZ6I hZ11 (by omega) hs
    have hZ11U : zU [] Zs Z11 := zU_u hZ6U hZ11 (Or.inl rfl)
    have hZ11K : zL [] [x4b] n9 Zs Z11 := zL_a hZ6K hZ11 (Or.inl (by simp))
    intro μ9 e9
    replace e9 := e9.trans (zm_wI (Z := Z6) (ν := ν) hZ11 (rfl : ((x4b : Nat) : Int) = x4b) (show ((0 : Nat) : Int) = 0 from rfl) (i3I (y := (24 + 28 * x5 + x6)) (i3A (i3M (i3A (i3M (rfl : i3 x5 = i3 x5) (show (7 : Int32) = i3 7 from rfl)) (show (6 : Int32) = i3 6 from rfl)) (show (4 : Int32) = i3 4 from rfl)) (rfl : i3 x6 = i3 x6)) (by omega) (by omega) (by omega)) (rfl : i3 v10 = i3 v10))
    subst e9
    have r12 := (zA_o aZ6_x2 hZ11 (fun q => absurd q.2 (by omega))) x5
    have q13 := zu_ne (k' := 200) (b' := x2b) (i' := 0) (j' := x5) hZ11 (fun q => absurd q.2.1 (by omega))
    obtain ⟨m2, rfl⟩ : ∃ m2, m = m2 + 1 := ⟨m - 1, by omega⟩
    exact wz_k1 ⟨m2, by omega, Z11, (x6 + 1), (zconso rfl (zconso (zvo (rfl : i3 x1 = i3 x1)) (zconso rfl (zconso rfl (zconso rfl (zconso (zvo (rfl : i3 x5 = i3 x5)) (zconso (zvo (i3A (rfl : i3 x6 = i3 x6) (show (1 : Int32) = i3 1 from rfl))) (zconso rfl rfl)))))))), rfl, hZ11I, hZ11K, hZ11U, (zA_o aZ6_x2 hZ11 (fun q => absurd q.2 (by omega))), by omega, by omega, by omega,  hP⟩
/- yX10_findFine -/
def zl_166_8 (x0b : Int) (x2b : Int) (x4b : Int) (x1 : Int) : Nat → qz_Z → Int → qz_Z × Int
  | 0, Z, x5 => (Z, x5)
  | m + 1, Z, x5 => (if 3 ≤ x5 then (Z, x5) else (if (Z 200 x2b 0 x5) = (-1) then zl_166_8 x0b x2b x4b x1 m Z (x5 + 1) else (zlet2 (zl_166_6 x0b x2b x4b x1 x5 5 Z 0) (fun Z7 y6 => zl_166_8 x0b x2b x4b x1 m Z7 (x5 + 1)))))
theorem sl_166_8 {s : zSM} {Zs Z : qz_Z} {ν : qz_N} (hZ : zH s Z) (hM : s.2 + 0 ≤ 1000000000) (hs : s.1 = none) {n9 : Nat} (hn : ν.2.2.2.1 = n9) (x0b : Nat) (x2b : Nat) (hSx2 : zSh ν x2b 50 3) (gAx2 : zA (-1) 47 x2b Z) (x4b : Nat) (hSx4 : zSh ν x4b 50 84) {x1 : Int} (gx1 : 0 ≤ x1 ∧ x1 ≤ 671) {x5 : Int} (gx5 : 0 ≤ x5 ∧ x5 ≤ 3) (hK : zL [] [x4b] n9 Zs Z) (hU : zU [] Zs Z) (gd0 : x4b ≠ x2b) {k : wz_K} {R : wz_R} {L : qz_L} (hL : qz_fg [true, true, true, false, true, true, false, false] L = [some (.inr (.inr (some (10, x0b, 0)))), some (.inl (i3 x1)), some (.inr (.inr (some (200, x2b, 0)))), none, some (.inr (.inr (some (200, x4b, 0)))), some (.inl (i3 x5)), none, none]) {T : qz_Z × Int} (hP : zE T (zl_166_8 x0b x2b x4b x1 ((3 - x5).toNat + 1) Z x5)) (hk : ∀ (L9 : qz_L) (Z9 : qz_Z) (yx5 : Int), qz_fg [false, false, false, false, false, false, false, false] L9 = [none, none, none, none, none, none, none, none] → zH s Z9 → zL [] [x4b] n9 Zs Z9 → zU [] Zs Z9 → zA (-1) 47 x2b Z9 → (0 ≤ yx5 ∧ yx5 ≤ 3) → zE T ((Z9, yx5)) → k 0 (L9, [], zm Z9 ν)) : wz_loop qb_166_8 65536 k R (L, [], zm Z ν) := by
  refine wz_lp sb_166_8 (fun m x => ∃ Z : qz_Z, ∃ x5 : Int, qz_fg [true, true, true, false, true, true, false, false] x.1 = [some (.inr (.inr (some (10, x0b, 0)))), some (.inl (i3 x1)), some (.inr (.inr (some (200, x2b, 0)))), none, some (.inr (.inr (some (200, x4b, 0)))), some (.inl (i3 x5)), none, none] ∧ x.2 = ([], zm Z ν) ∧ zH s Z ∧ zL [] [x4b] n9 Zs Z ∧ zU [] Zs Z ∧ zA (-1) 47 x2b Z ∧ m = (3 - x5).toNat ∧ (0 ≤ x5 ∧ x5 ≤ 3) ∧ zE T (zl_166_8 x0b x2b x4b x1 (m + 1) Z x5)) ?_ 65536 ((3 - x5).toNat) _ (by omega) ⟨Z, x5, hL, rfl, hZ, hK, hU, gAx2, rfl, gx5, hP⟩
  clear hP gx5 hZ hK hU gAx2 hL
  clear x5
  clear Z
  rintro m ⟨L, st, μ⟩ ⟨Z, x5, hL, hx, hZ, hK, hU, gAx2, hm, gx5, hP⟩
  cases hx
  refine fb_166_8 x0b (i3 x1) (200, x2b, 0) (200, x4b, 0) (i3 x5) _ _ _ _ hL ?_
  have r1 := hSx2.1
  have r2 := hSx4.1
  refine wz_br (i3Le (show (3 : Int32) = i3 3 from rfl) (rfl : i3 x5 = i3 x5) (by omega) (by omega) (by omega) (by omega)) (fun h3 => ?_) (fun h3 => ?_)
  · replace hP := zE_p hP h3
    exact hk _ _ _ (zconso rfl (zconso rfl (zconso rfl (zconso rfl (zconso rfl (zconso rfl (zconso rfl (zconso rfl rfl)))))))) hZ hK hU gAx2 (by omega)  hP
  · replace hP := zE_n hP h3
    refine wz_i1 (by rw [zSh_t hSx2]; rfl) ?_
    refine wz_i0 (by rw [zSh_l hSx2]; exact i3O (n := 3) (rfl : i3 x5 = i3 x5) (by omega) (by omega) (by omega)) ?_
    have r4 := gAx2 x5
    refine wz_br (i3E (zm_rd (Z := Z) (ν := ν) (k := 200) (rfl : ((x2b : Nat) : Int) = x2b) (show ((0 : Nat) : Int) = 0 from rfl) (i3I (y := x5) (rfl : i3 x5 = i3 x5) (by omega) (by omega) (by omega))) (show (-1 : Int32) = i3 (-1) from rfl) (by omega) (by omega) (by omega) (by omega)) (fun h5 => ?_) (fun h5 => ?_)
    · replace hP := zE_p hP h5
      refine fc_166_7 _ (i3 x1) _ _ (i3 x5) _ _ _ _ (zconso rfl (zconso (zvo (rfl : i3 x1 = i3 x1)) (zconso rfl (zconso rfl (zconso rfl (zconso (zvo (rfl : i3 x5 = i3 x5)) (zconso rfl (zconso rfl rfl)))))))) ?_
      obtain ⟨m2, rfl⟩ : ∃ m2, m = m2 + 1 := ⟨m - 1, by omega⟩
      refine wz_kbs (n := 1) (?_)
      exact wz_k1 ⟨m2, by omega, Z, (x5 + 1), (zconso rfl (zconso (zvo (rfl : i3 x1 = i3 x1)) (zconso rfl (zconso rfl (zconso rfl (zconso (zvo (i3A (rfl : i3 x5 = i3 x5) (show (1 : Int32) = i3 1 from rfl))) (zconso rfl (zconso rfl rfl)))))))), rfl, hZ, hK, hU, gAx2, by omega, by omega,  hP⟩
    · replace hP := zE_n hP h5
      refine sl_166_6 (ν := ν) hZ (zbh (c := 0) (k := 0) hM (Nat.le_of_ble_eq_true rfl)) hs hn x0b x2b hSx2 gAx2 x4b hSx4 (x1 := x1) (by omega) (x5 := x5) (by omega) (x6 := 0) (by omega) zL_r zU_r (by omega) (by omega) (zconso rfl (zconso (zvo (rfl : i3 x1 = i3 x1)) (zconso rfl (zconso rfl (zconso rfl (zconso (zvo (rfl : i3 x5 = i3 x5)) (zconso (zvo (show (0 : Int32) = i3 0 from rfl)) (zconso rfl rfl)))))))) rfl ?_
      intro L8 Z7 y6 hL8 hZ7I kZ7 jZ7 aZ7_x2 gy6 gL8_0 q9
      replace hP := zl_e2 hP (Eq.symm q9)
      clear q9
      have hZ7U : zU [] Zs Z7 := zU_t hU jZ7 zU_b0
      have hZ7K : zL [] [x4b] n9 Zs Z7 := zL_t hK kZ7 (by decide) (zL_b1 (Or.inl (by simp)) zL_b0) (by omega)
      have r9 := aZ7_x2 x5
      have q10 := zL_x kZ7 (zA_b1 (by omega) zA_b0) (by omega) 0 x5
      refine wz_kbs (n := 0) (?_)
      refine fc_166_7 _ (i3 x1) _ _ (i3 x5) _ _ _ _ hL8 ?_
      obtain ⟨m2, rfl⟩ : ∃ m2, m = m2 + 1 := ⟨m - 1, by omega⟩
      refine wz_kbs (n := 1) (?_)
      exact wz_k1 ⟨m2, by omega, Z7, (x5 + 1), (zconso rfl (zconso (zvo (rfl : i3 x1 = i3 x1)) (zconso rfl (zconso rfl (zconso rfl (zconso (zvo (i3A (rfl : i3 x5 = i3 x5) (show (1 : Int32) = i3 1 from rfl))) (zconso rfl (zconso rfl rfl)))))))), rfl, hZ7I, hZ7K, hZ7U, aZ7_x2, by omega, by omega,  hP⟩
/- yX10_findFine -/
def zf_166 (Z : qz_Z) (a0b : Int) (a1 : Int) (a2b : Int) (a3b : Int) (a4b : Int) : qz_Z := (zlet2 (zl_166_3 a0b a2b a3b a4b a1 49 Z 0) (fun Z5 y4 => (zlet2 (zl_166_8 a0b a2b a4b a1 4 Z5 0) (fun Z8 y7 => Z8))))
theorem sp_166 {s : zSM} {Z : qz_Z} {ν : qz_N} (hZ : zH s Z) (hs : s.1 = none) {n9 : Nat} (hn : ν.2.2.2.1 = n9) (a0b : Nat) {a1 : Int} (ga1 : 0 ≤ a1 ∧ a1 ≤ 671) (a2b : Nat) (hSa2 : zSh ν a2b 50 3) (gAa2 : zA (-1) 47 a2b Z) (a3b : Nat) (hSa3 : zSh ν a3b 50 24) (a4b : Nat) (hSa4 : zSh ν a4b 50 84) (gx0 : a2b ≠ a3b) (gx1 : a2b ≠ a4b) (gx2 : a3b ≠ a4b) (hM : s.2 + 0 ≤ 1000000000) : ∃ P : qz_Z, P = zf_166 Z a0b a1 a2b a3b a4b ∧ (qf_166 [.inr (.inr (some (10, a0b, 0))), .inl (i3 a1), .inr (.inr (some (200, a2b, 0))), .inr (.inr (some (200, a3b, 0))), .inr (.inr (some (200, a4b, 0)))] (zm Z ν) = some (zm P ν, .inl none) ∧ zH s P ∧ zL [] [a3b, a4b] n9 Z P ∧ zU [] Z P) := by
  obtain ⟨P, hP⟩ := zx (zf_166 Z a0b a1 a2b a3b a4b)
  refine zc_V (Q := fun P => zH s P ∧ zL [] [a3b, a4b] n9 Z P ∧ zU [] Z P) hP (fw_166 a0b (i3 a1) (200, a2b, 0) (200, a3b, 0) (200, a4b, 0) _ _ ?_)
  replace hP : zE P (zf_166 Z a0b a1 a2b a3b a4b) := hP
  unfold zf_166 at hP
  have r1 := hSa2.1
  have r2 := hSa3.1
  have r3 := hSa4.1
  refine sl_166_3 (ν := ν) hZ (zbh (c := 0) (k := 0) hM (Nat.le_of_ble_eq_true rfl)) hs hn a0b a2b hSa2 gAa2 a3b hSa3 a4b hSa4 (x1 := a1) (by omega) (x5 := 0) (by omega) zL_r zU_r (by omega) (by omega)  (zconso rfl (zconso (zvo (rfl : i3 a1 = i3 a1)) (zconso rfl (zconso rfl (zconso rfl (zconso (zvo (show (0 : Int32) = i3 0 from rfl)) (zconso rfl (zconso rfl rfl)))))))) rfl ?_
  intro L6 Z5 y4 hL6 hZ5I kZ5 jZ5 aZ5_x2 gy4 q9
  replace hP := zl_e2 hP (Eq.symm q9)
  clear q9
  have hZ5U : zU [] Z Z5 := zU_t zU_r jZ5 zU_b0
  have hZ5K : zL [] [a3b, a4b] n9 Z Z5 := zL_t zL_r kZ5 (by decide) (zL_b1 (Or.inl (by simp)) zL_b0) (by omega)
  refine fc_166_10 _ (i3 a1) _ _ _ _ _ _ hL6 ?_
  refine sl_166_8 (ν := ν) hZ5I (zbh (c := 0) (k := 0) hM (Nat.le_of_ble_eq_true rfl)) hs hn a0b a2b hSa2 aZ5_x2 a4b hSa4 (x1 := a1) (by omega) (x5 := 0) (by omega) zL_r zU_r (by omega)  (zconso rfl (zconso (zvo (rfl : i3 a1 = i3 a1)) (zconso rfl (zconso rfl (zconso rfl (zconso (zvo (show (0 : Int32) = i3 0 from rfl)) (zconso rfl (zconso rfl rfl)))))))) rfl ?_
  intro L9 Z8 y7 hL9 hZ8I kZ8 jZ8 aZ8_x2 gy7 q9
  replace hP := zl_e2 hP (Eq.symm q9)
  clear q9
  have hZ8U : zU [] Z Z8 := zU_t hZ5U jZ8 zU_b0
  have hZ8K : zL [] [a3b, a4b] n9 Z Z8 := zL_t hZ5K kZ8 (by decide) (zL_b1 (Or.inl (by simp)) zL_b0) (by omega)
  refine fc_166_9  _ _ _ _ hL9 ?_
  exact zlV hP ⟨hZ8I, hZ8K, hZ8U⟩
/- yX10_findThree -/
def zl_167_1 (x0b : Int) (x2b : Int) (x1 : Int) : Nat → qz_Z → Int → Int → Int → qz_Z × Int × Int × Int
  | 0, Z, x3, x4, x5 => (Z, x3, x4, x5)
  | m + 1, Z, x3, x4, x5 => (if (Z 11 x0b 0 3) ≤ x5 then (Z, x3, x4, x5) else (if (Z 44 x0b x5 12) ≠ 6 then zl_167_1 x0b x2b x1 m Z x3 x4 (x5 + 1) else (if 3 ≤ x3 then (zlet (zf_169 Z x0b x5 6 0 x1) (fun v7 => zl_167_1 x0b x2b x1 m Z x3 (w3 (x4 + v7)) (x5 + 1))) else (zlet (zu Z 200 x2b 0 x3 x5) (fun Z9 => zl_167_1 x0b x2b x1 m Z9 (x3 + 1) x4 (x5 + 1))))))
theorem sl_167_1 {s : zSM} {Zs Z : qz_Z} {ν : qz_N} (hZ : zH s Z) (hM : s.2 + 0 ≤ 1000000000) (hs : s.1 = none) {n9 : Nat} (hn : ν.2.2.2.1 = n9) (x0b : Nat) (x2b : Nat) (hSx2 : zSh ν x2b 50 3) (gAx2 : zA (-1) 47 x2b Z) {x1 : Int} (gx1 : 0 ≤ x1 ∧ x1 ≤ 671) {x3 : Int} (gx3 : 0 ≤ x3 ∧ x3 ≤ 48) {x4 : Int} (gx4 : -2147483648 ≤ x4 ∧ x4 ≤ 2147483647) {x5 : Int} (gx5 : 0 ≤ x5 ∧ x5 ≤ 48) (hK : zL [] [x2b] n9 Zs Z) (hU : zU [] Zs Z) (gr0 : x3 ≤ x5) {k : wz_K} {R : wz_R} {L : qz_L} (hL : qz_fg [true, true, true, true, true, true] L = [some (.inr (.inr (some (10, x0b, 0)))), some (.inl (i3 x1)), some (.inr (.inr (some (200, x2b, 0)))), some (.inl (i3 x3)), some (.inl (i3 x4)), some (.inl (i3 x5))]) {T : qz_Z × Int × Int × Int} (hP : zE T (zl_167_1 x0b x2b x1 ((48 - x5).toNat + 1) Z x3 x4 x5)) (hk : ∀ (L9 : qz_L) (Z9 : qz_Z) (yx3 yx4 yx5 : Int), qz_fg [false, false, false, false, true, false] L9 = [none, none, none, none, some (.inl (i3 yx4)), none] → zH s Z9 → zL [] [x2b] n9 Zs Z9 → zU [] Zs Z9 → zA (-1) 47 x2b Z9 → (0 ≤ yx3 ∧ yx3 ≤ 48) → (-2147483648 ≤ yx4 ∧ yx4 ≤ 2147483647) → (0 ≤ yx5 ∧ yx5 ≤ 48) → (yx3 ≤ yx5) → zE T ((Z9, yx3, yx4, yx5)) → k 0 (L9, [], zm Z9 ν)) : wz_loop qb_167_1 65536 k R (L, [], zm Z ν) := by
  refine wz_lp sb_167_1 (fun m x => ∃ Z : qz_Z, ∃ x3 : Int, ∃ x4 : Int, ∃ x5 : Int, qz_fg [true, true, true, true, true, true] x.1 = [some (.inr (.inr (some (10, x0b, 0)))), some (.inl (i3 x1)), some (.inr (.inr (some (200, x2b, 0)))), some (.inl (i3 x3)), some (.inl (i3 x4)), some (.inl (i3 x5))] ∧ x.2 = ([], zm Z ν) ∧ zH s Z ∧ zL [] [x2b] n9 Zs Z ∧ zU [] Zs Z ∧ zA (-1) 47 x2b Z ∧ m = (48 - x5).toNat ∧ (0 ≤ x3 ∧ x3 ≤ 48) ∧ (-2147483648 ≤ x4 ∧ x4 ≤ 2147483647) ∧ (0 ≤ x5 ∧ x5 ≤ 48) ∧ (x3 ≤ x5) ∧ zE T (zl_167_1 x0b x2b x1 (m + 1) Z x3 x4 x5)) ?_ 65536 ((48 - x5).toNat) _ (by omega) ⟨Z, x3, x4, x5, hL, rfl, hZ, hK, hU, gAx2, rfl, gx3, gx4, gx5, gr0, hP⟩
  clear hP gr0 gx3 gx4 gx5 hZ hK hU gAx2 hL
  clear x3 x4 x5
  clear Z
  rintro m ⟨L, st, μ⟩ ⟨Z, x3, x4, x5, hL, hx, hZ, hK, hU, gAx2, hm, gx3, gx4, gx5, gr0, hP⟩
  cases hx
  refine fb_167_1 x0b (i3 x1) (200, x2b, 0) (i3 x3) (i3 x4) (i3 x5) _ _ _ _ hL ?_
  have r1 := hSx2.1
  have r2 := zH_k hZ 11 x0b 0 3 (lo := 0) (hi := 48) (by decide) rfl
  refine wz_br (i3Le (zm_rd (Z := Z) (ν := ν) (k := 11) (rfl : ((x0b : Nat) : Int) = x0b) (show ((0 : Nat) : Int) = 0 from rfl) (show ((3 : Nat) : Int) = 3 from rfl)) (rfl : i3 x5 = i3 x5) (by omega) (by omega) (by omega) (by omega)) (fun h3 => ?_) (fun h3 => ?_)
  · replace hP := zE_p hP h3
    exact hk _ _ _ _ _ (zconso rfl (zconso rfl (zconso rfl (zconso rfl (zconso (zvo (rfl : i3 x4 = i3 x4)) (zconso rfl rfl)))))) hZ hK hU gAx2 (by omega) (by omega) (by omega) (by omega) hP
  · replace hP := zE_n hP h3
    refine wz_i0 (i3O (n := 48) (rfl : i3 x5 = i3 x5) (by omega) (by omega) (by omega)) ?_
    have r4 := zH_k hZ 44 x0b x5 12 (lo := -1) (hi := 6) (by decide) rfl
    refine wz_br (i3NE (zm_rd (Z := Z) (ν := ν) (k := 44) (rfl : ((x0b : Nat) : Int) = x0b) (i3I (y := x5) (rfl : i3 x5 = i3 x5) (by omega) (by omega) (by omega)) (show ((12 : Nat) : Int) = 12 from rfl)) (show (6 : Int32) = i3 6 from rfl) (by omega) (by omega) (by omega) (by omega)) (fun h5 => ?_) (fun h5 => ?_)
    · replace hP := zE_p hP h5
      obtain ⟨m2, rfl⟩ : ∃ m2, m = m2 + 1 := ⟨m - 1, by omega⟩
      exact wz_k1 ⟨m2, by omega, Z, x3, x4, (x5 + 1), (zconso rfl (zconso (zvo (rfl : i3 x1 = i3 x1)) (zconso rfl (zconso (zvo (rfl : i3 x3 = i3 x3)) (zconso (zvo (rfl : i3 x4 = i3 x4)) (zconso (zvo (i3A (rfl : i3 x5 = i3 x5) (show (1 : Int32) = i3 1 from rfl))) rfl)))))), rfl, hZ, hK, hU, gAx2, by omega, by omega, by omega, by omega, by omega,  hP⟩
    · replace hP := zE_n hP h5
      refine wz_br (i3Le (show (3 : Int32) = i3 3 from rfl) (rfl : i3 x3 = i3 x3) (by omega) (by omega) (by omega) (by omega)) (fun h6 => ?_) (fun h6 => ?_)
      · replace hP := zE_p hP h6
        obtain ⟨v7, hv7, c9, lv7, uv7⟩ := sp_169 (ν := ν) hZ x0b (a1 := x5) (by omega) (a2 := 6) (by omega) (a3 := 0) (by omega) (a4 := x1) (by omega) (zbh (c := 0) (k := 0) hM (Nat.le_of_ble_eq_true rfl))
        replace hP := zl_e hP hv7
        refine wz_cI_of (zas (zcons rfl (zcons (zvi (rfl : i3 x5 = i3 x5)) (zcons (zvi (show (6 : Int32) = i3 6 from rfl)) (zcons (zvi (show (0 : Int32) = i3 0 from rfl)) (zcons (zvi (rfl : i3 x1 = i3 x1)) rfl))))) c9) ?_
        clear c9
        have r8 := w3_r (x4 + v7)
        obtain ⟨m2, rfl⟩ : ∃ m2, m = m2 + 1 := ⟨m - 1, by omega⟩
        exact wz_k1 ⟨m2, by omega, Z, x3, (w3 (x4 + v7)), (x5 + 1), (zconso rfl (zconso (zvo (rfl : i3 x1 = i3 x1)) (zconso rfl (zconso (zvo (rfl : i3 x3 = i3 x3)) (zconso (zvo (i3W (i3A (rfl : i3 x4 = i3 x4) (rfl : i3 v7 = i3 v7)))) (zconso (zvo (i3A (rfl : i3 x5 = i3 x5) (show (1 : Int32) = i3 1 from rfl))) rfl)))))), rfl, hZ, hK, hU, gAx2, by omega, by omega, by omega, by omega, by omega,  hP⟩
      · replace hP := zE_n hP h6
        refine wz_i1 (by rw [zSh_t hSx2]; rfl) ?_
        refine wz_i0 (by rw [zSh_l hSx2]; exact i3O (n := 3) (rfl : i3 x3 = i3 x3) (by omega) (by omega) (by omega)) ?_
        obtain ⟨Z9, hZ9⟩ := zx (zu Z 200 x2b 0 x3 x5)
        replace hP := zl_e hP hZ9
        have hZ9I := zH_200 hZ hZ9 (by omega) hs
        have hZ9U : zU [] Zs Z9 := zU_u hU hZ9 (Or.inl rfl)
        have hZ9K : zL [] [x2b] n9 Zs Z9 := zL_a hK hZ9 (Or.inl (by simp))
        intro μ9 e9
        replace e9 := e9.trans (zm_wI (Z := Z) (ν := ν) hZ9 (rfl : ((x2b : Nat) : Int) = x2b) (show ((0 : Nat) : Int) = 0 from rfl) (i3I (y := x3) (rfl : i3 x3 = i3 x3) (by omega) (by omega) (by omega)) (rfl : i3 x5 = i3 x5))
        subst e9
        obtain ⟨m2, rfl⟩ : ∃ m2, m = m2 + 1 := ⟨m - 1, by omega⟩
        exact wz_k1 ⟨m2, by omega, Z9, (x3 + 1), x4, (x5 + 1), (zconso rfl (zconso (zvo (rfl : i3 x1 = i3 x1)) (zconso rfl (zconso (zvo (i3A (rfl : i3 x3 = i3 x3) (show (1 : Int32) = i3 1 from rfl))) (zconso (zvo (rfl : i3 x4 = i3 x4)) (zconso (zvo (i3A (rfl : i3 x5 = i3 x5) (show (1 : Int32) = i3 1 from rfl))) rfl)))))), rfl, hZ9I, hZ9K, hZ9U, (zA_w gAx2 hZ9 (by omega)), by omega, by omega, by omega, by omega, by omega,  hP⟩
/- yX10_findThree -/
def zf_167 (Z : qz_Z) (a0b : Int) (a1 : Int) (a2b : Int) : qz_Z × Int := (zlet4 (zl_167_1 a0b a2b a1 49 Z 0 0 0) (fun Z5 y2 y3 y4 => (Z5, y3)))
theorem sp_167 {s : zSM} {Z : qz_Z} {ν : qz_N} (hZ : zH s Z) (hs : s.1 = none) {n9 : Nat} (hn : ν.2.2.2.1 = n9) (a0b : Nat) {a1 : Int} (ga1 : 0 ≤ a1 ∧ a1 ≤ 671) (a2b : Nat) (hSa2 : zSh ν a2b 50 3) (gAa2 : zA (-1) 47 a2b Z) (hM : s.2 + 0 ≤ 1000000000) : ∃ (Z1 : qz_Z) (P : Int), (Z1, P) = zf_167 Z a0b a1 a2b ∧ (qf_167 [.inr (.inr (some (10, a0b, 0))), .inl (i3 a1), .inr (.inr (some (200, a2b, 0)))] (zm Z ν) = some (zm Z1 ν, .inl (some (.inl (i3 P)))) ∧ zH s Z1 ∧ zL [] [a2b] n9 Z Z1 ∧ zU [] Z Z1 ∧ -2147483648 ≤ P ∧ P ≤ 2147483647 ∧ zA (-1) 47 a2b Z1) := by
  obtain ⟨P, hP⟩ := zx (zf_167 Z a0b a1 a2b)
  refine zc_W (Q := fun Z1 P => zH s Z1 ∧ zL [] [a2b] n9 Z Z1 ∧ zU [] Z Z1 ∧ -2147483648 ≤ P ∧ P ≤ 2147483647 ∧ zA (-1) 47 a2b Z1) hP (fw_167 a0b (i3 a1) (200, a2b, 0) _ _ ?_)
  replace hP : zE P (zf_167 Z a0b a1 a2b) := hP
  unfold zf_167 at hP
  have r1 := hSa2.1
  refine sl_167_1 (ν := ν) hZ (zbh (c := 0) (k := 0) hM (Nat.le_of_ble_eq_true rfl)) hs hn a0b a2b hSa2 gAa2 (x1 := a1) (by omega) (x3 := 0) (by omega) (x4 := 0) (by omega) (x5 := 0) (by omega) zL_r zU_r (by omega) (zconso rfl (zconso (zvo (rfl : i3 a1 = i3 a1)) (zconso rfl (zconso (zvo (show (0 : Int32) = i3 0 from rfl)) (zconso (zvo (show (0 : Int32) = i3 0 from rfl)) (zconso (zvo (show (0 : Int32) = i3 0 from rfl)) rfl)))))) rfl ?_
  intro L6 Z5 y2 y3 y4 hL6 hZ5I kZ5 jZ5 aZ5_x2 gy2 gy3 gy4 gL6_0 q9
  replace hP := zl_e4 hP (Eq.symm q9)
  clear q9
  have hZ5U : zU [] Z Z5 := zU_t zU_r jZ5 zU_b0
  have hZ5K : zL [] [a2b] n9 Z Z5 := zL_t zL_r kZ5 (by decide) (zL_b1 (Or.inl (by simp)) zL_b0) (by omega)
  refine fc_167_2 (i3 y3) _ _ _ _ hL6 ?_
  exact zlW hP (rfl : i3 y3 = i3 y3) ⟨hZ5I, hZ5K, hZ5U, by omega, by omega, aZ5_x2⟩
/- yX10_fineBy -/
def zl_170_1 (x0b : Int) (x1b : Int) (x2b : Int) (x3b : Int) : Nat → qz_Z → Int → Int → Int × Int
  | 0, Z, x4, x5 => (x4, x5)
  | m + 1, Z, x4, x5 => (if 6 ≤ x5 then (x4, x5) else (zlet (zf_164 Z x1b x5 2) (fun v2 => zl_170_1 x0b x1b x2b x3b m Z (w3 (x4 + (Z 200 x2b 0 (4 * x5 + v2)))) (x5 + 1))))
theorem sl_170_1 {s : zSM} {Z : qz_Z} {ν : qz_N} (hZ : zH s Z) (hM : s.2 + 0 ≤ 1000000000) (x0b : Nat) (hSx0 : zSh ν x0b 50 3) (gAx0 : zA (-1) 47 x0b Z) (x1b : Nat) (hSx1 : zSh ν x1b 50 3) (gAx1 : zA (0) 6 x1b Z) (x2b : Nat) (hSx2 : zSh ν x2b 50 24) (x3b : Nat) (hSx3 : zSh ν x3b 50 84) {x4 : Int} (gx4 : -2147483648 ≤ x4 ∧ x4 ≤ 2147483647) {x5 : Int} (gx5 : 0 ≤ x5 ∧ x5 ≤ 6) {k : wz_K} {R : wz_R} {L : qz_L} (hL : qz_fg [true, true, true, true, true, true, false, false] L = [some (.inr (.inr (some (200, x0b, 0)))), some (.inr (.inr (some (200, x1b, 0)))), some (.inr (.inr (some (200, x2b, 0)))), some (.inr (.inr (some (200, x3b, 0)))), some (.inl (i3 x4)), some (.inl (i3 x5)), none, none]) {T : Int × Int} (hP : zE T (zl_170_1 x0b x1b x2b x3b ((6 - x5).toNat + 1) Z x4 x5)) (hk : ∀ (L9 : qz_L) (yx4 yx5 : Int), qz_fg [true, true, false, true, true, false, false, false] L9 = [some (.inr (.inr (some (200, x0b, 0)))), some (.inr (.inr (some (200, x1b, 0)))), none, some (.inr (.inr (some (200, x3b, 0)))), some (.inl (i3 yx4)), none, none, none] → (-2147483648 ≤ yx4 ∧ yx4 ≤ 2147483647) → (0 ≤ yx5 ∧ yx5 ≤ 6) → zE T ((yx4, yx5)) → k 0 (L9, [], zm Z ν)) : wz_loop qb_170_1 65536 k R (L, [], zm Z ν) := by
  refine wz_lp sb_170_1 (fun m x => ∃ x4 : Int, ∃ x5 : Int, qz_fg [true, true, true, true, true, true, false, false] x.1 = [some (.inr (.inr (some (200, x0b, 0)))), some (.inr (.inr (some (200, x1b, 0)))), some (.inr (.inr (some (200, x2b, 0)))), some (.inr (.inr (some (200, x3b, 0)))), some (.inl (i3 x4)), some (.inl (i3 x5)), none, none] ∧ x.2 = ([], zm Z ν) ∧ m = (6 - x5).toNat ∧ (-2147483648 ≤ x4 ∧ x4 ≤ 2147483647) ∧ (0 ≤ x5 ∧ x5 ≤ 6) ∧ zE T (zl_170_1 x0b x1b x2b x3b (m + 1) Z x4 x5)) ?_ 65536 ((6 - x5).toNat) _ (by omega) ⟨x4, x5, hL, rfl, rfl, gx4, gx5, hP⟩
  clear hP gx4 gx5 hL
  clear x4 x5
  rintro m ⟨L, st, μ⟩ ⟨x4, x5, hL, hx, hm, gx4, gx5, hP⟩
  cases hx
  refine fb_170_1 (200, x0b, 0) (200, x1b, 0) (200, x2b, 0) (200, x3b, 0) (i3 x4) (i3 x5) _ _ _ _ hL ?_
  refine wz_br (i3Le (show (6 : Int32) = i3 6 from rfl) (rfl : i3 x5 = i3 x5) (by omega) (by omega) (by omega) (by omega)) (fun h1 => ?_) (fun h1 => ?_)
  · replace hP := zE_p hP h1
    exact hk _ _ _ (zconso rfl (zconso rfl (zconso rfl (zconso rfl (zconso (zvo (rfl : i3 x4 = i3 x4)) (zconso rfl (zconso rfl (zconso rfl rfl))))))))  (by omega) (by omega)  hP
  · replace hP := zE_n hP h1
    obtain ⟨v2, hv2, c9, lv2, uv2⟩ := sp_164 (ν := ν) hZ x1b hSx1 gAx1 (a1 := x5) (by omega) (a2 := 2) (by omega) (zbh (c := 0) (k := 0) hM (Nat.le_of_ble_eq_true rfl))
    replace hP := zl_e hP hv2
    refine wz_cI_of (zas (zcons rfl (zcons (zvi (rfl : i3 x5 = i3 x5)) (zcons (zvi (show (2 : Int32) = i3 2 from rfl)) rfl))) c9) ?_
    clear c9
    refine wz_i1 (by rw [zSh_t hSx2]; rfl) ?_
    refine wz_i0 (by rw [zSh_l hSx2]; exact i3O (n := 24) (i3A (i3M (rfl : i3 x5 = i3 x5) (show (4 : Int32) = i3 4 from rfl)) (rfl : i3 v2 = i3 v2)) (by omega) (by omega) (by omega)) ?_
    have r3 := zH_f hZ 200 x2b 0 (4 * x5 + v2)
    have r4 := w3_r (x4 + (Z 200 x2b 0 (4 * x5 + v2)))
    obtain ⟨m2, rfl⟩ : ∃ m2, m = m2 + 1 := ⟨m - 1, by omega⟩
    exact wz_k1 ⟨m2, by omega, (w3 (x4 + (Z 200 x2b 0 (4 * x5 + v2)))), (x5 + 1), (zconso rfl (zconso rfl (zconso rfl (zconso rfl (zconso (zvo (i3W (i3A (rfl : i3 x4 = i3 x4) (zm_rd (Z := Z) (ν := ν) (k := 200) (rfl : ((x2b : Nat) : Int) = x2b) (show ((0 : Nat) : Int) = 0 from rfl) (i3I (y := (4 * x5 + v2)) (i3A (i3M (rfl : i3 x5 = i3 x5) (show (4 : Int32) = i3 4 from rfl)) (rfl : i3 v2 = i3 v2)) (by omega) (by omega) (by omega)))))) (zconso (zvo (i3A (rfl : i3 x5 = i3 x5) (show (1 : Int32) = i3 1 from rfl))) (zconso rfl (zconso rfl rfl)))))))), rfl,  by omega, by omega, by omega,  hP⟩
/- yX10_fineBy -/
def zl_170_2 (x0b : Int) (x1b : Int) (x3b : Int) : Nat → qz_Z → Int → Int → Int × Int
  | 0, Z, x4, x5 => (x4, x5)
  | m + 1, Z, x4, x5 => (if 3 ≤ x5 then (x4, x5) else (if (Z 200 x0b 0 x5) = (-1) then zl_170_2 x0b x1b x3b m Z x4 (x5 + 1) else (if (Z 200 x1b 0 x5) ≠ 0 then (zlet (zf_164 Z x1b ((Z 200 x1b 0 x5) - 1) 2) (fun v6 => zl_170_2 x0b x1b x3b m Z (w3 (x4 + (Z 200 x3b 0 ((-4) + 28 * x5 + 4 * (Z 200 x1b 0 x5) + v6)))) (x5 + 1))) else zl_170_2 x0b x1b x3b m Z (w3 (x4 + (Z 200 x3b 0 (24 + 28 * x5)))) (x5 + 1))))
theorem sl_170_2 {s : zSM} {Z : qz_Z} {ν : qz_N} (hZ : zH s Z) (hM : s.2 + 0 ≤ 1000000000) (x0b : Nat) (hSx0 : zSh ν x0b 50 3) (gAx0 : zA (-1) 47 x0b Z) (x1b : Nat) (hSx1 : zSh ν x1b 50 3) (gAx1 : zA (0) 6 x1b Z) (x3b : Nat) (hSx3 : zSh ν x3b 50 84) {x4 : Int} (gx4 : -2147483648 ≤ x4 ∧ x4 ≤ 2147483647) {x5 : Int} (gx5 : 0 ≤ x5 ∧ x5 ≤ 3) {k : wz_K} {R : wz_R} {L : qz_L} (hL : qz_fg [true, true, false, true, true, true, false, false] L = [some (.inr (.inr (some (200, x0b, 0)))), some (.inr (.inr (some (200, x1b, 0)))), none, some (.inr (.inr (some (200, x3b, 0)))), some (.inl (i3 x4)), some (.inl (i3 x5)), none, none]) {T : Int × Int} (hP : zE T (zl_170_2 x0b x1b x3b ((3 - x5).toNat + 1) Z x4 x5)) (hk : ∀ (L9 : qz_L) (yx4 yx5 : Int), qz_fg [false, false, false, false, true, false, false, false] L9 = [none, none, none, none, some (.inl (i3 yx4)), none, none, none] → (-2147483648 ≤ yx4 ∧ yx4 ≤ 2147483647) → (0 ≤ yx5 ∧ yx5 ≤ 3) → zE T ((yx4, yx5)) → k 0 (L9, [], zm Z ν)) : wz_loop qb_170_2 65536 k R (L, [], zm Z ν) := by
  refine wz_lp sb_170_2 (fun m x => ∃ x4 : Int, ∃ x5 : Int, qz_fg [true, true, false, true, true, true, false, false] x.1 = [some (.inr (.inr (some (200, x0b, 0)))), some (.inr (.inr (some (200, x1b, 0)))), none, some (.inr (.inr (some (200, x3b, 0)))), some (.inl (i3 x4)), some (.inl (i3 x5)), none, none] ∧ x.2 = ([], zm Z ν) ∧ m = (3 - x5).toNat ∧ (-2147483648 ≤ x4 ∧ x4 ≤ 2147483647) ∧ (0 ≤ x5 ∧ x5 ≤ 3) ∧ zE T (zl_170_2 x0b x1b x3b (m + 1) Z x4 x5)) ?_ 65536 ((3 - x5).toNat) _ (by omega) ⟨x4, x5, hL, rfl, rfl, gx4, gx5, hP⟩
  clear hP gx4 gx5 hL
  clear x4 x5
  rintro m ⟨L, st, μ⟩ ⟨x4, x5, hL, hx, hm, gx4, gx5, hP⟩
  cases hx
  refine fb_170_2 (200, x0b, 0) (200, x1b, 0) (200, x3b, 0) (i3 x4) (i3 x5) _ _ _ _ hL ?_
  refine wz_br (i3Le (show (3 : Int32) = i3 3 from rfl) (rfl : i3 x5 = i3 x5) (by omega) (by omega) (by omega) (by omega)) (fun h1 => ?_) (fun h1 => ?_)
  · replace hP := zE_p hP h1
    exact hk _ _ _ (zconso rfl (zconso rfl (zconso rfl (zconso rfl (zconso (zvo (rfl : i3 x4 = i3 x4)) (zconso rfl (zconso rfl (zconso rfl rfl))))))))  (by omega) (by omega)  hP
  · replace hP := zE_n hP h1
    refine wz_i1 (by rw [zSh_t hSx0]; rfl) ?_
    refine wz_i0 (by rw [zSh_l hSx0]; exact i3O (n := 3) (rfl : i3 x5 = i3 x5) (by omega) (by omega) (by omega)) ?_
    have r2 := gAx0 x5
    refine wz_br (i3E (zm_rd (Z := Z) (ν := ν) (k := 200) (rfl : ((x0b : Nat) : Int) = x0b) (show ((0 : Nat) : Int) = 0 from rfl) (i3I (y := x5) (rfl : i3 x5 = i3 x5) (by omega) (by omega) (by omega))) (show (-1 : Int32) = i3 (-1) from rfl) (by omega) (by omega) (by omega) (by omega)) (fun h3 => ?_) (fun h3 => ?_)
    · replace hP := zE_p hP h3
      obtain ⟨m2, rfl⟩ : ∃ m2, m = m2 + 1 := ⟨m - 1, by omega⟩
      exact wz_k1 ⟨m2, by omega, x4, (x5 + 1), (zconso rfl (zconso rfl (zconso rfl (zconso rfl (zconso (zvo (rfl : i3 x4 = i3 x4)) (zconso (zvo (i3A (rfl : i3 x5 = i3 x5) (show (1 : Int32) = i3 1 from rfl))) (zconso rfl (zconso rfl rfl)))))))), rfl,  by omega, by omega, by omega,  hP⟩
    · replace hP := zE_n hP h3
      refine wz_i1 (by rw [zSh_t hSx1]; rfl) ?_
      refine wz_i0 (by rw [zSh_l hSx1]; exact i3O (n := 3) (rfl : i3 x5 = i3 x5) (by omega) (by omega) (by omega)) ?_
      have r4 := gAx1 x5
      refine wz_br (i3NE (zm_rd (Z := Z) (ν := ν) (k := 200) (rfl : ((x1b : Nat) : Int) = x1b) (show ((0 : Nat) : Int) = 0 from rfl) (i3I (y := x5) (rfl : i3 x5 = i3 x5) (by omega) (by omega) (by omega))) (show (0 : Int32) = i3 0 from rfl) (by omega) (by omega) (by omega) (by omega)) (fun h5 => ?_) (fun h5 => ?_)
      · replace hP := zE_p hP h5
        refine wz_i1 (by rw [zSh_t hSx1]; rfl) ?_
        refine wz_i0 (by rw [zSh_l hSx1]; exact i3O (n := 3) (rfl : i3 x5 = i3 x5) (by omega) (by omega) (by omega)) ?_
        refine wz_i1 (by rw [zSh_t hSx1]; rfl) ?_
        refine wz_i0 (by rw [zSh_l hSx1]; exact i3O (n := 3) (rfl : i3 x5 = i3 x5) (by omega) (by omega) (by omega)) ?_
        refine wz_i1 (Eq.trans (i3NE (zm_rd (Z := Z) (ν := ν) (k := 200) (rfl : ((x1b : Nat) : Int) = x1b) (show ((0 : Nat) : Int) = 0 from rfl) (i3I (y := x5) (rfl : i3 x5 = i3 x5) (by omega) (by omega) (by omega))) (show (0 : Int32) = i3 0 from rfl) (by omega) (by omega) (by omega) (by omega)) (decide_eq_true (by omega))) ?_
        obtain ⟨v6, hv6, c9, lv6, uv6⟩ := sp_164 (ν := ν) hZ x1b hSx1 gAx1 (a1 := ((Z 200 x1b 0 x5) - 1)) (by omega) (a2 := 2) (by omega) (zbh (c := 0) (k := 0) hM (Nat.le_of_ble_eq_true rfl))
        replace hP := zl_e hP hv6
        refine wz_cI_of (zas (zcons rfl (zcons (zvi (i3S (zm_rd (Z := Z) (ν := ν) (k := 200) (rfl : ((x1b : Nat) : Int) = x1b) (show ((0 : Nat) : Int) = 0 from rfl) (i3I (y := x5) (rfl : i3 x5 = i3 x5) (by omega) (by omega) (by omega))) (show (1 : Int32) = i3 1 from rfl))) (zcons (zvi (show (2 : Int32) = i3 2 from rfl)) rfl))) c9) ?_
        clear c9
        refine wz_i1 (by rw [zSh_t hSx3]; rfl) ?_
        refine wz_i0 (by rw [zSh_l hSx3]; exact i3O (n := 84) (i3A (i3M (i3A (i3M (rfl : i3 x5 = i3 x5) (show (7 : Int32) = i3 7 from rfl)) (i3S (zm_rd (Z := Z) (ν := ν) (k := 200) (rfl : ((x1b : Nat) : Int) = x1b) (show ((0 : Nat) : Int) = 0 from rfl) (i3I (y := x5) (rfl : i3 x5 = i3 x5) (by omega) (by omega) (by omega))) (show (1 : Int32) = i3 1 from rfl))) (show (4 : Int32) = i3 4 from rfl)) (rfl : i3 v6 = i3 v6)) (by omega) (by omega) (by omega)) ?_
        have r7 := zH_f hZ 200 x3b 0 ((-4) + 28 * x5 + 4 * (Z 200 x1b 0 x5) + v6)
        have r8 := w3_r (x4 + (Z 200 x3b 0 ((-4) + 28 * x5 + 4 * (Z 200 x1b 0 x5) + v6)))
        obtain ⟨m2, rfl⟩ : ∃ m2, m = m2 + 1 := ⟨m - 1, by omega⟩
        exact wz_k1 ⟨m2, by omega, (w3 (x4 + (Z 200 x3b 0 ((-4) + 28 * x5 + 4 * (Z 200 x1b 0 x5) + v6)))), (x5 + 1), (zconso rfl (zconso rfl (zconso rfl (zconso rfl (zconso (zvo (i3W (i3A (rfl : i3 x4 = i3 x4) (zm_rd (Z := Z) (ν := ν) (k := 200) (rfl : ((x3b : Nat) : Int) = x3b) (show ((0 : Nat) : Int) = 0 from rfl) (i3I (y := ((-4) + 28 * x5 + 4 * (Z 200 x1b 0 x5) + v6)) (i3A (i3M (i3A (i3M (rfl : i3 x5 = i3 x5) (show (7 : Int32) = i3 7 from rfl)) (i3S (zm_rd (Z := Z) (ν := ν) (k := 200) (rfl : ((x1b : Nat) : Int) = x1b) (show ((0 : Nat) : Int) = 0 from rfl) (i3I (y := x5) (rfl : i3 x5 = i3 x5) (by omega) (by omega) (by omega))) (show (1 : Int32) = i3 1 from rfl))) (show (4 : Int32) = i3 4 from rfl)) (rfl : i3 v6 = i3 v6)) (by omega) (by omega) (by omega)))))) (zconso (zvo (i3A (rfl : i3 x5 = i3 x5) (show (1 : Int32) = i3 1 from rfl))) (zconso rfl (zconso rfl rfl)))))))), rfl,  by omega, by omega, by omega,  hP⟩
      · replace hP := zE_n hP h5
        refine wz_i1 (by rw [zSh_t hSx1]; rfl) ?_
        refine wz_i0 (by rw [zSh_l hSx1]; exact i3O (n := 3) (rfl : i3 x5 = i3 x5) (by omega) (by omega) (by omega)) ?_
        refine wz_i0 (Eq.trans (i3NE (zm_rd (Z := Z) (ν := ν) (k := 200) (rfl : ((x1b : Nat) : Int) = x1b) (show ((0 : Nat) : Int) = 0 from rfl) (i3I (y := x5) (rfl : i3 x5 = i3 x5) (by omega) (by omega) (by omega))) (show (0 : Int32) = i3 0 from rfl) (by omega) (by omega) (by omega) (by omega)) (decide_eq_false (by omega))) ?_
        refine wz_i1 (by rw [zSh_t hSx3]; rfl) ?_
        refine wz_i0 (by rw [zSh_l hSx3]; exact i3O (n := 84) (i3A (i3M (i3A (i3M (rfl : i3 x5 = i3 x5) (show (7 : Int32) = i3 7 from rfl)) (show (6 : Int32) = i3 6 from rfl)) (show (4 : Int32) = i3 4 from rfl)) (show (0 : Int32) = i3 0 from rfl)) (by omega) (by omega) (by omega)) ?_
        have r9 := zH_f hZ 200 x3b 0 (24 + 28 * x5)
        have r10 := w3_r (x4 + (Z 200 x3b 0 (24 + 28 * x5)))
        obtain ⟨m2, rfl⟩ : ∃ m2, m = m2 + 1 := ⟨m - 1, by omega⟩
        exact wz_k1 ⟨m2, by omega, (w3 (x4 + (Z 200 x3b 0 (24 + 28 * x5)))), (x5 + 1), (zconso rfl (zconso rfl (zconso rfl (zconso rfl (zconso (zvo (i3W (i3A (rfl : i3 x4 = i3 x4) (zm_rd (Z := Z) (ν := ν) (k := 200) (rfl : ((x3b : Nat) : Int) = x3b) (show ((0 : Nat) : Int) = 0 from rfl) (i3I (y := (24 + 28 * x5)) (i3A (i3M (i3A (i3M (rfl : i3 x5 = i3 x5) (show (7 : Int32) = i3 7 from rfl)) (show (6 : Int32) = i3 6 from rfl)) (show (4 : Int32) = i3 4 from rfl)) (show (0 : Int32) = i3 0 from rfl)) (by omega) (by omega) (by omega)))))) (zconso (zvo (i3A (rfl : i3 x5 = i3 x5) (show (1 : Int32) = i3 1 from rfl))) (zconso rfl (zconso rfl rfl)))))))), rfl,  by omega, by omega, by omega,  hP⟩
/- yX10_fineBy -/
def zf_170 (Z : qz_Z) (a0b : Int) (a1b : Int) (a2b : Int) (a3b : Int) : Int := (zlet2 (zl_170_1 a0b a1b a2b a3b 7 Z 0 0) (fun y1 y2 => (zlet2 (zl_170_2 a0b a1b a3b 4 Z y1 0) (fun y4 y5 => y4))))
theorem sp_170 {s : zSM} {Z : qz_Z} {ν : qz_N} (hZ : zH s Z) (a0b : Nat) (hSa0 : zSh ν a0b 50 3) (gAa0 : zA (-1) 47 a0b Z) (a1b : Nat) (hSa1 : zSh ν a1b 50 3) (gAa1 : zA (0) 6 a1b Z) (a2b : Nat) (hSa2 : zSh ν a2b 50 24) (a3b : Nat) (hSa3 : zSh ν a3b 50 84) (hM : s.2 + 0 ≤ 1000000000) : ∃ P : Int, P = zf_170 Z a0b a1b a2b a3b ∧ (qf_170 [.inr (.inr (some (200, a0b, 0))), .inr (.inr (some (200, a1b, 0))), .inr (.inr (some (200, a2b, 0))), .inr (.inr (some (200, a3b, 0)))] (zm Z ν) = some (zm Z ν, .inl (some (.inl (i3 P)))) ∧ -2147483648 ≤ P ∧ P ≤ 2147483647) := by
  obtain ⟨P, hP⟩ := zx (zf_170 Z a0b a1b a2b a3b)
  refine zc_R (Q := fun P => -2147483648 ≤ P ∧ P ≤ 2147483647) hP (fw_170 (200, a0b, 0) (200, a1b, 0) (200, a2b, 0) (200, a3b, 0) _ _ ?_)
  replace hP : zE P (zf_170 Z a0b a1b a2b a3b) := hP
  unfold zf_170 at hP
  refine sl_170_1 (ν := ν) hZ (zbh (c := 0) (k := 0) hM (Nat.le_of_ble_eq_true rfl)) a0b hSa0 gAa0 a1b hSa1 gAa1 a2b hSa2 a3b hSa3 (x4 := 0) (by omega) (x5 := 0) (by omega)  (zconso rfl (zconso rfl (zconso rfl (zconso rfl (zconso (zvo (show (0 : Int32) = i3 0 from rfl)) (zconso (zvo (show (0 : Int32) = i3 0 from rfl)) (zconso rfl (zconso rfl rfl)))))))) rfl ?_
  intro L3 y1 y2 hL3 gy1 gy2 q9
  replace hP := zl_e2 hP (Eq.symm q9)
  clear q9
  refine fc_170_4 _ _ _ (i3 y1) _ _ _ _ hL3 ?_
  refine sl_170_2 (ν := ν) hZ (zbh (c := 0) (k := 0) hM (Nat.le_of_ble_eq_true rfl)) a0b hSa0 gAa0 a1b hSa1 gAa1 a3b hSa3 (x4 := y1) (by omega) (x5 := 0) (by omega)  (zconso rfl (zconso rfl (zconso rfl (zconso rfl (zconso (zvo (rfl : i3 y1 = i3 y1)) (zconso (zvo (show (0 : Int32) = i3 0 from rfl)) (zconso rfl (zconso rfl rfl)))))))) rfl ?_
  intro L6 y4 y5 hL6 gy4 gy5 q9
  replace hP := zl_e2 hP (Eq.symm q9)
  clear q9
  refine fc_170_3 (i3 y4) _ _ _ _ hL6 ?_
  exact zlR hP (rfl : i3 y4 = i3 y4) ⟨by omega, by omega⟩
/- yX10_bestWay -/
def zl_162_1 (x0b : Int) (x3 : Int) (x5 : Int) (x6 : Int) (x7 : Int) (x4 : Int) (x8 : Int) : Nat → qz_Z → Int → qz_Z × Int
  | 0, Z, x10 => (Z, x10)
  | m + 1, Z, x10 => (if 3 ≤ x10 then (Z, x10) else (if (Z 200 x7 0 x10) ≠ 0 then (if (Z 200 x3 0 x10) ≠ (-1) then (zlet (zu Z 69 0 0 (1 + x10) ((Z 200 x7 0 x10) - 1)) (fun Z6 => zl_162_1 x0b x3 x5 x6 x7 x4 x8 m Z6 (x10 + 1))) else (zlet (zu Z 69 0 0 (1 + x10) (-1)) (fun Z7 => zl_162_1 x0b x3 x5 x6 x7 x4 x8 m Z7 (x10 + 1)))) else (if (Z 200 x3 0 x10) ≠ (-1) then (zlet (zu Z 69 0 0 (1 + x10) 6) (fun Z10 => zl_162_1 x0b x3 x5 x6 x7 x4 x8 m Z10 (x10 + 1))) else (zlet (zu Z 69 0 0 (1 + x10) (-1)) (fun Z11 => zl_162_1 x0b x3 x5 x6 x7 x4 x8 m Z11 (x10 + 1))))))
theorem sl_162_1 {s : zSM} {Zs Z : qz_Z} {ν : qz_N} (hZ : zH s Z) (hM : s.2 + 0 ≤ 1000000000) (hK : zC [69] Zs Z) (x0b : Nat) (x3 : Nat) (hSx3 : zSh ν x3 50 3) (gAx3 : zA (-1) 47 x3 Z) (x5 : Nat) (hSx5 : zSh ν x5 50 24) (x6 : Nat) (hSx6 : zSh ν x6 50 84) (x7 : Nat) (hSx7 : zSh ν x7 50 3) (gAx7 : zA (0) 6 x7 Z) {x4 : Int} (gx4 : -2147483648 ≤ x4 ∧ x4 ≤ 2147483647) {x8 : Int} (gx8 : 0 ≤ x8 ∧ x8 ≤ 342) {x10 : Int} (gx10 : 0 ≤ x10 ∧ x10 ≤ 3) (hU : zU [] Zs Z) {k : wz_K} {R : wz_R} {L : qz_L} (hL : qz_fg [true, false, true, true, true, true, true, true, true, false, true, false] L = [some (.inr (.inr (some (10, x0b, 0)))), none, some (.inr (.inr (some (69, 0, 0)))), some (.inr (.inr (some (200, x3, 0)))), some (.inl (i3 x4)), some (.inr (.inr (some (200, x5, 0)))), some (.inr (.inr (some (200, x6, 0)))), some (.inr (.inr (some (200, x7, 0)))), some (.inl (i3 x8)), none, some (.inl (i3 x10)), none]) {T : qz_Z × Int} (hP : zE T (zl_162_1 x0b x3 x5 x6 x7 x4 x8 ((3 - x10).toNat + 1) Z x10)) (hk : ∀ (L9 : qz_L) (Z9 : qz_Z) (yx10 : Int), qz_fg [true, false, true, true, true, true, true, true, true, false, false, false] L9 = [some (.inr (.inr (some (10, x0b, 0)))), none, some (.inr (.inr (some (69, 0, 0)))), some (.inr (.inr (some (200, x3, 0)))), some (.inl (i3 x4)), some (.inr (.inr (some (200, x5, 0)))), some (.inr (.inr (some (200, x6, 0)))), some (.inr (.inr (some (200, x7, 0)))), some (.inl (i3 x8)), none, none, none] → zH s Z9 → zC [69] Zs Z9 → zU [] Zs Z9 → zA (-1) 47 x3 Z9 → zA (0) 6 x7 Z9 → (0 ≤ yx10 ∧ yx10 ≤ 3) → zE T ((Z9, yx10)) → k 1 (L9, [], zm Z9 ν)) : wz_loop qb_162_1 65536 k R (L, [], zm Z ν) := by
  refine wz_lp sb_162_1 (fun m x => ∃ Z : qz_Z, ∃ x10 : Int, qz_fg [true, false, true, true, true, true, true, true, true, false, true, false] x.1 = [some (.inr (.inr (some (10, x0b, 0)))), none, some (.inr (.inr (some (69, 0, 0)))), some (.inr (.inr (some (200, x3, 0)))), some (.inl (i3 x4)), some (.inr (.inr (some (200, x5, 0)))), some (.inr (.inr (some (200, x6, 0)))), some (.inr (.inr (some (200, x7, 0)))), some (.inl (i3 x8)), none, some (.inl (i3 x10)), none] ∧ x.2 = ([], zm Z ν) ∧ zH s Z ∧ zC [69] Zs Z ∧ zU [] Zs Z ∧ zA (-1) 47 x3 Z ∧ zA (0) 6 x7 Z ∧ m = (3 - x10).toNat ∧ (0 ≤ x10 ∧ x10 ≤ 3) ∧ zE T (zl_162_1 x0b x3 x5 x6 x7 x4 x8 (m + 1) Z x10)) ?_ 65536 ((3 - x10).toNat) _ (by omega) ⟨Z, x10, hL, rfl, hZ, hK, hU, gAx3, gAx7, rfl, gx10, hP⟩
  clear hP gx10 hZ hK hU gAx3 gAx7 hL
  clear x10
  clear Z
  rintro m ⟨L, st, μ⟩ ⟨Z, x10, hL, hx, hZ, hK, hU, gAx3, gAx7, hm, gx10, hP⟩
  cases hx
  refine fb_162_1 x0b x3 (i3 x4) x5 x6 x7 (i3 x8) (i3 x10) _ _ _ _ hL ?_
  refine wz_br (i3Le (show (3 : Int32) = i3 3 from rfl) (rfl : i3 x10 = i3 x10) (by omega) (by omega) (by omega) (by omega)) (fun h1 => ?_) (fun h1 => ?_)
  · replace hP := zE_p hP h1
    exact hk _ _ _ (zconso rfl (zconso rfl (zconso rfl (zconso rfl (zconso (zvo (rfl : i3 x4 = i3 x4)) (zconso rfl (zconso rfl (zconso rfl (zconso (zvo (rfl : i3 x8 = i3 x8)) (zconso rfl (zconso rfl (zconso rfl rfl)))))))))))) hZ hK hU gAx3 gAx7 (by omega)  hP
  · replace hP := zE_n hP h1
    refine wz_i1 (by rw [zSh_t hSx7]; rfl) ?_
    refine wz_i0 (by rw [zSh_l hSx7]; exact i3O (n := 3) (rfl : i3 x10 = i3 x10) (by omega) (by omega) (by omega)) ?_
    have r2 := gAx7 x10
    refine wz_br (i3NE (zm_rd (Z := Z) (ν := ν) (k := 200) (rfl : ((x7 : Nat) : Int) = x7) (show ((0 : Nat) : Int) = 0 from rfl) (i3I (y := x10) (rfl : i3 x10 = i3 x10) (by omega) (by omega) (by omega))) (show (0 : Int32) = i3 0 from rfl) (by omega) (by omega) (by omega) (by omega)) (fun h3 => ?_) (fun h3 => ?_)
    · replace hP := zE_p hP h3
      refine wz_i1 (by rw [zSh_t hSx7]; rfl) ?_
      refine wz_i0 (by rw [zSh_l hSx7]; exact i3O (n := 3) (rfl : i3 x10 = i3 x10) (by omega) (by omega) (by omega)) ?_
      refine wz_i1 (by rw [zSh_t hSx3]; rfl) ?_
      refine wz_i0 (by rw [zSh_l hSx3]; exact i3O (n := 3) (rfl : i3 x10 = i3 x10) (by omega) (by omega) (by omega)) ?_
      have r4 := gAx3 x10
      refine wz_br (i3NE (zm_rd (Z := Z) (ν := ν) (k := 200) (rfl : ((x3 : Nat) : Int) = x3) (show ((0 : Nat) : Int) = 0 from rfl) (i3I (y := x10) (rfl : i3 x10 = i3 x10) (by omega) (by omega) (by omega))) (show (-1 : Int32) = i3 (-1) from rfl) (by omega) (by omega) (by omega) (by omega)) (fun h5 => ?_) (fun h5 => ?_)
      · replace hP := zE_p hP h5
        refine wz_i0 (i3O (n := 24) (i3A (rfl : i3 x10 = i3 x10) (show (1 : Int32) = i3 1 from rfl)) (by omega) (by omega) (by omega)) ?_
        obtain ⟨Z6, hZ6⟩ := zx (zu Z 69 0 0 (1 + x10) ((Z 200 x7 0 x10) - 1))
        replace hP := zl_e hP hZ6
        have hZ6I := zH_u hZ hZ6 (lo := -2147483648) (hi := 2147483647) (by decide) rfl (by omega) ⟨by decide, by decide⟩ (Or.inl (by decide)) rfl
        have hZ6U : zU [] Zs Z6 := zU_u hU hZ6 (Or.inl rfl)
        have hZ6K : zC [69] Zs Z6 := zC_u hK hZ6 rfl
        intro μ9 e9
        replace e9 := e9.trans (zm_wI (Z := Z) (ν := ν) hZ6 (show ((0 : Nat) : Int) = 0 from rfl) (show ((0 : Nat) : Int) = 0 from rfl) (i3I (y := (1 + x10)) (i3A (rfl : i3 x10 = i3 x10) (show (1 : Int32) = i3 1 from rfl)) (by omega) (by omega) (by omega)) (i3S (zm_rd (Z := Z) (ν := ν) (k := 200) (rfl : ((x7 : Nat) : Int) = x7) (show ((0 : Nat) : Int) = 0 from rfl) (i3I (y := x10) (rfl : i3 x10 = i3 x10) (by omega) (by omega) (by omega))) (show (1 : Int32) = i3 1 from rfl)))
        subst e9
        obtain ⟨m2, rfl⟩ : ∃ m2, m = m2 + 1 := ⟨m - 1, by omega⟩
        exact wz_k1 ⟨m2, by omega, Z6, (x10 + 1), (zconso rfl (zconso rfl (zconso rfl (zconso rfl (zconso (zvo (rfl : i3 x4 = i3 x4)) (zconso rfl (zconso rfl (zconso rfl (zconso (zvo (rfl : i3 x8 = i3 x8)) (zconso rfl (zconso (zvo (i3A (rfl : i3 x10 = i3 x10) (show (1 : Int32) = i3 1 from rfl))) (zconso rfl rfl)))))))))))), rfl, hZ6I, hZ6K, hZ6U, (zA_o gAx3 hZ6 (fun q => absurd q.1 (by decide))), (zA_o gAx7 hZ6 (fun q => absurd q.1 (by decide))), by omega, by omega,  hP⟩
      · replace hP := zE_n hP h5
        refine wz_i0 (i3O (n := 24) (i3A (rfl : i3 x10 = i3 x10) (show (1 : Int32) = i3 1 from rfl)) (by omega) (by omega) (by omega)) ?_
        obtain ⟨Z7, hZ7⟩ := zx (zu Z 69 0 0 (1 + x10) (-1))
        replace hP := zl_e hP hZ7
        have hZ7I := zH_u hZ hZ7 (lo := -2147483648) (hi := 2147483647) (by decide) rfl (by omega) ⟨by decide, by decide⟩ (Or.inl (by decide)) rfl
        have hZ7U : zU [] Zs Z7 := zU_u hU hZ7 (Or.inl rfl)
        have hZ7K : zC [69] Zs Z7 := zC_u hK hZ7 rfl
        intro μ9 e9
        replace e9 := e9.trans (zm_wI (Z := Z) (ν := ν) hZ7 (show ((0 : Nat) : Int) = 0 from rfl) (show ((0 : Nat) : Int) = 0 from rfl) (i3I (y := (1 + x10)) (i3A (rfl : i3 x10 = i3 x10) (show (1 : Int32) = i3 1 from rfl)) (by omega) (by omega) (by omega)) (show (-1 : Int32) = i3 (-1) from rfl))
        subst e9
        obtain ⟨m2, rfl⟩ : ∃ m2, m = m2 + 1 := ⟨m - 1, by omega⟩
        exact wz_k1 ⟨m2, by omega, Z7, (x10 + 1), (zconso rfl (zconso rfl (zconso rfl (zconso rfl (zconso (zvo (rfl : i3 x4 = i3 x4)) (zconso rfl (zconso rfl (zconso rfl (zconso (zvo (rfl : i3 x8 = i3 x8)) (zconso rfl (zconso (zvo (i3A (rfl : i3 x10 = i3 x10) (show (1 : Int32) = i3 1 from rfl))) (zconso rfl rfl)))))))))))), rfl, hZ7I, hZ7K, hZ7U, (zA_o gAx3 hZ7 (fun q => absurd q.1 (by decide))), (zA_o gAx7 hZ7 (fun q => absurd q.1 (by decide))), by omega, by omega,  hP⟩
    · replace hP := zE_n hP h3
      refine wz_i1 (by rw [zSh_t hSx3]; rfl) ?_
      refine wz_i0 (by rw [zSh_l hSx3]; exact i3O (n := 3) (rfl : i3 x10 = i3 x10) (by omega) (by omega) (by omega)) ?_
      have r8 := gAx3 x10
      refine wz_br (i3NE (zm_rd (Z := Z) (ν := ν) (k := 200) (rfl : ((x3 : Nat) : Int) = x3) (show ((0 : Nat) : Int) = 0 from rfl) (i3I (y := x10) (rfl : i3 x10 = i3 x10) (by omega) (by omega) (by omega))) (show (-1 : Int32) = i3 (-1) from rfl) (by omega) (by omega) (by omega) (by omega)) (fun h9 => ?_) (fun h9 => ?_)
      · replace hP := zE_p hP h9
        refine wz_i0 (i3O (n := 24) (i3A (rfl : i3 x10 = i3 x10) (show (1 : Int32) = i3 1 from rfl)) (by omega) (by omega) (by omega)) ?_
        obtain ⟨Z10, hZ10⟩ := zx (zu Z 69 0 0 (1 + x10) 6)
        replace hP := zl_e hP hZ10
        have hZ10I := zH_u hZ hZ10 (lo := -2147483648) (hi := 2147483647) (by decide) rfl (by omega) ⟨by decide, by decide⟩ (Or.inl (by decide)) rfl
        have hZ10U : zU [] Zs Z10 := zU_u hU hZ10 (Or.inl rfl)
        have hZ10K : zC [69] Zs Z10 := zC_u hK hZ10 rfl
        intro μ9 e9
        replace e9 := e9.trans (zm_wI (Z := Z) (ν := ν) hZ10 (show ((0 : Nat) : Int) = 0 from rfl) (show ((0 : Nat) : Int) = 0 from rfl) (i3I (y := (1 + x10)) (i3A (rfl : i3 x10 = i3 x10) (show (1 : Int32) = i3 1 from rfl)) (by omega) (by omega) (by omega)) (show (6 : Int32) = i3 6 from rfl))
        subst e9
        obtain ⟨m2, rfl⟩ : ∃ m2, m = m2 + 1 := ⟨m - 1, by omega⟩
        exact wz_k1 ⟨m2, by omega, Z10, (x10 + 1), (zconso rfl (zconso rfl (zconso rfl (zconso rfl (zconso (zvo (rfl : i3 x4 = i3 x4)) (zconso rfl (zconso rfl (zconso rfl (zconso (zvo (rfl : i3 x8 = i3 x8)) (zconso rfl (zconso (zvo (i3A (rfl : i3 x10 = i3 x10) (show (1 : Int32) = i3 1 from rfl))) (zconso rfl rfl)))))))))))), rfl, hZ10I, hZ10K, hZ10U, (zA_o gAx3 hZ10 (fun q => absurd q.1 (by decide))), (zA_o gAx7 hZ10 (fun q => absurd q.1 (by decide))), by omega, by omega,  hP⟩
      · replace hP := zE_n hP h9
        refine wz_i0 (i3O (n := 24) (i3A (rfl : i3 x10 = i3 x10) (show (1 : Int32) = i3 1 from rfl)) (by omega) (by omega) (by omega)) ?_
        obtain ⟨Z11, hZ11⟩ := zx (zu Z 69 0 0 (1 + x10) (-1))
        replace hP := zl_e hP hZ11
        have hZ11I := zH_u hZ hZ11 (lo := -2147483648) (hi := 2147483647) (by decide) rfl (by omega) ⟨by decide, by decide⟩ (Or.inl (by decide)) rfl
        have hZ11U : zU [] Zs Z11 := zU_u hU hZ11 (Or.inl rfl)
        have hZ11K : zC [69] Zs Z11 := zC_u hK hZ11 rfl
        intro μ9 e9
        replace e9 := e9.trans (zm_wI (Z := Z) (ν := ν) hZ11 (show ((0 : Nat) : Int) = 0 from rfl) (show ((0 : Nat) : Int) = 0 from rfl) (i3I (y := (1 + x10)) (i3A (rfl : i3 x10 = i3 x10) (show (1 : Int32) = i3 1 from rfl)) (by omega) (by omega) (by omega)) (show (-1 : Int32) = i3 (-1) from rfl))
        subst e9
        obtain ⟨m2, rfl⟩ : ∃ m2, m = m2 + 1 := ⟨m - 1, by omega⟩
        exact wz_k1 ⟨m2, by omega, Z11, (x10 + 1), (zconso rfl (zconso rfl (zconso rfl (zconso rfl (zconso (zvo (rfl : i3 x4 = i3 x4)) (zconso rfl (zconso rfl (zconso rfl (zconso (zvo (rfl : i3 x8 = i3 x8)) (zconso rfl (zconso (zvo (i3A (rfl : i3 x10 = i3 x10) (show (1 : Int32) = i3 1 from rfl))) (zconso rfl rfl)))))))))))), rfl, hZ11I, hZ11K, hZ11U, (zA_o gAx3 hZ11 (fun q => absurd q.1 (by decide))), (zA_o gAx7 hZ11 (fun q => absurd q.1 (by decide))), by omega, by omega,  hP⟩
/- yX10_bestWay -/
def zl_162_3 (x0b : Int) (x3 : Int) (x5 : Int) (x6 : Int) (x7 : Int) (x4 : Int) : Nat → qz_Z → Int → qz_Z × Int
  | 0, Z, x8 => (Z, x8)
  | m + 1, Z, x8 => (if 343 ≤ x8 then (Z, x8) else (zlet (zu Z 200 x7 0 0 (x8 / 49)) (fun Z6 => (zlet (zu Z6 200 x7 0 1 ((x8 / 7) % 7)) (fun Z7 => (zlet (zu Z7 200 x7 0 2 (x8 % 7)) (fun Z8 => (zlet (zf_163 Z8 x0b x3 x7) (fun v9 => (if v9 = 0 then zl_162_3 x0b x3 x5 x6 x7 x4 m Z8 (x8 + 1) else (zlet (zf_170 Z8 x3 x7 x5 x6) (fun v11 => (if (w3 (x4 + v11)) ≤ (Z8 69 0 0 0) then zl_162_3 x0b x3 x5 x6 x7 x4 m Z8 (x8 + 1) else (zlet (zu Z8 69 0 0 0 (w3 (x4 + v11))) (fun Z15 => (zlet2 (zl_162_1 x0b x3 x5 x6 x7 x4 x8 4 Z15 0) (fun Z17 y16 => zl_162_3 x0b x3 x5 x6 x7 x4 m Z17 (x8 + 1))))))))))))))))))
theorem sl_162_3 {s : zSM} {Zs Z : qz_Z} {ν : qz_N} (hZ : zH s Z) (hM : s.2 + 0 ≤ 1000000000) (hs : s.1 = none) {n9 : Nat} (hn : ν.2.2.2.1 = n9) (x0b : Nat) (x3 : Nat) (hSx3 : zSh ν x3 50 3) (gAx3 : zA (-1) 47 x3 Z) (x5 : Nat) (hSx5 : zSh ν x5 50 24) (x6 : Nat) (hSx6 : zSh ν x6 50 84) (x7 : Nat) (hSx7 : zSh ν x7 50 3) (gAx7 : zA (0) 6 x7 Z) {x4 : Int} (gx4 : -2147483648 ≤ x4 ∧ x4 ≤ 2147483647) {x8 : Int} (gx8 : 0 ≤ x8 ∧ x8 ≤ 343) (hK : zL [69] [x7] n9 Zs Z) (hU : zU [] Zs Z) (gd0 : x7 ≠ x3) (gd1 : x7 ≠ x5) (gd2 : x7 ≠ x6) {k : wz_K} {R : wz_R} {L : qz_L} (hL : qz_fg [true, false, true, true, true, true, true, true, true, false, false, false] L = [some (.inr (.inr (some (10, x0b, 0)))), none, some (.inr (.inr (some (69, 0, 0)))), some (.inr (.inr (some (200, x3, 0)))), some (.inl (i3 x4)), some (.inr (.inr (some (200, x5, 0)))), some (.inr (.inr (some (200, x6, 0)))), some (.inr (.inr (some (200, x7, 0)))), some (.inl (i3 x8)), none, none, none]) {T : qz_Z × Int} (hP : zE T (zl_162_3 x0b x3 x5 x6 x7 x4 ((343 - x8).toNat + 1) Z x8)) (hk : ∀ (L9 : qz_L) (Z9 : qz_Z) (yx8 : Int), qz_fg [false, false, false, false, false, false, false, false, false, false, false, false] L9 = [none, none, none, none, none, none, none, none, none, none, none, none] → zH s Z9 → zL [69] [x7] n9 Zs Z9 → zU [] Zs Z9 → zA (-1) 47 x3 Z9 → zA (0) 6 x7 Z9 → (0 ≤ yx8 ∧ yx8 ≤ 343) → zE T ((Z9, yx8)) → k 0 (L9, [], zm Z9 ν)) : wz_loop qb_162_3 65536 k R (L, [], zm Z ν) := by
  refine wz_lp sb_162_3 (fun m x => ∃ Z : qz_Z, ∃ x8 : Int, qz_fg [true, false, true, true, true, true, true, true, true, false, false, false] x.1 = [some (.inr (.inr (some (10, x0b, 0)))), none, some (.inr (.inr (some (69, 0, 0)))), some (.inr (.inr (some (200, x3, 0)))), some (.inl (i3 x4)), some (.inr (.inr (some (200, x5, 0)))), some (.inr (.inr (some (200, x6, 0)))), some (.inr (.inr (some (200, x7, 0)))), some (.inl (i3 x8)), none, none, none] ∧ x.2 = ([], zm Z ν) ∧ zH s Z ∧ zL [69] [x7] n9 Zs Z ∧ zU [] Zs Z ∧ zA (-1) 47 x3 Z ∧ zA (0) 6 x7 Z ∧ m = (343 - x8).toNat ∧ (0 ≤ x8 ∧ x8 ≤ 343) ∧ zE T (zl_162_3 x0b x3 x5 x6 x7 x4 (m + 1) Z x8)) ?_ 65536 ((343 - x8).toNat) _ (by omega) ⟨Z, x8, hL, rfl, hZ, hK, hU, gAx3, gAx7, rfl, gx8, hP⟩
  clear hP gx8 hZ hK hU gAx3 gAx7 hL
  clear x8
  clear Z
  rintro m ⟨L, st, μ⟩ ⟨Z, x8, hL, hx, hZ, hK, hU, gAx3, gAx7, hm, gx8, hP⟩
  cases hx
  refine fb_162_3 x0b x3 (i3 x4) x5 x6 x7 (i3 x8) _ _ _ _ hL ?_
  have r1 := hSx3.1
  have r2 := hSx5.1
  have r3 := hSx6.1
  have r4 := hSx7.1
  refine wz_br (i3Le (show (343 : Int32) = i3 343 from rfl) (rfl : i3 x8 = i3 x8) (by omega) (by omega) (by omega) (by omega)) (fun h5 => ?_) (fun h5 => ?_)
  · replace hP := zE_p hP h5
    exact hk _ _ _ (zconso rfl (zconso rfl (zconso rfl (zconso rfl (zconso rfl (zconso rfl (zconso rfl (zconso rfl (zconso rfl (zconso rfl (zconso rfl (zconso rfl rfl)))))))))))) hZ hK hU gAx3 gAx7 (by omega)  hP
  · replace hP := zE_n hP h5
    refine wz_i1 (by rw [zSh_t hSx7]; rfl) ?_
    refine wz_i0 (by rw [zSh_l hSx7]; exact i3O (n := 3) (show (0 : Int32) = i3 0 from rfl) (by omega) (by omega) (by omega)) ?_
    obtain ⟨Z6, hZ6⟩ := zx (zu Z 200 x7 0 0 (x8 / 49))
    replace hP := zl_e hP hZ6
    have hZ6I := zH_200 hZ hZ6 (by omega) hs
    have hZ6U : zU [] Zs Z6 := zU_u hU hZ6 (Or.inl rfl)
    have hZ6K : zL [69] [x7] n9 Zs Z6 := zL_a hK hZ6 (Or.inl (by simp))
    intro μ9 e9
    replace e9 := e9.trans (zm_wI (Z := Z) (ν := ν) hZ6 (rfl : ((x7 : Nat) : Int) = x7) (show ((0 : Nat) : Int) = 0 from rfl) (show ((0 : Nat) : Int) = 0 from rfl) (i3D (rfl : i3 x8 = i3 x8) (show (49 : Int32) = i3 49 from rfl) (by omega) (by omega) (by omega) (by omega)))
    subst e9
    refine wz_i1 (by rw [zSh_t hSx7]; rfl) ?_
    refine wz_i0 (by rw [zSh_l hSx7]; exact i3O (n := 3) (show (1 : Int32) = i3 1 from rfl) (by omega) (by omega) (by omega)) ?_
    obtain ⟨Z7, hZ7⟩ := zx (zu Z6 200 x7 0 1 ((x8 / 7) % 7))
    replace hP := zl_e hP hZ7
    have hZ7I := zH_200 hZ6I hZ7 (by omega) hs
    have hZ7U : zU [] Zs Z7 := zU_u hZ6U hZ7 (Or.inl rfl)
    have hZ7K : zL [69] [x7] n9 Zs Z7 := zL_a hZ6K hZ7 (Or.inl (by simp))
    intro μ9 e9
    replace e9 := e9.trans (zm_wI (Z := Z6) (ν := ν) hZ7 (rfl : ((x7 : Nat) : Int) = x7) (show ((0 : Nat) : Int) = 0 from rfl) (show ((1 : Nat) : Int) = 1 from rfl) (i3R (i3D (rfl : i3 x8 = i3 x8) (show (7 : Int32) = i3 7 from rfl) (by omega) (by omega) (by omega) (by omega)) (show (7 : Int32) = i3 7 from rfl) (by omega) (by omega) (by omega) (by omega)))
    subst e9
    refine wz_i1 (by rw [zSh_t hSx7]; rfl) ?_
    refine wz_i0 (by rw [zSh_l hSx7]; exact i3O (n := 3) (show (2 : Int32) = i3 2 from rfl) (by omega) (by omega) (by omega)) ?_
    obtain ⟨Z8, hZ8⟩ := zx (zu Z7 200 x7 0 2 (x8 % 7))
    replace hP := zl_e hP hZ8
    have hZ8I := zH_200 hZ7I hZ8 (by omega) hs
    have hZ8U : zU [] Zs Z8 := zU_u hZ7U hZ8 (Or.inl rfl)
    have hZ8K : zL [69] [x7] n9 Zs Z8 := zL_a hZ7K hZ8 (Or.inl (by simp))
    intro μ9 e9
    replace e9 := e9.trans (zm_wI (Z := Z7) (ν := ν) hZ8 (rfl : ((x7 : Nat) : Int) = x7) (show ((0 : Nat) : Int) = 0 from rfl) (show ((2 : Nat) : Int) = 2 from rfl) (i3R (rfl : i3 x8 = i3 x8) (show (7 : Int32) = i3 7 from rfl) (by omega) (by omega) (by omega) (by omega)))
    subst e9
    obtain ⟨v9, hv9, c9, lv9, uv9⟩ := sp_163 (ν := ν) hZ8I x0b x3 hSx3 (zA_o (zA_o (zA_o gAx3 hZ6 (fun q => absurd q.2 (by omega))) hZ7 (fun q => absurd q.2 (by omega))) hZ8 (fun q => absurd q.2 (by omega))) x7 hSx7 (zA_w (zA_w (zA_w gAx7 hZ6 (by omega)) hZ7 (by omega)) hZ8 (by omega)) (zbh (c := 0) (k := 0) hM (Nat.le_of_ble_eq_true rfl))
    replace hP := zl_e hP hv9
    refine wz_cI_of (zas (zcons rfl (zcons rfl (zcons rfl rfl))) c9) ?_
    clear c9
    refine wz_br (i3E (rfl : i3 v9 = i3 v9) (show (0 : Int32) = i3 0 from rfl) (by omega) (by omega) (by omega) (by omega)) (fun h10 => ?_) (fun h10 => ?_)
    · replace hP := zE_p hP h10
      refine fc_162_2 _ _ (i3 x4) _ _ _ (i3 x8) _ _ _ _ (zconso rfl (zconso rfl (zconso rfl (zconso rfl (zconso (zvo (rfl : i3 x4 = i3 x4)) (zconso rfl (zconso rfl (zconso rfl (zconso (zvo (rfl : i3 x8 = i3 x8)) (zconso rfl (zconso rfl (zconso rfl rfl)))))))))))) ?_
      obtain ⟨m2, rfl⟩ : ∃ m2, m = m2 + 1 := ⟨m - 1, by omega⟩
      refine wz_kbs (n := 1) (?_)
      exact wz_k1 ⟨m2, by omega, Z8, (x8 + 1), (zconso rfl (zconso rfl (zconso rfl (zconso rfl (zconso (zvo (rfl : i3 x4 = i3 x4)) (zconso rfl (zconso rfl (zconso rfl (zconso (zvo (i3A (rfl : i3 x8 = i3 x8) (show (1 : Int32) = i3 1 from rfl))) (zconso rfl (zconso rfl (zconso rfl rfl)))))))))))), rfl, hZ8I, hZ8K, hZ8U, (zA_o (zA_o (zA_o gAx3 hZ6 (fun q => absurd q.2 (by omega))) hZ7 (fun q => absurd q.2 (by omega))) hZ8 (fun q => absurd q.2 (by omega))), (zA_w (zA_w (zA_w gAx7 hZ6 (by omega)) hZ7 (by omega)) hZ8 (by omega)), by omega, by omega,  hP⟩
    · replace hP := zE_n hP h10
      obtain ⟨v11, hv11, c9, lv11, uv11⟩ := sp_170 (ν := ν) hZ8I x3 hSx3 (zA_o (zA_o (zA_o gAx3 hZ6 (fun q => absurd q.2 (by omega))) hZ7 (fun q => absurd q.2 (by omega))) hZ8 (fun q => absurd q.2 (by omega))) x7 hSx7 (zA_w (zA_w (zA_w gAx7 hZ6 (by omega)) hZ7 (by omega)) hZ8 (by omega)) x5 hSx5 x6 hSx6 (zbh (c := 0) (k := 0) hM (Nat.le_of_ble_eq_true rfl))
      replace hP := zl_e hP hv11
      refine wz_cI_of (zas (zcons rfl (zcons rfl (zcons rfl (zcons rfl rfl)))) c9) ?_
      clear c9
      have r12 := w3_r (x4 + v11)
      have r13 := zH_f hZ8I 69 0 0 0
      refine wz_br (i3Le (i3W (i3A (rfl : i3 x4 = i3 x4) (rfl : i3 v11 = i3 v11))) (zm_rd (Z := Z8) (ν := ν) (k := 69) (show ((0 : Nat) : Int) = 0 from rfl) (show ((0 : Nat) : Int) = 0 from rfl) (show ((0 : Nat) : Int) = 0 from rfl)) (by omega) (by omega) (by omega) (by omega)) (fun h14 => ?_) (fun h14 => ?_)
      · replace hP := zE_p hP h14
        refine fc_162_2 _ _ (i3 x4) _ _ _ (i3 x8) _ _ _ _ (zconso rfl (zconso rfl (zconso rfl (zconso rfl (zconso (zvo (rfl : i3 x4 = i3 x4)) (zconso rfl (zconso rfl (zconso rfl (zconso (zvo (rfl : i3 x8 = i3 x8)) (zconso rfl (zconso rfl (zconso rfl rfl)))))))))))) ?_
        obtain ⟨m2, rfl⟩ : ∃ m2, m = m2 + 1 := ⟨m - 1, by omega⟩
        refine wz_kbs (n := 1) (?_)
        exact wz_k1 ⟨m2, by omega, Z8, (x8 + 1), (zconso rfl (zconso rfl (zconso rfl (zconso rfl (zconso (zvo (rfl : i3 x4 = i3 x4)) (zconso rfl (zconso rfl (zconso rfl (zconso (zvo (i3A (rfl : i3 x8 = i3 x8) (show (1 : Int32) = i3 1 from rfl))) (zconso rfl (zconso rfl (zconso rfl rfl)))))))))))), rfl, hZ8I, hZ8K, hZ8U, (zA_o (zA_o (zA_o gAx3 hZ6 (fun q => absurd q.2 (by omega))) hZ7 (fun q => absurd q.2 (by omega))) hZ8 (fun q => absurd q.2 (by omega))), (zA_w (zA_w (zA_w gAx7 hZ6 (by omega)) hZ7 (by omega)) hZ8 (by omega)), by omega, by omega,  hP⟩
      · replace hP := zE_n hP h14
        obtain ⟨Z15, hZ15⟩ := zx (zu Z8 69 0 0 0 (w3 (x4 + v11)))
        replace hP := zl_e hP hZ15
        have hZ15I := zH_u hZ8I hZ15 (lo := -2147483648) (hi := 2147483647) (by decide) rfl (by omega) ⟨by decide, by decide⟩ (Or.inl (by decide)) rfl
        have hZ15U : zU [] Zs Z15 := zU_u hZ8U hZ15 (Or.inl rfl)
        have hZ15K : zL [69] [x7] n9 Zs Z15 := zL_u hZ8K hZ15 (by decide)
        intro μ9 e9
        replace e9 := e9.trans (zm_wI (Z := Z8) (ν := ν) hZ15 (show ((0 : Nat) : Int) = 0 from rfl) (show ((0 : Nat) : Int) = 0 from rfl) (show ((0 : Nat) : Int) = 0 from rfl) (i3W (i3A (rfl : i3 x4 = i3 x4) (rfl : i3 v11 = i3 v11))))
        subst e9
        refine sl_162_1 (ν := ν) hZ15I (zbh (c := 0) (k := 0) hM (Nat.le_of_ble_eq_true rfl)) zC_r x0b x3 hSx3 (zA_o (zA_o (zA_o (zA_o gAx3 hZ6 (fun q => absurd q.2 (by omega))) hZ7 (fun q => absurd q.2 (by omega))) hZ8 (fun q => absurd q.2 (by omega))) hZ15 (fun q => absurd q.1 (by decide))) x5 hSx5 x6 hSx6 x7 hSx7 (zA_o (zA_w (zA_w (zA_w gAx7 hZ6 (by omega)) hZ7 (by omega)) hZ8 (by omega)) hZ15 (fun q => absurd q.1 (by decide))) (x4 := x4) (by omega) (x8 := x8) (by omega) (x10 := 0) (by omega) zU_r  (zconso rfl (zconso rfl (zconso rfl (zconso rfl (zconso (zvo (rfl : i3 x4 = i3 x4)) (zconso rfl (zconso rfl (zconso rfl (zconso (zvo (rfl : i3 x8 = i3 x8)) (zconso rfl (zconso (zvo (show (0 : Int32) = i3 0 from rfl)) (zconso rfl rfl)))))))))))) rfl ?_
        intro L18 Z17 y16 hL18 hZ17I kZ17 jZ17 aZ17_x3 aZ17_x7 gy16 q9
        replace hP := zl_e2 hP (Eq.symm q9)
        clear q9
        have hZ17U : zU [] Zs Z17 := zU_t hZ15U jZ17 zU_b0
        have hZ17K : zL [69] [x7] n9 Zs Z17 := zL_c hZ15K kZ17 (by decide)
        refine wz_kbs (n := 0) (?_)
        refine fc_162_2 _ _ (i3 x4) _ _ _ (i3 x8) _ _ _ _ hL18 ?_
        obtain ⟨m2, rfl⟩ : ∃ m2, m = m2 + 1 := ⟨m - 1, by omega⟩
        refine wz_kbs (n := 1) (?_)
        exact wz_k1 ⟨m2, by omega, Z17, (x8 + 1), (zconso rfl (zconso rfl (zconso rfl (zconso rfl (zconso (zvo (rfl : i3 x4 = i3 x4)) (zconso rfl (zconso rfl (zconso rfl (zconso (zvo (i3A (rfl : i3 x8 = i3 x8) (show (1 : Int32) = i3 1 from rfl))) (zconso rfl (zconso rfl (zconso rfl rfl)))))))))))), rfl, hZ17I, hZ17K, hZ17U, (zA_c (zA_o (zA_o (zA_o (zA_o gAx3 hZ6 (fun q => absurd q.2 (by omega))) hZ7 (fun q => absurd q.2 (by omega))) hZ8 (fun q => absurd q.2 (by omega))) hZ15 (fun q => absurd q.1 (by decide))) kZ17 (by decide)), (zA_c (zA_o (zA_w (zA_w (zA_w gAx7 hZ6 (by omega)) hZ7 (by omega)) hZ8 (by omega)) hZ15 (fun q => absurd q.1 (by decide))) kZ17 (by decide)), by omega, by omega,  hP⟩
/- yX10_bestWay -/
def zf_162 (Z : qz_Z) (n9 : Int) (a0b : Int) (a1 : Int) : qz_Z × Int := (zlet (zzi Z n9) (fun Z1 => (zlet (n9 + 1) (fun n3 => (zlet (zu Z1 200 n9 0 0 (-1)) (fun Z4 => (zlet (zu Z4 200 n9 0 1 (-1)) (fun Z5 => (zlet (zu Z5 200 n9 0 2 (-1)) (fun Z6 => (zlet2 (zf_167 Z6 a0b a1 n9) (fun Z7 v8 => (zlet (zzi Z7 n3) (fun Z9 => (zlet (n3 + 1) (fun n11 => (zlet (zzi Z9 n11) (fun Z12 => (zlet (n11 + 1) (fun n14 => (zlet (zf_166 Z12 a0b a1 n9 n3 n11) (fun Z15 => (zlet (zu Z15 69 0 0 0 (-1)) (fun Z16 => (zlet (zzi Z16 n14) (fun Z17 => (zlet (n14 + 1) (fun n19 => (zlet2 (zl_162_3 a0b n9 n3 n11 n14 v8 344 Z17 0) (fun Z21 y20 => (Z21, n19)))))))))))))))))))))))))))))))
theorem sp_162 {s : zSM} {Z : qz_Z} {ν : qz_N} (hZ : zH s Z) (hs : s.1 = none) {n9 : Nat} (hn : ν.2.2.2.1 = n9) (a0b : Nat) {a1 : Int} (ga1 : 0 ≤ a1 ∧ a1 ≤ 671) (hM : s.2 + 0 ≤ 1000000000) : ∃ (Z1 : qz_Z) (ν1 : qz_N) (n1 : Nat), (Z1, (n1 : Int)) = zf_162 Z n9 a0b a1 ∧ (qf_162 [.inr (.inr (some (10, a0b, 0))), .inl (i3 a1), .inr (.inr (some (69, 0, 0)))] (zm Z ν) = some (zm Z1 ν1, .inl none) ∧ zH s Z1 ∧ zL [69] [] n9 Z Z1 ∧ zU [] Z Z1 ∧ ν1.2.2.2.1 = n1 ∧ zGl 192 ν ν1 ∧ n9 ≤ n1 ∧ n1 ≤ n9 + 4) := by
  obtain ⟨P, hP⟩ := zx (zf_162 Z n9 a0b a1)
  refine zc_Vn (Q := fun Z1 ν1 n1 => zH s Z1 ∧ zL [69] [] n9 Z Z1 ∧ zU [] Z Z1 ∧ ν1.2.2.2.1 = n1 ∧ zGl 192 ν ν1 ∧ n9 ≤ n1 ∧ n1 ≤ n9 + 4) hP (fw_162 a0b (i3 a1) _ _ ?_)
  replace hP : zE P (zf_162 Z n9 a0b a1) := hP
  unfold zf_162 at hP
  obtain ⟨Z1, hZ1⟩ := zx (zzr Z n9)
  obtain ⟨ν2, hν2⟩ := zx (nal ν 50 1 3 1 3)
  obtain ⟨n3, hn3⟩ : ∃ m : Nat, m = n9 + 1 := ⟨_, rfl⟩
  replace hP := zl_e hP (hZ1.trans zzi_e)
  replace hP := zl_e hP (show ((n3 : Nat) : Int) = ((n9 : Nat) : Int) + 1 from by omega)
  intro μ9 e9
  replace e9 := zal_e e9 hn hZ1 hν2
  subst e9
  rw [show qz_na (zm Z ν) = n9 from hn]
  have hZ1I := zH_z hZ hZ1 hs
  have hZ1K : zL [69] [] n9 Z Z1 := zL_z2 zL_r (by omega) hZ1
  have hZ1U : zU [] Z Z1 := zU_z zU_r hZ1
  have hnν2 := (nal_na hn hν2).trans hn3.symm
  have hGν2 := zGl_al (K := 192) zGl_r hν2 (by decide)
  have hSν2 := zSh_new hn hν2
  have gAν2 := zA_new (lo := -1) (hi := 47) hZ1 ⟨by decide, by decide⟩
  refine wz_i1 (by rw [zSh_t hSν2]; rfl) ?_
  refine wz_i0 (by rw [zSh_l hSν2]; exact i3O (n := 3) (show (0 : Int32) = i3 0 from rfl) (by omega) (by omega) (by omega)) ?_
  obtain ⟨Z4, hZ4⟩ := zx (zu Z1 200 n9 0 0 (-1))
  replace hP := zl_e hP hZ4
  have hZ4I := zH_200 hZ1I hZ4 (by omega) hs
  have hZ4U : zU [] Z Z4 := zU_u hZ1U hZ4 (Or.inl rfl)
  have hZ4K : zL [69] [] n9 Z Z4 := zL_a hZ1K hZ4 (Or.inr (by omega))
  intro μ9 e9
  replace e9 := e9.trans (zm_wI (Z := Z1) (ν := ν2) hZ4 (rfl : ((n9 : Nat) : Int) = n9) (show ((0 : Nat) : Int) = 0 from rfl) (show ((0 : Nat) : Int) = 0 from rfl) (show (-1 : Int32) = i3 (-1) from rfl))
  subst e9
  refine wz_i1 (by rw [zSh_t hSν2]; rfl) ?_
  refine wz_i0 (by rw [zSh_l hSν2]; exact i3O (n := 3) (show (1 : Int32) = i3 1 from rfl) (by omega) (by omega) (by omega)) ?_
  obtain ⟨Z5, hZ5⟩ := zx (zu Z4 200 n9 0 1 (-1))
  replace hP := zl_e hP hZ5
  have hZ5I := zH_200 hZ4I hZ5 (by omega) hs
  have hZ5U : zU [] Z Z5 := zU_u hZ4U hZ5 (Or.inl rfl)
  have hZ5K : zL [69] [] n9 Z Z5 := zL_a hZ4K hZ5 (Or.inr (by omega))
  intro μ9 e9
  replace e9 := e9.trans (zm_wI (Z := Z4) (ν := ν2) hZ5 (rfl : ((n9 : Nat) : Int) = n9) (show ((0 : Nat) : Int) = 0 from rfl) (show ((1 : Nat) : Int) = 1 from rfl) (show (-1 : Int32) = i3 (-1) from rfl))
  subst e9
  refine wz_i1 (by rw [zSh_t hSν2]; rfl) ?_
  refine wz_i0 (by rw [zSh_l hSν2]; exact i3O (n := 3) (show (2 : Int32) = i3 2 from rfl) (by omega) (by omega) (by omega)) ?_
  obtain ⟨Z6, hZ6⟩ := zx (zu Z5 200 n9 0 2 (-1))
  replace hP := zl_e hP hZ6
  have hZ6I := zH_200 hZ5I hZ6 (by omega) hs
  have hZ6U : zU [] Z Z6 := zU_u hZ5U hZ6 (Or.inl rfl)
  have hZ6K : zL [69] [] n9 Z Z6 := zL_a hZ5K hZ6 (Or.inr (by omega))
  intro μ9 e9
  replace e9 := e9.trans (zm_wI (Z := Z5) (ν := ν2) hZ6 (rfl : ((n9 : Nat) : Int) = n9) (show ((0 : Nat) : Int) = 0 from rfl) (show ((2 : Nat) : Int) = 2 from rfl) (show (-1 : Int32) = i3 (-1) from rfl))
  subst e9
  obtain ⟨Z7, v8, hv8, c9, hZ7I, kZ7, jZ7, lv8, uv8, aZ7_a2b⟩ := sp_167 (ν := ν2) hZ6I hs hnν2 a0b (a1 := a1) (by omega) n9 hSν2 (zA_w (zA_w (zA_w gAν2 hZ4 (by omega)) hZ5 (by omega)) hZ6 (by omega)) (zbh (c := 0) (k := 0) hM (Nat.le_of_ble_eq_true rfl))
  have hZ7U : zU [] Z Z7 := zU_t hZ6U jZ7 zU_b0
  have hZ7K : zL [69] [] n9 Z Z7 := zL_t hZ6K kZ7 (by decide) (zL_b1 (Or.inr (by omega)) zL_b0) (by omega)
  replace hP := zl_e2 hP hv8
  refine wz_cI_of (zas (zcons rfl (zcons (zvi (rfl : i3 a1 = i3 a1)) (zcons rfl rfl))) c9) ?_
  clear c9 hv8
  obtain ⟨Z9, hZ9⟩ := zx (zzr Z7 n3)
  obtain ⟨ν10, hν10⟩ := zx (nal ν2 50 1 24 1 24)
  obtain ⟨n11, hn11⟩ : ∃ m : Nat, m = n3 + 1 := ⟨_, rfl⟩
  replace hP := zl_e hP (hZ9.trans zzi_e)
  replace hP := zl_e hP (show ((n11 : Nat) : Int) = ((n3 : Nat) : Int) + 1 from by omega)
  intro μ9 e9
  replace e9 := zal_e e9 hnν2 hZ9 hν10
  subst e9
  rw [show qz_na (zm Z7 ν2) = n3 from hnν2]
  have hZ9I := zH_z hZ7I hZ9 hs
  have hZ9K : zL [69] [] n9 Z Z9 := zL_z2 hZ7K (by omega) hZ9
  have hZ9U : zU [] Z Z9 := zU_z hZ7U hZ9
  have hnν10 := (nal_na hnν2 hν10).trans hn11.symm
  have hGν10 := zGl_al (K := 192) hGν2 hν10 (by decide)
  have hSν10 := zSh_new hnν2 hν10
  obtain ⟨Z12, hZ12⟩ := zx (zzr Z9 n11)
  obtain ⟨ν13, hν13⟩ := zx (nal ν10 50 1 84 1 84)
  obtain ⟨n14, hn14⟩ : ∃ m : Nat, m = n11 + 1 := ⟨_, rfl⟩
  replace hP := zl_e hP (hZ12.trans zzi_e)
  replace hP := zl_e hP (show ((n14 : Nat) : Int) = ((n11 : Nat) : Int) + 1 from by omega)
  intro μ9 e9
  replace e9 := zal_e e9 hnν10 hZ12 hν13
  subst e9
  rw [show qz_na (zm Z9 ν10) = n11 from hnν10]
  have hZ12I := zH_z hZ9I hZ12 hs
  have hZ12K : zL [69] [] n9 Z Z12 := zL_z2 hZ9K (by omega) hZ12
  have hZ12U : zU [] Z Z12 := zU_z hZ9U hZ12
  have hnν13 := (nal_na hnν10 hν13).trans hn14.symm
  have hGν13 := zGl_al (K := 192) hGν10 hν13 (by decide)
  have hSν13 := zSh_new hnν10 hν13
  obtain ⟨Z15, hZ15, c9, hZ15I, kZ15, jZ15⟩ := sp_166 (ν := ν13) hZ12I hs hnν13 a0b (a1 := a1) (by omega) n9 (zSh_al (zSh_al hSν2 hν10) hν13) (zA_z (zA_z aZ7_a2b hZ9 (by omega)) hZ12 (by omega)) n3 (zSh_al hSν10 hν13) n11 hSν13 (by omega) (by omega) (by omega) (zbh (c := 0) (k := 0) hM (Nat.le_of_ble_eq_true rfl))
  have hZ15U : zU [] Z Z15 := zU_t hZ12U jZ15 zU_b0
  have hZ15K : zL [69] [] n9 Z Z15 := zL_t hZ12K kZ15 (by decide) (zL_b1 (Or.inr (by omega)) (zL_b1 (Or.inr (by omega)) zL_b0)) (by omega)
  replace hP := zl_e hP hZ15
  refine wz_cV_of (zas (zcons rfl (zcons (zvi (rfl : i3 a1 = i3 a1)) (zcons rfl (zcons rfl (zcons rfl rfl))))) c9) ?_
  clear c9
  obtain ⟨Z16, hZ16⟩ := zx (zu Z15 69 0 0 0 (-1))
  replace hP := zl_e hP hZ16
  have hZ16I := zH_u hZ15I hZ16 (lo := -2147483648) (hi := 2147483647) (by decide) rfl (by omega) ⟨by decide, by decide⟩ (Or.inl (by decide)) rfl
  have hZ16U : zU [] Z Z16 := zU_u hZ15U hZ16 (Or.inl rfl)
  have hZ16K : zL [69] [] n9 Z Z16 := zL_u hZ15K hZ16 (by decide)
  intro μ9 e9
  replace e9 := e9.trans (zm_wI (Z := Z15) (ν := ν13) hZ16 (show ((0 : Nat) : Int) = 0 from rfl) (show ((0 : Nat) : Int) = 0 from rfl) (show ((0 : Nat) : Int) = 0 from rfl) (show (-1 : Int32) = i3 (-1) from rfl))
  subst e9
  obtain ⟨Z17, hZ17⟩ := zx (zzr Z16 n14)
  obtain ⟨ν18, hν18⟩ := zx (nal ν13 50 1 3 1 3)
  obtain ⟨n19, hn19⟩ : ∃ m : Nat, m = n14 + 1 := ⟨_, rfl⟩
  replace hP := zl_e hP (hZ17.trans zzi_e)
  replace hP := zl_e hP (show ((n19 : Nat) : Int) = ((n14 : Nat) : Int) + 1 from by omega)
  intro μ9 e9
  replace e9 := zal_e e9 hnν13 hZ17 hν18
  subst e9
  rw [show qz_na (zm Z16 ν13) = n14 from hnν13]
  have hZ17I := zH_z hZ16I hZ17 hs
  have hZ17K : zL [69] [] n9 Z Z17 := zL_z2 hZ16K (by omega) hZ17
  have hZ17U : zU [] Z Z17 := zU_z hZ16U hZ17
  have hnν18 := (nal_na hnν13 hν18).trans hn19.symm
  have hGν18 := zGl_al (K := 192) hGν13 hν18 (by decide)
  have hSν18 := zSh_new hnν13 hν18
  have gAν18 := zA_new (lo := 0) (hi := 6) hZ17 ⟨by decide, by decide⟩
  refine sl_162_3 (ν := ν18) hZ17I (zbh (c := 0) (k := 0) hM (Nat.le_of_ble_eq_true rfl)) hs hnν18 a0b n9 (zSh_al (zSh_al (zSh_al hSν2 hν10) hν13) hν18) (zA_z (zA_o (zA_l (zA_z (zA_z aZ7_a2b hZ9 (by omega)) hZ12 (by omega)) kZ15 (by decide) (zA_b1 (by omega) (zA_b1 (by omega) zA_b0)) (by omega)) hZ16 (fun q => absurd q.1 (by decide))) hZ17 (by omega)) n3 (zSh_al (zSh_al hSν10 hν13) hν18) n11 (zSh_al hSν13 hν18) n14 hSν18 gAν18 (x4 := v8) (by omega) (x8 := 0) (by omega) zL_r zU_r (by omega) (by omega) (by omega)  (zconso rfl (zconso rfl (zconso rfl (zconso rfl (zconso (zvo (rfl : i3 v8 = i3 v8)) (zconso rfl (zconso rfl (zconso rfl (zconso (zvo (show (0 : Int32) = i3 0 from rfl)) (zconso rfl (zconso rfl (zconso rfl rfl)))))))))))) rfl ?_
  intro L22 Z21 y20 hL22 hZ21I kZ21 jZ21 aZ21_x3 aZ21_x7 gy20 q9
  replace hP := zl_e2 hP (Eq.symm q9)
  clear q9
  have hZ21U : zU [] Z Z21 := zU_t hZ17U jZ21 zU_b0
  have hZ21K : zL [69] [] n9 Z Z21 := zL_t hZ17K kZ21 (by decide) (zL_b1 (Or.inr (by omega)) zL_b0) (by omega)
  refine fc_162_4  _ _ _ _ hL22 ?_
  exact zlVn hP ⟨hZ21I, hZ21K, hZ21U, hnν18, hGν18, by omega, by omega⟩
/- yX11_best -/
def zx_187 (Z : qz_Z) (n9 : Int) (a1 : Int) (a2 : Int) : qz_Z × Int × Int := (if (Z 11 0 0 13) ≤ a1 ∧ a1 ≤ (min 671 ((Z 11 0 0 13) + 48)) then (if 0 ≤ a2 ∧ a2 ≤ 3 then (zlet2 (zf_162 Z n9 0 a1) (fun Z4 n6 => (Z4, (Z4 69 0 0 a2), 0))) else (Z, 0, 13)) else (Z, 0, 13))
theorem sx_187 {M : Nat} {Z : qz_Z} {ν : qz_N} (hZ : zH ((none, M) : zSM) Z) (hM : ((none, M) : zSM).2 + 0 ≤ 1000000000) {n9 : Nat} (hn : ν.2.2.2.1 = n9) {a1 : Int} (ga1 : -2147483648 ≤ a1 ∧ a1 ≤ 2147483647) {a2 : Int} (ga2 : -2147483648 ≤ a2 ∧ a2 ≤ 2147483647) : ∃ (Z1 : qz_Z) (ν1 : qz_N) (v E : Int), (Z1, v, E) = zx_187 Z n9 a1 a2 ∧ qf_187 [.inr (.inr (some (0, 0, 0))), .inl (i3 a1), .inl (i3 a2)] (zm Z ν) = some (zm Z1 ν1, zoX v E) ∧ (fun Z1 ν1 => zH ((none, M) : zSM) Z1 ∧ zL [69] [] n9 Z Z1 ∧ zU [] Z Z1 ∧ zG 4 768 ν ν1) Z1 ν1 := by
  obtain ⟨P, hP⟩ := zx (zx_187 Z n9 a1 a2)
  refine zc_G (Q := fun Z1 ν1 => zH ((none, M) : zSM) Z1 ∧ zL [69] [] n9 Z Z1 ∧ zU [] Z Z1 ∧ zG 4 768 ν ν1) hP (fw_187 (i3 a1) (i3 a2) _ _ ?_)
  replace hP : zE P (zx_187 Z n9 a1 a2) := hP
  unfold zx_187 at hP
  have hs : ((none, M) : zSM).1 = none := rfl
  have r1 := zH_k hZ 11 0 0 13 (lo := 0) (hi := 671) (by decide) rfl
  refine wz_inR (rfl : i3 a1 = i3 a1) (zm_rd (Z := Z) (ν := ν) (k := 11) (show ((0 : Nat) : Int) = 0 from rfl) (show ((0 : Nat) : Int) = 0 from rfl) (show ((13 : Nat) : Int) = 13 from rfl)) (i3Mn (show (671 : Int32) = i3 671 from rfl) (i3A (zm_rd (Z := Z) (ν := ν) (k := 11) (show ((0 : Nat) : Int) = 0 from rfl) (show ((0 : Nat) : Int) = 0 from rfl) (show ((13 : Nat) : Int) = 13 from rfl)) (show (48 : Int32) = i3 48 from rfl)) (by omega) (by omega) (by omega) (by omega)) (by omega) (by omega) (by omega) (by omega) (by omega) (by omega) (fun h2 => ?_) (fun h2 => ?_)
  · replace hP := zE_p hP h2
    refine wz_inR (rfl : i3 a2 = i3 a2) (show (0 : Int32) = i3 0 from rfl) (show (3 : Int32) = i3 3 from rfl) (by omega) (by omega) (by omega) (by omega) (by omega) (by omega) (fun h3 => ?_) (fun h3 => ?_)
    · replace hP := zE_p hP h3
      obtain ⟨Z4, ν5, n6, hZ4, c9, hZ4I, kZ4, jZ4, hnν5, gν5, b1ν5, b2ν5⟩ := sp_162 (ν := ν) hZ hs hn 0 (a1 := a1) (by omega) (zbh (c := 0) (k := 0) hM (Nat.le_of_ble_eq_true rfl))
      have hZ4U : zU [] Z Z4 := zU_t zU_r jZ4 zU_b0
      have hZ4K : zL [69] [] n9 Z Z4 := zL_t zL_r kZ4 (by decide) zL_b0 (by omega)
      replace hP := zl_e2 hP hZ4
      refine wz_cV_of (zas (zcons rfl (zcons (zvi (rfl : i3 a1 = i3 a1)) (zcons rfl rfl))) c9) ?_
      clear c9
      have hGν5 := zGl_t (K := 192) zGl_r gν5
      refine wz_i0 (i3O (n := 24) (rfl : i3 a2 = i3 a2) (by omega) (by omega) (by omega)) ?_
      have r7 := zH_f hZ4I 69 0 0 a2
      exact zlG hP (zm_rd (Z := Z4) (ν := ν5) (k := 69) (show ((0 : Nat) : Int) = 0 from rfl) (show ((0 : Nat) : Int) = 0 from rfl) (i3I (y := a2) (rfl : i3 a2 = i3 a2) (by omega) (by omega) (by omega))) ⟨hZ4I, hZ4K, hZ4U, zGl_c (c := 4) hGν5 hn hnν5 (by omega) (Nat.le_of_ble_eq_true rfl) (Nat.le_of_ble_eq_true rfl)⟩
    · replace hP := zE_n hP h3
      exact zlGe (E := 12) hP ⟨hZ, zL_r, zU_r, zG_w (zG_k rfl) (Nat.le_of_ble_eq_true rfl) (Nat.le_of_ble_eq_true rfl)⟩
  · replace hP := zE_n hP h2
    exact zlGe (E := 12) hP ⟨hZ, zL_r, zU_r, zG_w (zG_k rfl) (Nat.le_of_ble_eq_true rfl) (Nat.le_of_ble_eq_true rfl)⟩
/- yX3_insert -/
def zl_64_1 (x0b : Int) (x2 : Int) : Nat → qz_Z → Int → qz_Z × Int
  | 0, Z, x3 => (Z, x3)
  | m + 1, Z, x3 => (if x3 ≤ 0 then (Z, x3) else (if (Z 200 x0b 0 ((-1) + x3)) ≤ x2 then (Z, x3) else (zlet (zu Z 200 x0b 0 x3 (Z 200 x0b 0 ((-1) + x3))) (fun Z5 => zl_64_1 x0b x2 m Z5 (x3 + (-1))))))
theorem sl_64_1 {s : zSM} {Zs Z : qz_Z} {ν : qz_N} (hZ : zH s Z) (hM : s.2 + 0 ≤ 1000000000) (hs : s.1 = none) {n9 : Nat} (hn : ν.2.2.2.1 = n9) (x0b : Nat) (hSx0 : zSh ν x0b 50 5) (gAx0 : zA (0) 47 x0b Z) {x2 : Int} (gx2 : 0 ≤ x2 ∧ x2 ≤ 47) {x3 : Int} (gx3 : 0 ≤ x3 ∧ x3 ≤ 4) (hK : zL [] [x0b] n9 Zs Z) (hU : zU [] Zs Z) {k : wz_K} {R : wz_R} {L : qz_L} (hL : qz_fg [true, false, true, true] L = [some (.inr (.inr (some (200, x0b, 0)))), none, some (.inl (i3 x2)), some (.inl (i3 x3))]) {T : qz_Z × Int} (hP : zE T (zl_64_1 x0b x2 ((x3 - (0)).toNat + 1) Z x3)) (hk : ∀ (L9 : qz_L) (Z9 : qz_Z) (yx3 : Int), qz_fg [true, false, true, true] L9 = [some (.inr (.inr (some (200, x0b, 0)))), none, some (.inl (i3 x2)), some (.inl (i3 yx3))] → zH s Z9 → zL [] [x0b] n9 Zs Z9 → zU [] Zs Z9 → zA (0) 47 x0b Z9 → (0 ≤ yx3 ∧ yx3 ≤ 4) → zE T ((Z9, yx3)) → k 0 (L9, [], zm Z9 ν)) : wz_loop qb_64_1 65536 k R (L, [], zm Z ν) := by
  refine wz_lp sb_64_1 (fun m x => ∃ Z : qz_Z, ∃ x3 : Int, qz_fg [true, false, true, true] x.1 = [some (.inr (.inr (some (200, x0b, 0)))), none, some (.inl (i3 x2)), some (.inl (i3 x3))] ∧ x.2 = ([], zm Z ν) ∧ zH s Z ∧ zL [] [x0b] n9 Zs Z ∧ zU [] Zs Z ∧ zA (0) 47 x0b Z ∧ m = (x3 - (0)).toNat ∧ (0 ≤ x3 ∧ x3 ≤ 4) ∧ zE T (zl_64_1 x0b x2 (m + 1) Z x3)) ?_ 65536 ((x3 - (0)).toNat) _ (by omega) ⟨Z, x3, hL, rfl, hZ, hK, hU, gAx0, rfl, gx3, hP⟩
  clear hP gx3 hZ hK hU gAx0 hL
  clear x3
  clear Z
  rintro m ⟨L, st, μ⟩ ⟨Z, x3, hL, hx, hZ, hK, hU, gAx0, hm, gx3, hP⟩
  cases hx
  refine fb_64_1 (200, x0b, 0) (i3 x2) (i3 x3) _ _ _ _ hL ?_
  have r1 := hSx0.1
  refine wz_br (i3Le (rfl : i3 x3 = i3 x3) (show (0 : Int32) = i3 0 from rfl) (by omega) (by omega) (by omega) (by omega)) (fun h2 => ?_) (fun h2 => ?_)
  · replace hP := zE_p hP h2
    exact hk _ _ _ (zconso rfl (zconso rfl (zconso (zvo (rfl : i3 x2 = i3 x2)) (zconso (zvo (rfl : i3 x3 = i3 x3)) rfl)))) hZ hK hU gAx0 (by omega)  hP
  · replace hP := zE_n hP h2
    refine wz_i1 (by rw [zSh_t hSx0]; rfl) ?_
    refine wz_i0 (by rw [zSh_l hSx0]; exact i3O (n := 5) (i3S (rfl : i3 x3 = i3 x3) (show (1 : Int32) = i3 1 from rfl)) (by omega) (by omega) (by omega)) ?_
    have r3 := gAx0 ((-1) + x3)
    refine wz_br (i3Le (zm_rd (Z := Z) (ν := ν) (k := 200) (rfl : ((x0b : Nat) : Int) = x0b) (show ((0 : Nat) : Int) = 0 from rfl) (i3I (y := ((-1) + x3)) (i3S (rfl : i3 x3 = i3 x3) (show (1 : Int32) = i3 1 from rfl)) (by omega) (by omega) (by omega))) (rfl : i3 x2 = i3 x2) (by omega) (by omega) (by omega) (by omega)) (fun h4 => ?_) (fun h4 => ?_)
    · replace hP := zE_p hP h4
      exact hk _ _ _ (zconso rfl (zconso rfl (zconso (zvo (rfl : i3 x2 = i3 x2)) (zconso (zvo (rfl : i3 x3 = i3 x3)) rfl)))) hZ hK hU gAx0 (by omega)  hP
    · replace hP := zE_n hP h4
      refine wz_i1 (by rw [zSh_t hSx0]; rfl) ?_
      refine wz_i0 (by rw [zSh_l hSx0]; exact i3O (n := 5) (i3S (rfl : i3 x3 = i3 x3) (show (1 : Int32) = i3 1 from rfl)) (by omega) (by omega) (by omega)) ?_
      refine wz_i1 (by rw [zSh_t hSx0]; rfl) ?_
      refine wz_i0 (by rw [zSh_l hSx0]; exact i3O (n := 5) (rfl : i3 x3 = i3 x3) (by omega) (by omega) (by omega)) ?_
      obtain ⟨Z5, hZ5⟩ := zx (zu Z 200 x0b 0 x3 (Z 200 x0b 0 ((-1) + x3)))
      replace hP := zl_e hP hZ5
      have hZ5I := zH_200 hZ hZ5 (by omega) hs
      have hZ5U : zU [] Zs Z5 := zU_u hU hZ5 (Or.inl rfl)
      have hZ5K : zL [] [x0b] n9 Zs Z5 := zL_a hK hZ5 (Or.inl (by simp))
      intro μ9 e9
      replace e9 := e9.trans (zm_wI (Z := Z) (ν := ν) hZ5 (rfl : ((x0b : Nat) : Int) = x0b) (show ((0 : Nat) : Int) = 0 from rfl) (i3I (y := x3) (rfl : i3 x3 = i3 x3) (by omega) (by omega) (by omega)) (zm_rd (Z := Z) (ν := ν) (k := 200) (rfl : ((x0b : Nat) : Int) = x0b) (show ((0 : Nat) : Int) = 0 from rfl) (i3I (y := ((-1) + x3)) (i3S (rfl : i3 x3 = i3 x3) (show (1 : Int32) = i3 1 from rfl)) (by omega) (by omega) (by omega))))
      subst e9
      obtain ⟨m2, rfl⟩ : ∃ m2, m = m2 + 1 := ⟨m - 1, by omega⟩
      exact wz_k1 ⟨m2, by omega, Z5, (x3 + (-1)), (zconso rfl (zconso rfl (zconso (zvo (rfl : i3 x2 = i3 x2)) (zconso (zvo (i3A (rfl : i3 x3 = i3 x3) (show (-1 : Int32) = i3 (-1) from rfl))) rfl)))), rfl, hZ5I, hZ5K, hZ5U, (zA_w gAx0 hZ5 (by omega)), by omega, by omega,  hP⟩
/- yX3_insert -/
def zf_64 (Z : qz_Z) (a0b : Int) (a1 : Int) (a2 : Int) : qz_Z := (zlet2 (zl_64_1 a0b a2 ((a1 - (0)).toNat + 1) Z a1) (fun Z3 y2 => (zlet (zu Z3 200 a0b 0 y2 a2) (fun Z5 => Z5))))
theorem sp_64 {s : zSM} {Z : qz_Z} {ν : qz_N} (hZ : zH s Z) (hs : s.1 = none) {n9 : Nat} (hn : ν.2.2.2.1 = n9) (a0b : Nat) (hSa0 : zSh ν a0b 50 5) (gAa0 : zA (0) 47 a0b Z) {a1 : Int} (ga1 : 0 ≤ a1 ∧ a1 ≤ 4) {a2 : Int} (ga2 : 0 ≤ a2 ∧ a2 ≤ 47) (hM : s.2 + 0 ≤ 1000000000) : ∃ P : qz_Z, P = zf_64 Z a0b a1 a2 ∧ (qf_64 [.inr (.inr (some (200, a0b, 0))), .inl (i3 a1), .inl (i3 a2)] (zm Z ν) = some (zm P ν, .inl none) ∧ zH s P ∧ zL [] [a0b] n9 Z P ∧ zU [] Z P ∧ zA (0) 47 a0b P) := by
  obtain ⟨P, hP⟩ := zx (zf_64 Z a0b a1 a2)
  refine zc_V (Q := fun P => zH s P ∧ zL [] [a0b] n9 Z P ∧ zU [] Z P ∧ zA (0) 47 a0b P) hP (fw_64 (200, a0b, 0) (i3 a1) (i3 a2) _ _ ?_)
  replace hP : zE P (zf_64 Z a0b a1 a2) := hP
  unfold zf_64 at hP
  have r1 := hSa0.1
  refine sl_64_1 (ν := ν) hZ (zbh (c := 0) (k := 0) hM (Nat.le_of_ble_eq_true rfl)) hs hn a0b hSa0 gAa0 (x2 := a2) (by omega) (x3 := a1) (by omega) zL_r zU_r  (zconso rfl (zconso rfl (zconso (zvo (rfl : i3 a2 = i3 a2)) (zconso (zvo (rfl : i3 a1 = i3 a1)) rfl)))) rfl ?_
  intro L4 Z3 y2 hL4 hZ3I kZ3 jZ3 aZ3_x0 gy2 q9
  replace hP := zl_e2 hP (Eq.symm q9)
  clear q9
  have hZ3U : zU [] Z Z3 := zU_t zU_r jZ3 zU_b0
  have hZ3K : zL [] [a0b] n9 Z Z3 := zL_t zL_r kZ3 (by decide) (zL_b1 (Or.inl (by simp)) zL_b0) (by omega)
  refine fc_64_2 _ (i3 a2) (i3 y2) _ _ _ _ hL4 ?_
  refine wz_i1 (by rw [zSh_t hSa0]; rfl) ?_
  refine wz_i0 (by rw [zSh_l hSa0]; exact i3O (n := 5) (rfl : i3 y2 = i3 y2) (by omega) (by omega) (by omega)) ?_
  obtain ⟨Z5, hZ5⟩ := zx (zu Z3 200 a0b 0 y2 a2)
  replace hP := zl_e hP hZ5
  have hZ5I := zH_200 hZ3I hZ5 (by omega) hs
  have hZ5U : zU [] Z Z5 := zU_u hZ3U hZ5 (Or.inl rfl)
  have hZ5K : zL [] [a0b] n9 Z Z5 := zL_a hZ3K hZ5 (Or.inl (by simp))
  intro μ9 e9
  replace e9 := e9.trans (zm_wI (Z := Z3) (ν := ν) hZ5 (rfl : ((a0b : Nat) : Int) = a0b) (show ((0 : Nat) : Int) = 0 from rfl) (i3I (y := y2) (rfl : i3 y2 = i3 y2) (by omega) (by omega) (by omega)) (rfl : i3 a2 = i3 a2))
  subst e9
  exact zlV hP ⟨hZ5I, hZ5K, hZ5U, (zA_w aZ3_x0 hZ5 (by omega))⟩
/- yX3_nextRow -/
def zl_70_1 (x0b : Int) (x1 : Int) : Nat → qz_Z → Int → Int
  | 0, Z, x2 => x2
  | m + 1, Z, x2 => (if x2 < 0 then x2 else (if (Z 200 x0b 0 x2) ≤ (Z 200 x0b 0 (1 + x2)) then x2 else zl_70_1 x0b x1 m Z (x2 + (-1))))
theorem sl_70_1 {s : zSM} {Z : qz_Z} {ν : qz_N} (hZ : zH s Z) (hM : s.2 + 0 ≤ 1000000000) (x0b : Nat) (hSx0 : zSh ν x0b 50 5) (gAx0 : zA (0) 47 x0b Z) {x1 : Int} (gx1 : 0 ≤ x1 ∧ x1 ≤ 5) {x2 : Int} (gx2 : -2 ≤ x2 ∧ x2 ≤ 3) (gr0 : x2 + 2 ≤ x1) {k : wz_K} {R : wz_R} {L : qz_L} (hL : qz_fg [true, true, true, false, false, false] L = [some (.inr (.inr (some (200, x0b, 0)))), some (.inl (i3 x1)), some (.inl (i3 x2)), none, none, none]) {T : Int} (hP : zE T (zl_70_1 x0b x1 ((x2 - (-2)).toNat + 1) Z x2)) (hk : ∀ (L9 : qz_L) (yx2 : Int), qz_fg [true, true, true, false, false, false] L9 = [some (.inr (.inr (some (200, x0b, 0)))), some (.inl (i3 x1)), some (.inl (i3 yx2)), none, none, none] → (-2 ≤ yx2 ∧ yx2 ≤ 3) → (yx2 + 2 ≤ x1) → zE T (yx2) → k 0 (L9, [], zm Z ν)) : wz_loop qb_70_1 65536 k R (L, [], zm Z ν) := by
  refine wz_lp sb_70_1 (fun m x => ∃ x2 : Int, qz_fg [true, true, true, false, false, false] x.1 = [some (.inr (.inr (some (200, x0b, 0)))), some (.inl (i3 x1)), some (.inl (i3 x2)), none, none, none] ∧ x.2 = ([], zm Z ν) ∧ m = (x2 - (-2)).toNat ∧ (-2 ≤ x2 ∧ x2 ≤ 3) ∧ (x2 + 2 ≤ x1) ∧ zE T (zl_70_1 x0b x1 (m + 1) Z x2)) ?_ 65536 ((x2 - (-2)).toNat) _ (by omega) ⟨x2, hL, rfl, rfl, gx2, gr0, hP⟩
  clear hP gr0 gx2 hL
  clear x2
  rintro m ⟨L, st, μ⟩ ⟨x2, hL, hx, hm, gx2, gr0, hP⟩
  cases hx
  refine fb_70_1 (200, x0b, 0) (i3 x1) (i3 x2) _ _ _ _ hL ?_
  refine wz_br (i3L (rfl : i3 x2 = i3 x2) (show (0 : Int32) = i3 0 from rfl) (by omega) (by omega) (by omega) (by omega)) (fun h1 => ?_) (fun h1 => ?_)
  · replace hP := zE_p hP h1
    exact hk _ _ (zconso rfl (zconso (zvo (rfl : i3 x1 = i3 x1)) (zconso (zvo (rfl : i3 x2 = i3 x2)) (zconso rfl (zconso rfl (zconso rfl rfl))))))  (by omega) (by omega) hP
  · replace hP := zE_n hP h1
    refine wz_i1 (by rw [zSh_t hSx0]; rfl) ?_
    refine wz_i0 (by rw [zSh_l hSx0]; exact i3O (n := 5) (rfl : i3 x2 = i3 x2) (by omega) (by omega) (by omega)) ?_
    refine wz_i1 (by rw [zSh_t hSx0]; rfl) ?_
    refine wz_i0 (by rw [zSh_l hSx0]; exact i3O (n := 5) (i3A (rfl : i3 x2 = i3 x2) (show (1 : Int32) = i3 1 from rfl)) (by omega) (by omega) (by omega)) ?_
    have r2 := gAx0 x2
    have r3 := gAx0 (1 + x2)
    refine wz_br (i3Le (zm_rd (Z := Z) (ν := ν) (k := 200) (rfl : ((x0b : Nat) : Int) = x0b) (show ((0 : Nat) : Int) = 0 from rfl) (i3I (y := x2) (rfl : i3 x2 = i3 x2) (by omega) (by omega) (by omega))) (zm_rd (Z := Z) (ν := ν) (k := 200) (rfl : ((x0b : Nat) : Int) = x0b) (show ((0 : Nat) : Int) = 0 from rfl) (i3I (y := (1 + x2)) (i3A (rfl : i3 x2 = i3 x2) (show (1 : Int32) = i3 1 from rfl)) (by omega) (by omega) (by omega))) (by omega) (by omega) (by omega) (by omega)) (fun h4 => ?_) (fun h4 => ?_)
    · replace hP := zE_p hP h4
      exact hk _ _ (zconso rfl (zconso (zvo (rfl : i3 x1 = i3 x1)) (zconso (zvo (rfl : i3 x2 = i3 x2)) (zconso rfl (zconso rfl (zconso rfl rfl))))))  (by omega) (by omega) hP
    · replace hP := zE_n hP h4
      obtain ⟨m2, rfl⟩ : ∃ m2, m = m2 + 1 := ⟨m - 1, by omega⟩
      exact wz_k1 ⟨m2, by omega, (x2 + (-1)), (zconso rfl (zconso (zvo (rfl : i3 x1 = i3 x1)) (zconso (zvo (i3A (rfl : i3 x2 = i3 x2) (show (-1 : Int32) = i3 (-1) from rfl))) (zconso rfl (zconso rfl (zconso rfl rfl)))))), rfl,  by omega, by omega, by omega,  hP⟩
/- yX3_nextRow -/
def zl_70_2 (x0b : Int) (x1 : Int) (x2 : Int) : Nat → qz_Z → Int → Int
  | 0, Z, x3 => x3
  | m + 1, Z, x3 => (if x3 ≤ (x2 + 1) then x3 else (if (Z 200 x0b 0 x2) ≤ (Z 200 x0b 0 x3) then x3 else zl_70_2 x0b x1 x2 m Z (x3 + (-1))))
theorem sl_70_2 {s : zSM} {Z : qz_Z} {ν : qz_N} (hZ : zH s Z) (hM : s.2 + 0 ≤ 1000000000) (x0b : Nat) (hSx0 : zSh ν x0b 50 5) (gAx0 : zA (0) 47 x0b Z) {x1 : Int} (gx1 : 0 ≤ x1 ∧ x1 ≤ 5) {x2 : Int} (gx2 : 0 ≤ x2 ∧ x2 ≤ 3) {x3 : Int} (gx3 : -1 ≤ x3 ∧ x3 ≤ 4) (gr0 : x2 + 1 ≤ x3) {k : wz_K} {R : wz_R} {L : qz_L} (hL : qz_fg [true, true, true, true, false, false] L = [some (.inr (.inr (some (200, x0b, 0)))), some (.inl (i3 x1)), some (.inl (i3 x2)), some (.inl (i3 x3)), none, none]) {T : Int} (hP : zE T (zl_70_2 x0b x1 x2 ((x3 - (-1)).toNat + 1) Z x3)) (hk : ∀ (L9 : qz_L) (yx3 : Int), qz_fg [true, true, true, true, false, false] L9 = [some (.inr (.inr (some (200, x0b, 0)))), some (.inl (i3 x1)), some (.inl (i3 x2)), some (.inl (i3 yx3)), none, none] → (-1 ≤ yx3 ∧ yx3 ≤ 4) → (x2 + 1 ≤ yx3) → zE T (yx3) → k 0 (L9, [], zm Z ν)) : wz_loop qb_70_2 65536 k R (L, [], zm Z ν) := by
  refine wz_lp sb_70_2 (fun m x => ∃ x3 : Int, qz_fg [true, true, true, true, false, false] x.1 = [some (.inr (.inr (some (200, x0b, 0)))), some (.inl (i3 x1)), some (.inl (i3 x2)), some (.inl (i3 x3)), none, none] ∧ x.2 = ([], zm Z ν) ∧ m = (x3 - (-1)).toNat ∧ (-1 ≤ x3 ∧ x3 ≤ 4) ∧ (x2 + 1 ≤ x3) ∧ zE T (zl_70_2 x0b x1 x2 (m + 1) Z x3)) ?_ 65536 ((x3 - (-1)).toNat) _ (by omega) ⟨x3, hL, rfl, rfl, gx3, gr0, hP⟩
  clear hP gr0 gx3 hL
  clear x3
  rintro m ⟨L, st, μ⟩ ⟨x3, hL, hx, hm, gx3, gr0, hP⟩
  cases hx
  refine fb_70_2 (200, x0b, 0) (i3 x1) (i3 x2) (i3 x3) _ _ _ _ hL ?_
  refine wz_br (i3Le (rfl : i3 x3 = i3 x3) (i3A (rfl : i3 x2 = i3 x2) (show (1 : Int32) = i3 1 from rfl)) (by omega) (by omega) (by omega) (by omega)) (fun h1 => ?_) (fun h1 => ?_)
  · replace hP := zE_p hP h1
    exact hk _ _ (zconso rfl (zconso (zvo (rfl : i3 x1 = i3 x1)) (zconso (zvo (rfl : i3 x2 = i3 x2)) (zconso (zvo (rfl : i3 x3 = i3 x3)) (zconso rfl (zconso rfl rfl))))))  (by omega) (by omega) hP
  · replace hP := zE_n hP h1
    refine wz_i1 (by rw [zSh_t hSx0]; rfl) ?_
    refine wz_i0 (by rw [zSh_l hSx0]; exact i3O (n := 5) (rfl : i3 x3 = i3 x3) (by omega) (by omega) (by omega)) ?_
    refine wz_i1 (by rw [zSh_t hSx0]; rfl) ?_
    refine wz_i0 (by rw [zSh_l hSx0]; exact i3O (n := 5) (rfl : i3 x2 = i3 x2) (by omega) (by omega) (by omega)) ?_
    have r2 := gAx0 x2
    have r3 := gAx0 x3
    refine wz_br (i3Le (zm_rd (Z := Z) (ν := ν) (k := 200) (rfl : ((x0b : Nat) : Int) = x0b) (show ((0 : Nat) : Int) = 0 from rfl) (i3I (y := x2) (rfl : i3 x2 = i3 x2) (by omega) (by omega) (by omega))) (zm_rd (Z := Z) (ν := ν) (k := 200) (rfl : ((x0b : Nat) : Int) = x0b) (show ((0 : Nat) : Int) = 0 from rfl) (i3I (y := x3) (rfl : i3 x3 = i3 x3) (by omega) (by omega) (by omega))) (by omega) (by omega) (by omega) (by omega)) (fun h4 => ?_) (fun h4 => ?_)
    · replace hP := zE_p hP h4
      exact hk _ _ (zconso rfl (zconso (zvo (rfl : i3 x1 = i3 x1)) (zconso (zvo (rfl : i3 x2 = i3 x2)) (zconso (zvo (rfl : i3 x3 = i3 x3)) (zconso rfl (zconso rfl rfl))))))  (by omega) (by omega) hP
    · replace hP := zE_n hP h4
      obtain ⟨m2, rfl⟩ : ∃ m2, m = m2 + 1 := ⟨m - 1, by omega⟩
      exact wz_k1 ⟨m2, by omega, (x3 + (-1)), (zconso rfl (zconso (zvo (rfl : i3 x1 = i3 x1)) (zconso (zvo (rfl : i3 x2 = i3 x2)) (zconso (zvo (i3A (rfl : i3 x3 = i3 x3) (show (-1 : Int32) = i3 (-1) from rfl))) (zconso rfl (zconso rfl rfl)))))), rfl,  by omega, by omega, by omega,  hP⟩
/- yX3_nextRow -/
def zl_70_3 (x0b : Int) : Nat → qz_Z → Int → Int → qz_Z × Int × Int
  | 0, Z, x4, x5 => (Z, x4, x5)
  | m + 1, Z, x4, x5 => (if x5 ≤ x4 then (Z, x4, x5) else (zlet (zu Z 200 x0b 0 x4 (Z 200 x0b 0 x5)) (fun Z4 => (zlet (zu Z4 200 x0b 0 x5 (Z 200 x0b 0 x4)) (fun Z6 => zl_70_3 x0b m Z6 (x4 + 1) (x5 + (-1)))))))
theorem sl_70_3 {s : zSM} {Zs Z : qz_Z} {ν : qz_N} (hZ : zH s Z) (hM : s.2 + 0 ≤ 1000000000) (hs : s.1 = none) {n9 : Nat} (hn : ν.2.2.2.1 = n9) (x0b : Nat) (hSx0 : zSh ν x0b 50 5) (gAx0 : zA (0) 47 x0b Z) {x4 : Int} (gx4 : 0 ≤ x4 ∧ x4 ≤ 5) {x5 : Int} (gx5 : -1 ≤ x5 ∧ x5 ≤ 4) (hK : zL [] [x0b] n9 Zs Z) (hU : zU [] Zs Z) {k : wz_K} {R : wz_R} {L : qz_L} (hL : qz_fg [true, false, false, false, true, true] L = [some (.inr (.inr (some (200, x0b, 0)))), none, none, none, some (.inl (i3 x4)), some (.inl (i3 x5))]) {T : qz_Z × Int × Int} (hP : zE T (zl_70_3 x0b ((5 - x4).toNat + 1) Z x4 x5)) (hk : ∀ (L9 : qz_L) (Z9 : qz_Z) (yx4 yx5 : Int), qz_fg [false, false, false, false, false, false] L9 = [none, none, none, none, none, none] → zH s Z9 → zL [] [x0b] n9 Zs Z9 → zU [] Zs Z9 → zA (0) 47 x0b Z9 → (0 ≤ yx4 ∧ yx4 ≤ 5) → (-1 ≤ yx5 ∧ yx5 ≤ 4) → zE T ((Z9, yx4, yx5)) → k 0 (L9, [], zm Z9 ν)) : wz_loop qb_70_3 65536 k R (L, [], zm Z ν) := by
  refine wz_lp sb_70_3 (fun m x => ∃ Z : qz_Z, ∃ x4 : Int, ∃ x5 : Int, qz_fg [true, false, false, false, true, true] x.1 = [some (.inr (.inr (some (200, x0b, 0)))), none, none, none, some (.inl (i3 x4)), some (.inl (i3 x5))] ∧ x.2 = ([], zm Z ν) ∧ zH s Z ∧ zL [] [x0b] n9 Zs Z ∧ zU [] Zs Z ∧ zA (0) 47 x0b Z ∧ m = (5 - x4).toNat ∧ (0 ≤ x4 ∧ x4 ≤ 5) ∧ (-1 ≤ x5 ∧ x5 ≤ 4) ∧ zE T (zl_70_3 x0b (m + 1) Z x4 x5)) ?_ 65536 ((5 - x4).toNat) _ (by omega) ⟨Z, x4, x5, hL, rfl, hZ, hK, hU, gAx0, rfl, gx4, gx5, hP⟩
  clear hP gx4 gx5 hZ hK hU gAx0 hL
  clear x4 x5
  clear Z
  rintro m ⟨L, st, μ⟩ ⟨Z, x4, x5, hL, hx, hZ, hK, hU, gAx0, hm, gx4, gx5, hP⟩
  cases hx
  refine fb_70_3 (200, x0b, 0) (i3 x4) (i3 x5) _ _ _ _ hL ?_
  have r1 := hSx0.1
  refine wz_br (i3Le (rfl : i3 x5 = i3 x5) (rfl : i3 x4 = i3 x4) (by omega) (by omega) (by omega) (by omega)) (fun h2 => ?_) (fun h2 => ?_)
  · replace hP := zE_p hP h2
    exact hk _ _ _ _ (zconso rfl (zconso rfl (zconso rfl (zconso rfl (zconso rfl (zconso rfl rfl)))))) hZ hK hU gAx0 (by omega) (by omega)  hP
  · replace hP := zE_n hP h2
    refine wz_i1 (by rw [zSh_t hSx0]; rfl) ?_
    refine wz_i0 (by rw [zSh_l hSx0]; exact i3O (n := 5) (rfl : i3 x4 = i3 x4) (by omega) (by omega) (by omega)) ?_
    refine wz_i1 (by rw [zSh_t hSx0]; rfl) ?_
    refine wz_i0 (by rw [zSh_l hSx0]; exact i3O (n := 5) (rfl : i3 x5 = i3 x5) (by omega) (by omega) (by omega)) ?_
    refine wz_i1 (by rw [zSh_t hSx0]; rfl) ?_
    refine wz_i0 (by rw [zSh_l hSx0]; exact i3O (n := 5) (rfl : i3 x4 = i3 x4) (by omega) (by omega) (by omega)) ?_
    have r3 := gAx0 x5
    obtain ⟨Z4, hZ4⟩ := zx (zu Z 200 x0b 0 x4 (Z 200 x0b 0 x5))
    replace hP := zl_e hP hZ4
    have hZ4I := zH_200 hZ hZ4 (by omega) hs
    have hZ4U : zU [] Zs Z4 := zU_u hU hZ4 (Or.inl rfl)
    have hZ4K : zL [] [x0b] n9 Zs Z4 := zL_a hK hZ4 (Or.inl (by simp))
    intro μ9 e9
    replace e9 := e9.trans (zm_wI (Z := Z) (ν := ν) hZ4 (rfl : ((x0b : Nat) : Int) = x0b) (show ((0 : Nat) : Int) = 0 from rfl) (i3I (y := x4) (rfl : i3 x4 = i3 x4) (by omega) (by omega) (by omega)) (zm_rd (Z := Z) (ν := ν) (k := 200) (rfl : ((x0b : Nat) : Int) = x0b) (show ((0 : Nat) : Int) = 0 from rfl) (i3I (y := x5) (rfl : i3 x5 = i3 x5) (by omega) (by omega) (by omega))))
    subst e9
    refine wz_i1 (by rw [zSh_t hSx0]; rfl) ?_
    refine wz_i0 (by rw [zSh_l hSx0]; exact i3O (n := 5) (rfl : i3 x5 = i3 x5) (by omega) (by omega) (by omega)) ?_
    have r5 := gAx0 x4
    obtain ⟨Z6, hZ6⟩ := zx (zu Z4 200 x0b 0 x5 (Z 200 x0b 0 x4))
    replace hP := zl_e hP hZ6
    have hZ6I := zH_200 hZ4I hZ6 (by omega) hs
    have hZ6U : zU [] Zs Z6 := zU_u hZ4U hZ6 (Or.inl rfl)
    have hZ6K : zL [] [x0b] n9 Zs Z6 := zL_a hZ4K hZ6 (Or.inl (by simp))
    intro μ9 e9
    replace e9 := e9.trans (zm_wI (Z := Z4) (ν := ν) hZ6 (rfl : ((x0b : Nat) : Int) = x0b) (show ((0 : Nat) : Int) = 0 from rfl) (i3I (y := x5) (rfl : i3 x5 = i3 x5) (by omega) (by omega) (by omega)) (zm_rd (Z := Z) (ν := ν) (k := 200) (rfl : ((x0b : Nat) : Int) = x0b) (show ((0 : Nat) : Int) = 0 from rfl) (i3I (y := x4) (rfl : i3 x4 = i3 x4) (by omega) (by omega) (by omega))))
    subst e9
    obtain ⟨m2, rfl⟩ : ∃ m2, m = m2 + 1 := ⟨m - 1, by omega⟩
    exact wz_k1 ⟨m2, by omega, Z6, (x4 + 1), (x5 + (-1)), (zconso rfl (zconso rfl (zconso rfl (zconso rfl (zconso (zvo (i3A (rfl : i3 x4 = i3 x4) (show (1 : Int32) = i3 1 from rfl))) (zconso (zvo (i3A (rfl : i3 x5 = i3 x5) (show (-1 : Int32) = i3 (-1) from rfl))) rfl)))))), rfl, hZ6I, hZ6K, hZ6U, (zA_w (zA_w gAx0 hZ4 (by omega)) hZ6 (by omega)), by omega, by omega, by omega,  hP⟩
/- yX3_nextRow -/
def zf_70 (Z : qz_Z) (a0b : Int) (a1 : Int) : qz_Z × Int := (zlet (zl_70_1 a0b a1 (((a1 - 2) - (-2)).toNat + 1) Z (a1 - 2)) (fun y2 => (if 0 ≤ y2 then (zlet (zl_70_2 a0b a1 y2 (((a1 - 1) - (-1)).toNat + 1) Z (a1 - 1)) (fun y5 => (zlet (zu Z 200 a0b 0 y2 (Z 200 a0b 0 y5)) (fun Z8 => (zlet (zu Z8 200 a0b 0 y5 (Z 200 a0b 0 y2)) (fun Z10 => (zlet3 (zl_70_3 a0b ((5 - (y2 + 1)).toNat + 1) Z10 (y2 + 1) (a1 - 1)) (fun Z13 y11 y12 => (Z13, 1))))))))) else (Z, 0))))
theorem sp_70 {s : zSM} {Z : qz_Z} {ν : qz_N} (hZ : zH s Z) (hs : s.1 = none) {n9 : Nat} (hn : ν.2.2.2.1 = n9) (a0b : Nat) (hSa0 : zSh ν a0b 50 5) (gAa0 : zA (0) 47 a0b Z) {a1 : Int} (ga1 : 0 ≤ a1 ∧ a1 ≤ 5) (hM : s.2 + 0 ≤ 1000000000) : ∃ (Z1 : qz_Z) (P : Int), (Z1, P) = zf_70 Z a0b a1 ∧ (qf_70 [.inr (.inr (some (200, a0b, 0))), .inl (i3 a1)] (zm Z ν) = some (zm Z1 ν, .inl (some (.inl (i3 P)))) ∧ zH s Z1 ∧ zL [] [a0b] n9 Z Z1 ∧ zU [] Z Z1 ∧ 0 ≤ P ∧ P ≤ 1 ∧ zA (0) 47 a0b Z1) := by
  obtain ⟨P, hP⟩ := zx (zf_70 Z a0b a1)
  refine zc_W (Q := fun Z1 P => zH s Z1 ∧ zL [] [a0b] n9 Z Z1 ∧ zU [] Z Z1 ∧ 0 ≤ P ∧ P ≤ 1 ∧ zA (0) 47 a0b Z1) hP (fw_70 (200, a0b, 0) (i3 a1) _ _ ?_)
  replace hP : zE P (zf_70 Z a0b a1) := hP
  unfold zf_70 at hP
  have r1 := hSa0.1
  refine sl_70_1 (ν := ν) hZ (zbh (c := 0) (k := 0) hM (Nat.le_of_ble_eq_true rfl)) a0b hSa0 gAa0 (x1 := a1) (by omega) (x2 := (a1 - 2)) (by omega) (by omega) (zconso rfl (zconso (zvo (rfl : i3 a1 = i3 a1)) (zconso (zvo (i3S (rfl : i3 a1 = i3 a1) (show (2 : Int32) = i3 2 from rfl))) (zconso rfl (zconso rfl (zconso rfl rfl)))))) rfl ?_
  intro L3 y2 hL3 gy2 gL3_0 q9
  replace hP := zl_e hP (Eq.symm q9)
  clear q9
  refine fc_70_6 _ (i3 a1) (i3 y2) _ _ _ _ hL3 ?_
  refine wz_br (i3Le (show (0 : Int32) = i3 0 from rfl) (rfl : i3 y2 = i3 y2) (by omega) (by omega) (by omega) (by omega)) (fun h4 => ?_) (fun h4 => ?_)
  · replace hP := zE_p hP h4
    refine sl_70_2 (ν := ν) hZ (zbh (c := 0) (k := 0) hM (Nat.le_of_ble_eq_true rfl)) a0b hSa0 gAa0 (x1 := a1) (by omega) (x2 := y2) (by omega) (x3 := (a1 - 1)) (by omega) (by omega) (zconso rfl (zconso (zvo (rfl : i3 a1 = i3 a1)) (zconso (zvo (rfl : i3 y2 = i3 y2)) (zconso (zvo (i3S (rfl : i3 a1 = i3 a1) (show (1 : Int32) = i3 1 from rfl))) (zconso rfl (zconso rfl rfl)))))) rfl ?_
    intro L6 y5 hL6 gy5 gL6_0 q9
    replace hP := zl_e hP (Eq.symm q9)
    clear q9
    refine fc_70_5 _ (i3 a1) (i3 y2) (i3 y5) _ _ _ _ hL6 ?_
    refine wz_i1 (by rw [zSh_t hSa0]; rfl) ?_
    refine wz_i0 (by rw [zSh_l hSa0]; exact i3O (n := 5) (rfl : i3 y2 = i3 y2) (by omega) (by omega) (by omega)) ?_
    refine wz_i1 (by rw [zSh_t hSa0]; rfl) ?_
    refine wz_i0 (by rw [zSh_l hSa0]; exact i3O (n := 5) (rfl : i3 y5 = i3 y5) (by omega) (by omega) (by omega)) ?_
    refine wz_i1 (by rw [zSh_t hSa0]; rfl) ?_
    refine wz_i0 (by rw [zSh_l hSa0]; exact i3O (n := 5) (rfl : i3 y2 = i3 y2) (by omega) (by omega) (by omega)) ?_
    have r7 := gAa0 y5
    obtain ⟨Z8, hZ8⟩ := zx (zu Z 200 a0b 0 y2 (Z 200 a0b 0 y5))
    replace hP := zl_e hP hZ8
    have hZ8I := zH_200 hZ hZ8 (by omega) hs
    have hZ8U : zU [] Z Z8 := zU_u zU_r hZ8 (Or.inl rfl)
    have hZ8K : zL [] [a0b] n9 Z Z8 := zL_a zL_r hZ8 (Or.inl (by simp))
    intro μ9 e9
    replace e9 := e9.trans (zm_wI (Z := Z) (ν := ν) hZ8 (rfl : ((a0b : Nat) : Int) = a0b) (show ((0 : Nat) : Int) = 0 from rfl) (i3I (y := y2) (rfl : i3 y2 = i3 y2) (by omega) (by omega) (by omega)) (zm_rd (Z := Z) (ν := ν) (k := 200) (rfl : ((a0b : Nat) : Int) = a0b) (show ((0 : Nat) : Int) = 0 from rfl) (i3I (y := y5) (rfl : i3 y5 = i3 y5) (by omega) (by omega) (by omega))))
    subst e9
    refine wz_i1 (by rw [zSh_t hSa0]; rfl) ?_
    refine wz_i0 (by rw [zSh_l hSa0]; exact i3O (n := 5) (rfl : i3 y5 = i3 y5) (by omega) (by omega) (by omega)) ?_
    have r9 := gAa0 y2
    obtain ⟨Z10, hZ10⟩ := zx (zu Z8 200 a0b 0 y5 (Z 200 a0b 0 y2))
    replace hP := zl_e hP hZ10
    have hZ10I := zH_200 hZ8I hZ10 (by omega) hs
    have hZ10U : zU [] Z Z10 := zU_u hZ8U hZ10 (Or.inl rfl)
    have hZ10K : zL [] [a0b] n9 Z Z10 := zL_a hZ8K hZ10 (Or.inl (by simp))
    intro μ9 e9
    replace e9 := e9.trans (zm_wI (Z := Z8) (ν := ν) hZ10 (rfl : ((a0b : Nat) : Int) = a0b) (show ((0 : Nat) : Int) = 0 from rfl) (i3I (y := y5) (rfl : i3 y5 = i3 y5) (by omega) (by omega) (by omega)) (zm_rd (Z := Z) (ν := ν) (k := 200) (rfl : ((a0b : Nat) : Int) = a0b) (show ((0 : Nat) : Int) = 0 from rfl) (i3I (y := y2) (rfl : i3 y2 = i3 y2) (by omega) (by omega) (by omega))))
    subst e9
    refine sl_70_3 (ν := ν) hZ10I (zbh (c := 0) (k := 0) hM (Nat.le_of_ble_eq_true rfl)) hs hn a0b hSa0 (zA_w (zA_w gAa0 hZ8 (by omega)) hZ10 (by omega)) (x4 := (y2 + 1)) (by omega) (x5 := (a1 - 1)) (by omega) zL_r zU_r  (zconso rfl (zconso rfl (zconso rfl (zconso rfl (zconso (zvo (i3A (rfl : i3 y2 = i3 y2) (show (1 : Int32) = i3 1 from rfl))) (zconso (zvo (i3S (rfl : i3 a1 = i3 a1) (show (1 : Int32) = i3 1 from rfl))) rfl)))))) rfl ?_
    intro L14 Z13 y11 y12 hL14 hZ13I kZ13 jZ13 aZ13_x0 gy11 gy12 q9
    replace hP := zl_e3 hP (Eq.symm q9)
    clear q9
    have hZ13U : zU [] Z Z13 := zU_t hZ10U jZ13 zU_b0
    have hZ13K : zL [] [a0b] n9 Z Z13 := zL_t hZ10K kZ13 (by decide) (zL_b1 (Or.inl (by simp)) zL_b0) (by omega)
    refine fc_70_4  _ _ _ _ hL14 ?_
    exact zlW hP (show (1 : Int32) = i3 1 from rfl) ⟨hZ13I, hZ13K, hZ13U, by omega, by omega, aZ13_x0⟩
  · replace hP := zE_n hP h4
    exact zlW hP (show (0 : Int32) = i3 0 from rfl) ⟨hZ, zL_r, zU_r, by omega, by omega, gAa0⟩
/- yX3_nextRow (2) -/
def zl_1070_1 (x0b : Int) (x1 : Int) : Nat → qz_Z → Int → Int
  | 0, Z, x2 => x2
  | m + 1, Z, x2 => (if x2 < 0 then x2 else (if (Z 200 x0b 0 x2) ≤ (Z 200 x0b 0 (1 + x2)) then x2 else zl_1070_1 x0b x1 m Z (x2 + (-1))))
theorem sl_1070_1 {s : zSM} {Z : qz_Z} {ν : qz_N} (hZ : zH s Z) (hM : s.2 + 0 ≤ 1000000000) (x0b : Nat) (hSx0 : zSh ν x0b 50 5) (gAx0 : zA (0) 4 x0b Z) {x1 : Int} (gx1 : 0 ≤ x1 ∧ x1 ≤ 5) {x2 : Int} (gx2 : -2 ≤ x2 ∧ x2 ≤ 3) (gr0 : x2 + 2 ≤ x1) {k : wz_K} {R : wz_R} {L : qz_L} (hL : qz_fg [true, true, true, false, false, false] L = [some (.inr (.inr (some (200, x0b, 0)))), some (.inl (i3 x1)), some (.inl (i3 x2)), none, none, none]) {T : Int} (hP : zE T (zl_1070_1 x0b x1 ((x2 - (-2)).toNat + 1) Z x2)) (hk : ∀ (L9 : qz_L) (yx2 : Int), qz_fg [true, true, true, false, false, false] L9 = [some (.inr (.inr (some (200, x0b, 0)))), some (.inl (i3 x1)), some (.inl (i3 yx2)), none, none, none] → (-2 ≤ yx2 ∧ yx2 ≤ 3) → (yx2 + 2 ≤ x1) → zE T (yx2) → k 0 (L9, [], zm Z ν)) : wz_loop qb_70_1 65536 k R (L, [], zm Z ν) := by
  refine wz_lp sb_70_1 (fun m x => ∃ x2 : Int, qz_fg [true, true, true, false, false, false] x.1 = [some (.inr (.inr (some (200, x0b, 0)))), some (.inl (i3 x1)), some (.inl (i3 x2)), none, none, none] ∧ x.2 = ([], zm Z ν) ∧ m = (x2 - (-2)).toNat ∧ (-2 ≤ x2 ∧ x2 ≤ 3) ∧ (x2 + 2 ≤ x1) ∧ zE T (zl_1070_1 x0b x1 (m + 1) Z x2)) ?_ 65536 ((x2 - (-2)).toNat) _ (by omega) ⟨x2, hL, rfl, rfl, gx2, gr0, hP⟩
  clear hP gr0 gx2 hL
  clear x2
  rintro m ⟨L, st, μ⟩ ⟨x2, hL, hx, hm, gx2, gr0, hP⟩
  cases hx
  refine fb_70_1 (200, x0b, 0) (i3 x1) (i3 x2) _ _ _ _ hL ?_
  refine wz_br (i3L (rfl : i3 x2 = i3 x2) (show (0 : Int32) = i3 0 from rfl) (by omega) (by omega) (by omega) (by omega)) (fun h1 => ?_) (fun h1 => ?_)
  · replace hP := zE_p hP h1
    exact hk _ _ (zconso rfl (zconso (zvo (rfl : i3 x1 = i3 x1)) (zconso (zvo (rfl : i3 x2 = i3 x2)) (zconso rfl (zconso rfl (zconso rfl rfl))))))  (by omega) (by omega) hP
  · replace hP := zE_n hP h1
    refine wz_i1 (by rw [zSh_t hSx0]; rfl) ?_
    refine wz_i0 (by rw [zSh_l hSx0]; exact i3O (n := 5) (rfl : i3 x2 = i3 x2) (by omega) (by omega) (by omega)) ?_
    refine wz_i1 (by rw [zSh_t hSx0]; rfl) ?_
    refine wz_i0 (by rw [zSh_l hSx0]; exact i3O (n := 5) (i3A (rfl : i3 x2 = i3 x2) (show (1 : Int32) = i3 1 from rfl)) (by omega) (by omega) (by omega)) ?_
    have r2 := gAx0 x2
    have r3 := gAx0 (1 + x2)
    refine wz_br (i3Le (zm_rd (Z := Z) (ν := ν) (k := 200) (rfl : ((x0b : Nat) : Int) = x0b) (show ((0 : Nat) : Int) = 0 from rfl) (i3I (y := x2) (rfl : i3 x2 = i3 x2) (by omega) (by omega) (by omega))) (zm_rd (Z := Z) (ν := ν) (k := 200) (rfl : ((x0b : Nat) : Int) = x0b) (show ((0 : Nat) : Int) = 0 from rfl) (i3I (y := (1 + x2)) (i3A (rfl : i3 x2 = i3 x2) (show (1 : Int32) = i3 1 from rfl)) (by omega) (by omega) (by omega))) (by omega) (by omega) (by omega) (by omega)) (fun h4 => ?_) (fun h4 => ?_)
    · replace hP := zE_p hP h4
      exact hk _ _ (zconso rfl (zconso (zvo (rfl : i3 x1 = i3 x1)) (zconso (zvo (rfl : i3 x2 = i3 x2)) (zconso rfl (zconso rfl (zconso rfl rfl))))))  (by omega) (by omega) hP
    · replace hP := zE_n hP h4
      obtain ⟨m2, rfl⟩ : ∃ m2, m = m2 + 1 := ⟨m - 1, by omega⟩
      exact wz_k1 ⟨m2, by omega, (x2 + (-1)), (zconso rfl (zconso (zvo (rfl : i3 x1 = i3 x1)) (zconso (zvo (i3A (rfl : i3 x2 = i3 x2) (show (-1 : Int32) = i3 (-1) from rfl))) (zconso rfl (zconso rfl (zconso rfl rfl)))))), rfl,  by omega, by omega, by omega,  hP⟩
/- yX3_nextRow (2) -/
def zl_1070_2 (x0b : Int) (x1 : Int) (x2 : Int) : Nat → qz_Z → Int → Int
  | 0, Z, x3 => x3
  | m + 1, Z, x3 => (if x3 ≤ (x2 + 1) then x3 else (if (Z 200 x0b 0 x2) ≤ (Z 200 x0b 0 x3) then x3 else zl_1070_2 x0b x1 x2 m Z (x3 + (-1))))
theorem sl_1070_2 {s : zSM} {Z : qz_Z} {ν : qz_N} (hZ : zH s Z) (hM : s.2 + 0 ≤ 1000000000) (x0b : Nat) (hSx0 : zSh ν x0b 50 5) (gAx0 : zA (0) 4 x0b Z) {x1 : Int} (gx1 : 0 ≤ x1 ∧ x1 ≤ 5) {x2 : Int} (gx2 : 0 ≤ x2 ∧ x2 ≤ 3) {x3 : Int} (gx3 : -1 ≤ x3 ∧ x3 ≤ 4) (gr0 : x2 + 1 ≤ x3) {k : wz_K} {R : wz_R} {L : qz_L} (hL : qz_fg [true, true, true, true, false, false] L = [some (.inr (.inr (some (200, x0b, 0)))), some (.inl (i3 x1)), some (.inl (i3 x2)), some (.inl (i3 x3)), none, none]) {T : Int} (hP : zE T (zl_1070_2 x0b x1 x2 ((x3 - (-1)).toNat + 1) Z x3)) (hk : ∀ (L9 : qz_L) (yx3 : Int), qz_fg [true, true, true, true, false, false] L9 = [some (.inr (.inr (some (200, x0b, 0)))), some (.inl (i3 x1)), some (.inl (i3 x2)), some (.inl (i3 yx3)), none, none] → (-1 ≤ yx3 ∧ yx3 ≤ 4) → (x2 + 1 ≤ yx3) → zE T (yx3) → k 0 (L9, [], zm Z ν)) : wz_loop qb_70_2 65536 k R (L, [], zm Z ν) := by
  refine wz_lp sb_70_2 (fun m x => ∃ x3 : Int, qz_fg [true, true, true, true, false, false] x.1 = [some (.inr (.inr (some (200, x0b, 0)))), some (.inl (i3 x1)), some (.inl (i3 x2)), some (.inl (i3 x3)), none, none] ∧ x.2 = ([], zm Z ν) ∧ m = (x3 - (-1)).toNat ∧ (-1 ≤ x3 ∧ x3 ≤ 4) ∧ (x2 + 1 ≤ x3) ∧ zE T (zl_1070_2 x0b x1 x2 (m + 1) Z x3)) ?_ 65536 ((x3 - (-1)).toNat) _ (by omega) ⟨x3, hL, rfl, rfl, gx3, gr0, hP⟩
  clear hP gr0 gx3 hL
  clear x3
  rintro m ⟨L, st, μ⟩ ⟨x3, hL, hx, hm, gx3, gr0, hP⟩
  cases hx
  refine fb_70_2 (200, x0b, 0) (i3 x1) (i3 x2) (i3 x3) _ _ _ _ hL ?_
  refine wz_br (i3Le (rfl : i3 x3 = i3 x3) (i3A (rfl : i3 x2 = i3 x2) (show (1 : Int32) = i3 1 from rfl)) (by omega) (by omega) (by omega) (by omega)) (fun h1 => ?_) (fun h1 => ?_)
  · replace hP := zE_p hP h1
    exact hk _ _ (zconso rfl (zconso (zvo (rfl : i3 x1 = i3 x1)) (zconso (zvo (rfl : i3 x2 = i3 x2)) (zconso (zvo (rfl : i3 x3 = i3 x3)) (zconso rfl (zconso rfl rfl))))))  (by omega) (by omega) hP
  · replace hP := zE_n hP h1
    refine wz_i1 (by rw [zSh_t hSx0]; rfl) ?_
    refine wz_i0 (by rw [zSh_l hSx0]; exact i3O (n := 5) (rfl : i3 x3 = i3 x3) (by omega) (by omega) (by omega)) ?_
    refine wz_i1 (by rw [zSh_t hSx0]; rfl) ?_
    refine wz_i0 (by rw [zSh_l hSx0]; exact i3O (n := 5) (rfl : i3 x2 = i3 x2) (by omega) (by omega) (by omega)) ?_
    have r2 := gAx0 x2
    have r3 := gAx0 x3
    refine wz_br (i3Le (zm_rd (Z := Z) (ν := ν) (k := 200) (rfl : ((x0b : Nat) : Int) = x0b) (show ((0 : Nat) : Int) = 0 from rfl) (i3I (y := x2) (rfl : i3 x2 = i3 x2) (by omega) (by omega) (by omega))) (zm_rd (Z := Z) (ν := ν) (k := 200) (rfl : ((x0b : Nat) : Int) = x0b) (show ((0 : Nat) : Int) = 0 from rfl) (i3I (y := x3) (rfl : i3 x3 = i3 x3) (by omega) (by omega) (by omega))) (by omega) (by omega) (by omega) (by omega)) (fun h4 => ?_) (fun h4 => ?_)
    · replace hP := zE_p hP h4
      exact hk _ _ (zconso rfl (zconso (zvo (rfl : i3 x1 = i3 x1)) (zconso (zvo (rfl : i3 x2 = i3 x2)) (zconso (zvo (rfl : i3 x3 = i3 x3)) (zconso rfl (zconso rfl rfl))))))  (by omega) (by omega) hP
    · replace hP := zE_n hP h4
      obtain ⟨m2, rfl⟩ : ∃ m2, m = m2 + 1 := ⟨m - 1, by omega⟩
      exact wz_k1 ⟨m2, by omega, (x3 + (-1)), (zconso rfl (zconso (zvo (rfl : i3 x1 = i3 x1)) (zconso (zvo (rfl : i3 x2 = i3 x2)) (zconso (zvo (i3A (rfl : i3 x3 = i3 x3) (show (-1 : Int32) = i3 (-1) from rfl))) (zconso rfl (zconso rfl rfl)))))), rfl,  by omega, by omega, by omega,  hP⟩
/- yX3_nextRow (2) -/
def zl_1070_3 (x0b : Int) : Nat → qz_Z → Int → Int → qz_Z × Int × Int
  | 0, Z, x4, x5 => (Z, x4, x5)
  | m + 1, Z, x4, x5 => (if x5 ≤ x4 then (Z, x4, x5) else (zlet (zu Z 200 x0b 0 x4 (Z 200 x0b 0 x5)) (fun Z4 => (zlet (zu Z4 200 x0b 0 x5 (Z 200 x0b 0 x4)) (fun Z6 => zl_1070_3 x0b m Z6 (x4 + 1) (x5 + (-1)))))))
theorem sl_1070_3 {s : zSM} {Zs Z : qz_Z} {ν : qz_N} (hZ : zH s Z) (hM : s.2 + 0 ≤ 1000000000) (hs : s.1 = none) {n9 : Nat} (hn : ν.2.2.2.1 = n9) (x0b : Nat) (hSx0 : zSh ν x0b 50 5) (gAx0 : zA (0) 4 x0b Z) {x4 : Int} (gx4 : 0 ≤ x4 ∧ x4 ≤ 5) {x5 : Int} (gx5 : -1 ≤ x5 ∧ x5 ≤ 4) (hK : zL [] [x0b] n9 Zs Z) (hU : zU [] Zs Z) {k : wz_K} {R : wz_R} {L : qz_L} (hL : qz_fg [true, false, false, false, true, true] L = [some (.inr (.inr (some (200, x0b, 0)))), none, none, none, some (.inl (i3 x4)), some (.inl (i3 x5))]) {T : qz_Z × Int × Int} (hP : zE T (zl_1070_3 x0b ((5 - x4).toNat + 1) Z x4 x5)) (hk : ∀ (L9 : qz_L) (Z9 : qz_Z) (yx4 yx5 : Int), qz_fg [false, false, false, false, false, false] L9 = [none, none, none, none, none, none] → zH s Z9 → zL [] [x0b] n9 Zs Z9 → zU [] Zs Z9 → zA (0) 4 x0b Z9 → (0 ≤ yx4 ∧ yx4 ≤ 5) → (-1 ≤ yx5 ∧ yx5 ≤ 4) → zE T ((Z9, yx4, yx5)) → k 0 (L9, [], zm Z9 ν)) : wz_loop qb_70_3 65536 k R (L, [], zm Z ν) := by
  refine wz_lp sb_70_3 (fun m x => ∃ Z : qz_Z, ∃ x4 : Int, ∃ x5 : Int, qz_fg [true, false, false, false, true, true] x.1 = [some (.inr (.inr (some (200, x0b, 0)))), none, none, none, some (.inl (i3 x4)), some (.inl (i3 x5))] ∧ x.2 = ([], zm Z ν) ∧ zH s Z ∧ zL [] [x0b] n9 Zs Z ∧ zU [] Zs Z ∧ zA (0) 4 x0b Z ∧ m = (5 - x4).toNat ∧ (0 ≤ x4 ∧ x4 ≤ 5) ∧ (-1 ≤ x5 ∧ x5 ≤ 4) ∧ zE T (zl_1070_3 x0b (m + 1) Z x4 x5)) ?_ 65536 ((5 - x4).toNat) _ (by omega) ⟨Z, x4, x5, hL, rfl, hZ, hK, hU, gAx0, rfl, gx4, gx5, hP⟩
  clear hP gx4 gx5 hZ hK hU gAx0 hL
  clear x4 x5
  clear Z
  rintro m ⟨L, st, μ⟩ ⟨Z, x4, x5, hL, hx, hZ, hK, hU, gAx0, hm, gx4, gx5, hP⟩
  cases hx
  refine fb_70_3 (200, x0b, 0) (i3 x4) (i3 x5) _ _ _ _ hL ?_
  have r1 := hSx0.1
  refine wz_br (i3Le (rfl : i3 x5 = i3 x5) (rfl : i3 x4 = i3 x4) (by omega) (by omega) (by omega) (by omega)) (fun h2 => ?_) (fun h2 => ?_)
  · replace hP := zE_p hP h2
    exact hk _ _ _ _ (zconso rfl (zconso rfl (zconso rfl (zconso rfl (zconso rfl (zconso rfl rfl)))))) hZ hK hU gAx0 (by omega) (by omega)  hP
  · replace hP := zE_n hP h2
    refine wz_i1 (by rw [zSh_t hSx0]; rfl) ?_
    refine wz_i0 (by rw [zSh_l hSx0]; exact i3O (n := 5) (rfl : i3 x4 = i3 x4) (by omega) (by omega) (by omega)) ?_
    refine wz_i1 (by rw [zSh_t hSx0]; rfl) ?_
    refine wz_i0 (by rw [zSh_l hSx0]; exact i3O (n := 5) (rfl : i3 x5 = i3 x5) (by omega) (by omega) (by omega)) ?_
    refine wz_i1 (by rw [zSh_t hSx0]; rfl) ?_
    refine wz_i0 (by rw [zSh_l hSx0]; exact i3O (n := 5) (rfl : i3 x4 = i3 x4) (by omega) (by omega) (by omega)) ?_
    have r3 := gAx0 x5
    obtain ⟨Z4, hZ4⟩ := zx (zu Z 200 x0b 0 x4 (Z 200 x0b 0 x5))
    replace hP := zl_e hP hZ4
    have hZ4I := zH_200 hZ hZ4 (by omega) hs
    have hZ4U : zU [] Zs Z4 := zU_u hU hZ4 (Or.inl rfl)
    have hZ4K : zL [] [x0b] n9 Zs Z4 := zL_a hK hZ4 (Or.inl (by simp))
    intro μ9 e9
    replace e9 := e9.trans (zm_wI (Z := Z) (ν := ν) hZ4 (rfl : ((x0b : Nat) : Int) = x0b) (show ((0 : Nat) : Int) = 0 from rfl) (i3I (y := x4) (rfl : i3 x4 = i3 x4) (by omega) (by omega) (by omega)) (zm_rd (Z := Z) (ν := ν) (k := 200) (rfl : ((x0b : Nat) : Int) = x0b) (show ((0 : Nat) : Int) = 0 from rfl) (i3I (y := x5) (rfl : i3 x5 = i3 x5) (by omega) (by omega) (by omega))))
    subst e9
    refine wz_i1 (by rw [zSh_t hSx0]; rfl) ?_
    refine wz_i0 (by rw [zSh_l hSx0]; exact i3O (n := 5) (rfl : i3 x5 = i3 x5) (by omega) (by omega) (by omega)) ?_
    have r5 := gAx0 x4
    obtain ⟨Z6, hZ6⟩ := zx (zu Z4 200 x0b 0 x5 (Z 200 x0b 0 x4))
    replace hP := zl_e hP hZ6
    have hZ6I := zH_200 hZ4I hZ6 (by omega) hs
    have hZ6U : zU [] Zs Z6 := zU_u hZ4U hZ6 (Or.inl rfl)
    have hZ6K : zL [] [x0b] n9 Zs Z6 := zL_a hZ4K hZ6 (Or.inl (by simp))
    intro μ9 e9
    replace e9 := e9.trans (zm_wI (Z := Z4) (ν := ν) hZ6 (rfl : ((x0b : Nat) : Int) = x0b) (show ((0 : Nat) : Int) = 0 from rfl) (i3I (y := x5) (rfl : i3 x5 = i3 x5) (by omega) (by omega) (by omega)) (zm_rd (Z := Z) (ν := ν) (k := 200) (rfl : ((x0b : Nat) : Int) = x0b) (show ((0 : Nat) : Int) = 0 from rfl) (i3I (y := x4) (rfl : i3 x4 = i3 x4) (by omega) (by omega) (by omega))))
    subst e9
    obtain ⟨m2, rfl⟩ : ∃ m2, m = m2 + 1 := ⟨m - 1, by omega⟩
    exact wz_k1 ⟨m2, by omega, Z6, (x4 + 1), (x5 + (-1)), (zconso rfl (zconso rfl (zconso rfl (zconso rfl (zconso (zvo (i3A (rfl : i3 x4 = i3 x4) (show (1 : Int32) = i3 1 from rfl))) (zconso (zvo (i3A (rfl : i3 x5 = i3 x5) (show (-1 : Int32) = i3 (-1) from rfl))) rfl)))))), rfl, hZ6I, hZ6K, hZ6U, (zA_w (zA_w gAx0 hZ4 (by omega)) hZ6 (by omega)), by omega, by omega, by omega,  hP⟩
/- yX3_nextRow (2) -/
def zf_1070 (Z : qz_Z) (a0b : Int) (a1 : Int) : qz_Z × Int := (zlet (zl_1070_1 a0b a1 (((a1 - 2) - (-2)).toNat + 1) Z (a1 - 2)) (fun y2 => (if 0 ≤ y2 then (zlet (zl_1070_2 a0b a1 y2 (((a1 - 1) - (-1)).toNat + 1) Z (a1 - 1)) (fun y5 => (zlet (zu Z 200 a0b 0 y2 (Z 200 a0b 0 y5)) (fun Z8 => (zlet (zu Z8 200 a0b 0 y5 (Z 200 a0b 0 y2)) (fun Z10 => (zlet3 (zl_1070_3 a0b ((5 - (y2 + 1)).toNat + 1) Z10 (y2 + 1) (a1 - 1)) (fun Z13 y11 y12 => (Z13, 1))))))))) else (Z, 0))))
theorem sp_1070 {s : zSM} {Z : qz_Z} {ν : qz_N} (hZ : zH s Z) (hs : s.1 = none) {n9 : Nat} (hn : ν.2.2.2.1 = n9) (a0b : Nat) (hSa0 : zSh ν a0b 50 5) (gAa0 : zA (0) 4 a0b Z) {a1 : Int} (ga1 : 0 ≤ a1 ∧ a1 ≤ 5) (hM : s.2 + 0 ≤ 1000000000) : ∃ (Z1 : qz_Z) (P : Int), (Z1, P) = zf_1070 Z a0b a1 ∧ (qf_70 [.inr (.inr (some (200, a0b, 0))), .inl (i3 a1)] (zm Z ν) = some (zm Z1 ν, .inl (some (.inl (i3 P)))) ∧ zH s Z1 ∧ zL [] [a0b] n9 Z Z1 ∧ zU [] Z Z1 ∧ 0 ≤ P ∧ P ≤ 1 ∧ zA (0) 4 a0b Z1) := by
  obtain ⟨P, hP⟩ := zx (zf_1070 Z a0b a1)
  refine zc_W (Q := fun Z1 P => zH s Z1 ∧ zL [] [a0b] n9 Z Z1 ∧ zU [] Z Z1 ∧ 0 ≤ P ∧ P ≤ 1 ∧ zA (0) 4 a0b Z1) hP (fw_70 (200, a0b, 0) (i3 a1) _ _ ?_)
  replace hP : zE P (zf_1070 Z a0b a1) := hP
  unfold zf_1070 at hP
  have r1 := hSa0.1
  refine sl_1070_1 (ν := ν) hZ (zbh (c := 0) (k := 0) hM (Nat.le_of_ble_eq_true rfl)) a0b hSa0 gAa0 (x1 := a1) (by omega) (x2 := (a1 - 2)) (by omega) (by omega) (zconso rfl (zconso (zvo (rfl : i3 a1 = i3 a1)) (zconso (zvo (i3S (rfl : i3 a1 = i3 a1) (show (2 : Int32) = i3 2 from rfl))) (zconso rfl (zconso rfl (zconso rfl rfl)))))) rfl ?_
  intro L3 y2 hL3 gy2 gL3_0 q9
  replace hP := zl_e hP (Eq.symm q9)
  clear q9
  refine fc_70_6 _ (i3 a1) (i3 y2) _ _ _ _ hL3 ?_
  refine wz_br (i3Le (show (0 : Int32) = i3 0 from rfl) (rfl : i3 y2 = i3 y2) (by omega) (by omega) (by omega) (by omega)) (fun h4 => ?_) (fun h4 => ?_)
  · replace hP := zE_p hP h4
    refine sl_1070_2 (ν := ν) hZ (zbh (c := 0) (k := 0) hM (Nat.le_of_ble_eq_true rfl)) a0b hSa0 gAa0 (x1 := a1) (by omega) (x2 := y2) (by omega) (x3 := (a1 - 1)) (by omega) (by omega) (zconso rfl (zconso (zvo (rfl : i3 a1 = i3 a1)) (zconso (zvo (rfl : i3 y2 = i3 y2)) (zconso (zvo (i3S (rfl : i3 a1 = i3 a1) (show (1 : Int32) = i3 1 from rfl))) (zconso rfl (zconso rfl rfl)))))) rfl ?_
    intro L6 y5 hL6 gy5 gL6_0 q9
    replace hP := zl_e hP (Eq.symm q9)
    clear q9
    refine fc_70_5 _ (i3 a1) (i3 y2) (i3 y5) _ _ _ _ hL6 ?_
    refine wz_i1 (by rw [zSh_t hSa0]; rfl) ?_
    refine wz_i0 (by rw [zSh_l hSa0]; exact i3O (n := 5) (rfl : i3 y2 = i3 y2) (by omega) (by omega) (by omega)) ?_
    refine wz_i1 (by rw [zSh_t hSa0]; rfl) ?_
    refine wz_i0 (by rw [zSh_l hSa0]; exact i3O (n := 5) (rfl : i3 y5 = i3 y5) (by omega) (by omega) (by omega)) ?_
    refine wz_i1 (by rw [zSh_t hSa0]; rfl) ?_
    refine wz_i0 (by rw [zSh_l hSa0]; exact i3O (n := 5) (rfl : i3 y2 = i3 y2) (by omega) (by omega) (by omega)) ?_
    have r7 := gAa0 y5
    obtain ⟨Z8, hZ8⟩ := zx (zu Z 200 a0b 0 y2 (Z 200 a0b 0 y5))
    replace hP := zl_e hP hZ8
    have hZ8I := zH_200 hZ hZ8 (by omega) hs
    have hZ8U : zU [] Z Z8 := zU_u zU_r hZ8 (Or.inl rfl)
    have hZ8K : zL [] [a0b] n9 Z Z8 := zL_a zL_r hZ8 (Or.inl (by simp))
    intro μ9 e9
    replace e9 := e9.trans (zm_wI (Z := Z) (ν := ν) hZ8 (rfl : ((a0b : Nat) : Int) = a0b) (show ((0 : Nat) : Int) = 0 from rfl) (i3I (y := y2) (rfl : i3 y2 = i3 y2) (by omega) (by omega) (by omega)) (zm_rd (Z := Z) (ν := ν) (k := 200) (rfl : ((a0b : Nat) : Int) = a0b) (show ((0 : Nat) : Int) = 0 from rfl) (i3I (y := y5) (rfl : i3 y5 = i3 y5) (by omega) (by omega) (by omega))))
    subst e9
    refine wz_i1 (by rw [zSh_t hSa0]; rfl) ?_
    refine wz_i0 (by rw [zSh_l hSa0]; exact i3O (n := 5) (rfl : i3 y5 = i3 y5) (by omega) (by omega) (by omega)) ?_
    have r9 := gAa0 y2
    obtain ⟨Z10, hZ10⟩ := zx (zu Z8 200 a0b 0 y5 (Z 200 a0b 0 y2))
    replace hP := zl_e hP hZ10
    have hZ10I := zH_200 hZ8I hZ10 (by omega) hs
    have hZ10U : zU [] Z Z10 := zU_u hZ8U hZ10 (Or.inl rfl)
    have hZ10K : zL [] [a0b] n9 Z Z10 := zL_a hZ8K hZ10 (Or.inl (by simp))
    intro μ9 e9
    replace e9 := e9.trans (zm_wI (Z := Z8) (ν := ν) hZ10 (rfl : ((a0b : Nat) : Int) = a0b) (show ((0 : Nat) : Int) = 0 from rfl) (i3I (y := y5) (rfl : i3 y5 = i3 y5) (by omega) (by omega) (by omega)) (zm_rd (Z := Z) (ν := ν) (k := 200) (rfl : ((a0b : Nat) : Int) = a0b) (show ((0 : Nat) : Int) = 0 from rfl) (i3I (y := y2) (rfl : i3 y2 = i3 y2) (by omega) (by omega) (by omega))))
    subst e9
    refine sl_1070_3 (ν := ν) hZ10I (zbh (c := 0) (k := 0) hM (Nat.le_of_ble_eq_true rfl)) hs hn a0b hSa0 (zA_w (zA_w gAa0 hZ8 (by omega)) hZ10 (by omega)) (x4 := (y2 + 1)) (by omega) (x5 := (a1 - 1)) (by omega) zL_r zU_r  (zconso rfl (zconso rfl (zconso rfl (zconso rfl (zconso (zvo (i3A (rfl : i3 y2 = i3 y2) (show (1 : Int32) = i3 1 from rfl))) (zconso (zvo (i3S (rfl : i3 a1 = i3 a1) (show (1 : Int32) = i3 1 from rfl))) rfl)))))) rfl ?_
    intro L14 Z13 y11 y12 hL14 hZ13I kZ13 jZ13 aZ13_x0 gy11 gy12 q9
    replace hP := zl_e3 hP (Eq.symm q9)
    clear q9
    have hZ13U : zU [] Z Z13 := zU_t hZ10U jZ13 zU_b0
    have hZ13K : zL [] [a0b] n9 Z Z13 := zL_t hZ10K kZ13 (by decide) (zL_b1 (Or.inl (by simp)) zL_b0) (by omega)
    refine fc_70_4  _ _ _ _ hL14 ?_
    exact zlW hP (show (1 : Int32) = i3 1 from rfl) ⟨hZ13I, hZ13K, hZ13U, by omega, by omega, aZ13_x0⟩
  · replace hP := zE_n hP h4
    exact zlW hP (show (0 : Int32) = i3 0 from rfl) ⟨hZ, zL_r, zU_r, by omega, by omega, gAa0⟩
/- yX1_asks -/
def zf_14 (Z : qz_Z) (a0b : Int) (a1b : Int) (a1ij : Int) : Int := (if (Z 46 a1b a1ij 6) ≤ 0 then 0 else (if (Z 45 a0b (Z 46 a1b a1ij 0) 7) ≠ 0 then 0 else (if (z2 (fun x y => x &&& y) (z2 (fun x y => x >>> (y &&& 31)) (Z 46 a1b a1ij 5) (((Z 11 a0b 0 13) / 24) % 7)) 1) ≠ 1 then 0 else 1)))
theorem sp_14 {s : zSM} {Z : qz_Z} {ν : qz_N} (hZ : zH s Z) (a0b : Nat) (a1b : Nat) (a1i : Nat) {a1ij : Int} (ea1i : (a1i : Int) = a1ij) (ga1i : 0 ≤ a1ij ∧ a1ij ≤ 23) (hM : s.2 + 0 ≤ 1000000000) : ∃ P : Int, P = zf_14 Z a0b a1b a1ij ∧ (qf_14 [.inr (.inr (some (10, a0b, 0))), .inr (.inr (some (46, a1b, a1i)))] (zm Z ν) = some (zm Z ν, .inl (some (.inl (i3 P)))) ∧ 0 ≤ P ∧ P ≤ 1) := by
  obtain ⟨P, hP⟩ := zx (zf_14 Z a0b a1b a1ij)
  refine zc_R (Q := fun P => 0 ≤ P ∧ P ≤ 1) hP (fw_14 a0b a1b a1i _ _ ?_)
  replace hP : zE P (zf_14 Z a0b a1b a1ij) := hP
  unfold zf_14 at hP
  have r1 := zH_k hZ 46 a1b a1ij 6 (lo := 0) (hi := 99) (by decide) rfl
  refine wz_br (i3Le (zm_rd (Z := Z) (ν := ν) (k := 46) (rfl : ((a1b : Nat) : Int) = a1b) ea1i (show ((6 : Nat) : Int) = 6 from rfl)) (show (0 : Int32) = i3 0 from rfl) (by omega) (by omega) (by omega) (by omega)) (fun h2 => ?_) (fun h2 => ?_)
  · replace hP := zE_p hP h2
    exact zlR hP (show (0 : Int32) = i3 0 from rfl) ⟨by omega, by omega⟩
  · replace hP := zE_n hP h2
    have r3 := zH_k hZ 46 a1b a1ij 0 (lo := 0) (hi := 7) (by decide) rfl
    refine wz_i0 (i3O (n := 8) (zm_rd (Z := Z) (ν := ν) (k := 46) (rfl : ((a1b : Nat) : Int) = a1b) ea1i (show ((0 : Nat) : Int) = 0 from rfl)) (by omega) (by omega) (by omega)) ?_
    have r4 := zH_k hZ 45 a0b (Z 46 a1b a1ij 0) 7 (lo := 0) (hi := 1) (by decide) rfl
    refine wz_br (i3NE (zm_rd (Z := Z) (ν := ν) (k := 45) (rfl : ((a0b : Nat) : Int) = a0b) (i3I (y := (Z 46 a1b a1ij 0)) (zm_rd (Z := Z) (ν := ν) (k := 46) (rfl : ((a1b : Nat) : Int) = a1b) ea1i (show ((0 : Nat) : Int) = 0 from rfl)) (by omega) (by omega) (by omega)) (show ((7 : Nat) : Int) = 7 from rfl)) (show (0 : Int32) = i3 0 from rfl) (by omega) (by omega) (by omega) (by omega)) (fun h5 => ?_) (fun h5 => ?_)
    · replace hP := zE_p hP h5
      exact zlR hP (show (0 : Int32) = i3 0 from rfl) ⟨by omega, by omega⟩
    · replace hP := zE_n hP h5
      have r6 := zH_k hZ 46 a1b a1ij 5 (lo := 0) (hi := 127) (by decide) rfl
      have r7 := zH_k hZ 11 a0b 0 13 (lo := 0) (hi := 671) (by decide) rfl
      have r8 := z2_r (fun x y => x >>> (y &&& 31)) (Z 46 a1b a1ij 5) (((Z 11 a0b 0 13) / 24) % 7)
      have r9 := z2_r (fun x y => x &&& y) (z2 (fun x y => x >>> (y &&& 31)) (Z 46 a1b a1ij 5) (((Z 11 a0b 0 13) / 24) % 7)) 1
      have r10 := z2_and (z2 (fun x y => x >>> (y &&& 31)) (Z 46 a1b a1ij 5) (((Z 11 a0b 0 13) / 24) % 7)) (y := 1) (by omega) (by omega)
      refine wz_br (i3NE (i3Z (fun x y => x &&& y) (i3Z (fun x y => x >>> (y &&& 31)) (zm_rd (Z := Z) (ν := ν) (k := 46) (rfl : ((a1b : Nat) : Int) = a1b) ea1i (show ((5 : Nat) : Int) = 5 from rfl)) (i3R (i3D (zm_rd (Z := Z) (ν := ν) (k := 11) (rfl : ((a0b : Nat) : Int) = a0b) (show ((0 : Nat) : Int) = 0 from rfl) (show ((13 : Nat) : Int) = 13 from rfl)) (show (24 : Int32) = i3 24 from rfl) (by omega) (by omega) (by omega) (by omega)) (show (7 : Int32) = i3 7 from rfl) (by omega) (by omega) (by omega) (by omega))) (show (1 : Int32) = i3 1 from rfl)) (show (1 : Int32) = i3 1 from rfl) (by omega) (by omega) (by omega) (by omega)) (fun h11 => ?_) (fun h11 => ?_)
      · replace hP := zE_p hP h11
        exact zlR hP (show (0 : Int32) = i3 0 from rfl) ⟨by omega, by omega⟩
      · replace hP := zE_n hP h11
        exact zlR hP (show (1 : Int32) = i3 1 from rfl) ⟨by omega, by omega⟩
/- yX1_suits -/
def zf_33 (Z : qz_Z) (a0b a0ij : Int) (a1b a1ij : Int) : Int := (if (Z 44 a1b a1ij 4) ≤ 0 then 0 else (if (Z 44 a1b a1ij 9) = (-1) then 0 else (if (Z 46 a0b a0ij 2) < (Z 44 a1b a1ij 9) then 0 else (if (Z 44 a1b a1ij 1) ≠ (Z 46 a0b a0ij 1) then 0 else 1))))
theorem sp_33 {s : zSM} {Z : qz_Z} {ν : qz_N} (hZ : zH s Z) (a0b : Nat) (a0i : Nat) {a0ij : Int} (ea0i : (a0i : Int) = a0ij) (ga0i : 0 ≤ a0ij ∧ a0ij ≤ 23) (a1b : Nat) (a1i : Nat) {a1ij : Int} (ea1i : (a1i : Int) = a1ij) (ga1i : 0 ≤ a1ij ∧ a1ij ≤ 47) (hM : s.2 + 0 ≤ 1000000000) : ∃ P : Int, P = zf_33 Z a0b a0ij a1b a1ij ∧ (qf_33 [.inr (.inr (some (46, a0b, a0i))), .inr (.inr (some (44, a1b, a1i)))] (zm Z ν) = some (zm Z ν, .inl (some (.inl (i3 P)))) ∧ 0 ≤ P ∧ P ≤ 1) := by
  obtain ⟨P, hP⟩ := zx (zf_33 Z a0b a0ij a1b a1ij)
  refine zc_R (Q := fun P => 0 ≤ P ∧ P ≤ 1) hP (fw_33 (46, a0b, a0i) (44, a1b, a1i) _ _ ?_)
  replace hP : zE P (zf_33 Z a0b a0ij a1b a1ij) := hP
  unfold zf_33 at hP
  refine wz_i1 rfl ?_
  refine wz_i0 (i3O (n := 16) (show (4 : Int32) = i3 4 from rfl) (by omega) (by omega) (by omega)) ?_
  have r1 := zH_k hZ 44 a1b a1ij 4 (lo := 0) (hi := 40) (by decide) rfl
  refine wz_br (i3Le (zm_rd (Z := Z) (ν := ν) (k := 44) (rfl : ((a1b : Nat) : Int) = a1b) ea1i (show ((4 : Nat) : Int) = 4 from rfl)) (show (0 : Int32) = i3 0 from rfl) (by omega) (by omega) (by omega) (by omega)) (fun h2 => ?_) (fun h2 => ?_)
  · replace hP := zE_p hP h2
    exact zlR hP (show (0 : Int32) = i3 0 from rfl) ⟨by omega, by omega⟩
  · replace hP := zE_n hP h2
    refine wz_i1 rfl ?_
    refine wz_i0 (i3O (n := 16) (show (9 : Int32) = i3 9 from rfl) (by omega) (by omega) (by omega)) ?_
    have r3 := zH_k hZ 44 a1b a1ij 9 (lo := -1) (hi := 3) (by decide) rfl
    refine wz_br (i3E (zm_rd (Z := Z) (ν := ν) (k := 44) (rfl : ((a1b : Nat) : Int) = a1b) ea1i (show ((9 : Nat) : Int) = 9 from rfl)) (show (-1 : Int32) = i3 (-1) from rfl) (by omega) (by omega) (by omega) (by omega)) (fun h4 => ?_) (fun h4 => ?_)
    · replace hP := zE_p hP h4
      exact zlR hP (show (0 : Int32) = i3 0 from rfl) ⟨by omega, by omega⟩
    · replace hP := zE_n hP h4
      refine wz_i1 rfl ?_
      refine wz_i0 (i3O (n := 16) (show (9 : Int32) = i3 9 from rfl) (by omega) (by omega) (by omega)) ?_
      refine wz_i1 rfl ?_
      refine wz_i0 (i3O (n := 10) (show (2 : Int32) = i3 2 from rfl) (by omega) (by omega) (by omega)) ?_
      have r5 := zH_k hZ 46 a0b a0ij 2 (lo := 0) (hi := 3) (by decide) rfl
      refine wz_br (i3L (zm_rd (Z := Z) (ν := ν) (k := 46) (rfl : ((a0b : Nat) : Int) = a0b) ea0i (show ((2 : Nat) : Int) = 2 from rfl)) (zm_rd (Z := Z) (ν := ν) (k := 44) (rfl : ((a1b : Nat) : Int) = a1b) ea1i (show ((9 : Nat) : Int) = 9 from rfl)) (by omega) (by omega) (by omega) (by omega)) (fun h6 => ?_) (fun h6 => ?_)
      · replace hP := zE_p hP h6
        exact zlR hP (show (0 : Int32) = i3 0 from rfl) ⟨by omega, by omega⟩
      · replace hP := zE_n hP h6
        refine wz_i1 rfl ?_
        refine wz_i0 (i3O (n := 16) (show (1 : Int32) = i3 1 from rfl) (by omega) (by omega) (by omega)) ?_
        refine wz_i1 rfl ?_
        refine wz_i0 (i3O (n := 10) (show (1 : Int32) = i3 1 from rfl) (by omega) (by omega) (by omega)) ?_
        have r7 := zH_k hZ 44 a1b a1ij 1 (lo := 0) (hi := 4) (by decide) rfl
        have r8 := zH_k hZ 46 a0b a0ij 1 (lo := 0) (hi := 4) (by decide) rfl
        refine wz_br (i3NE (zm_rd (Z := Z) (ν := ν) (k := 44) (rfl : ((a1b : Nat) : Int) = a1b) ea1i (show ((1 : Nat) : Int) = 1 from rfl)) (zm_rd (Z := Z) (ν := ν) (k := 46) (rfl : ((a0b : Nat) : Int) = a0b) ea0i (show ((1 : Nat) : Int) = 1 from rfl)) (by omega) (by omega) (by omega) (by omega)) (fun h9 => ?_) (fun h9 => ?_)
        · replace hP := zE_p hP h9
          exact zlR hP (show (0 : Int32) = i3 0 from rfl) ⟨by omega, by omega⟩
        · replace hP := zE_n hP h9
          exact zlR hP (show (1 : Int32) = i3 1 from rfl) ⟨by omega, by omega⟩
/- yX1_highestPrice -/
def zl_26_1 (x0b : Int) (x1b : Int) (x1ij : Int) : Nat → qz_Z → Int → Int → Int × Int
  | 0, Z, x2, x3 => (x2, x3)
  | m + 1, Z, x2, x3 => (if (Z 11 x0b 0 5) ≤ x3 then (x2, x3) else (zlet (zf_14 Z x0b x0b x3) (fun v3 => (if v3 = 0 then zl_26_1 x0b x1b x1ij m Z x2 (x3 + 1) else (if 60 ≤ (Z 11 x0b 0 6) then zl_26_1 x0b x1b x1ij m Z (max x2 0) (x3 + 1) else (zlet (zf_33 Z x0b x3 x1b x1ij) (fun v7 => (if v7 ≠ 0 then zl_26_1 x0b x1b x1ij m Z (max x2 (max 0 (min (w3 ((w3 ((Z 45 x0b (Z 46 x0b x3 0) 1) + (Z 45 x0b (Z 46 x0b x3 0) 3))) - (Z 45 x0b (Z 46 x0b x3 0) 4))) (Z 46 x0b x3 4)))) (x3 + 1) else zl_26_1 x0b x1b x1ij m Z (max x2 0) (x3 + 1)))))))))
theorem sl_26_1 {s : zSM} {Z : qz_Z} {ν : qz_N} (hZ : zH s Z) (hM : s.2 + 0 ≤ 1000000000) (x0b : Nat) (x1b : Nat) (x1i : Nat) {x1ij : Int} (ex1i : (x1i : Int) = x1ij) (gx1ij : 0 ≤ x1ij ∧ x1ij ≤ 47) {x2 : Int} (gx2 : 0 ≤ x2 ∧ x2 ≤ 9999) {x3 : Int} (gx3 : 0 ≤ x3 ∧ x3 ≤ 24) {k : wz_K} {R : wz_R} {L : qz_L} (hL : qz_fg [true, true, true, true] L = [some (.inr (.inr (some (10, x0b, 0)))), some (.inr (.inr (some (44, x1b, x1i)))), some (.inl (i3 x2)), some (.inl (i3 x3))]) {T : Int × Int} (hP : zE T (zl_26_1 x0b x1b x1ij ((24 - x3).toNat + 1) Z x2 x3)) (hk : ∀ (L9 : qz_L) (yx2 yx3 : Int), qz_fg [false, false, true, false] L9 = [none, none, some (.inl (i3 yx2)), none] → (0 ≤ yx2 ∧ yx2 ≤ 9999) → (0 ≤ yx3 ∧ yx3 ≤ 24) → zE T ((yx2, yx3)) → k 0 (L9, [], zm Z ν)) : wz_loop qb_26_1 65536 k R (L, [], zm Z ν) := by
  refine wz_lp sb_26_1 (fun m x => ∃ x2 : Int, ∃ x3 : Int, qz_fg [true, true, true, true] x.1 = [some (.inr (.inr (some (10, x0b, 0)))), some (.inr (.inr (some (44, x1b, x1i)))), some (.inl (i3 x2)), some (.inl (i3 x3))] ∧ x.2 = ([], zm Z ν) ∧ m = (24 - x3).toNat ∧ (0 ≤ x2 ∧ x2 ≤ 9999) ∧ (0 ≤ x3 ∧ x3 ≤ 24) ∧ zE T (zl_26_1 x0b x1b x1ij (m + 1) Z x2 x3)) ?_ 65536 ((24 - x3).toNat) _ (by omega) ⟨x2, x3, hL, rfl, rfl, gx2, gx3, hP⟩
  clear hP gx2 gx3 hL
  clear x2 x3
  rintro m ⟨L, st, μ⟩ ⟨x2, x3, hL, hx, hm, gx2, gx3, hP⟩
  cases hx
  refine fb_26_1 x0b x1b x1i (i3 x2) (i3 x3) _ _ _ _ hL ?_
  have r1 := zH_k hZ 11 x0b 0 5 (lo := 0) (hi := 24) (by decide) rfl
  refine wz_br (i3Le (zm_rd (Z := Z) (ν := ν) (k := 11) (rfl : ((x0b : Nat) : Int) = x0b) (show ((0 : Nat) : Int) = 0 from rfl) (show ((5 : Nat) : Int) = 5 from rfl)) (rfl : i3 x3 = i3 x3) (by omega) (by omega) (by omega) (by omega)) (fun h2 => ?_) (fun h2 => ?_)
  · replace hP := zE_p hP h2
    exact hk _ _ _ (zconso rfl (zconso rfl (zconso (zvo (rfl : i3 x2 = i3 x2)) (zconso rfl rfl))))  (by omega) (by omega)  hP
  · replace hP := zE_n hP h2
    refine wz_i0 (i3O (n := 24) (rfl : i3 x3 = i3 x3) (by omega) (by omega) (by omega)) ?_
    obtain ⟨v3, hv3, c9, lv3, uv3⟩ := sp_14 (ν := ν) hZ x0b x0b _ (i3I (y := x3) (rfl : i3 x3 = i3 x3) (by omega) (by omega) (by omega)) (by omega) (zbh (c := 0) (k := 0) hM (Nat.le_of_ble_eq_true rfl))
    replace hP := zl_e hP hv3
    refine wz_cI_of (zas (zcons rfl (zcons rfl rfl)) c9) ?_
    clear c9
    refine wz_br (i3E (rfl : i3 v3 = i3 v3) (show (0 : Int32) = i3 0 from rfl) (by omega) (by omega) (by omega) (by omega)) (fun h4 => ?_) (fun h4 => ?_)
    · replace hP := zE_p hP h4
      obtain ⟨m2, rfl⟩ : ∃ m2, m = m2 + 1 := ⟨m - 1, by omega⟩
      exact wz_k1 ⟨m2, by omega, x2, (x3 + 1), (zconso rfl (zconso rfl (zconso (zvo (rfl : i3 x2 = i3 x2)) (zconso (zvo (i3A (rfl : i3 x3 = i3 x3) (show (1 : Int32) = i3 1 from rfl))) rfl)))), rfl,  by omega, by omega, by omega,  hP⟩
    · replace hP := zE_n hP h4
      refine wz_i0 (i3O (n := 24) (rfl : i3 x3 = i3 x3) (by omega) (by omega) (by omega)) ?_
      have r5 := zH_k hZ 11 x0b 0 6 (lo := 0) (hi := 60) (by decide) rfl
      refine wz_br (i3Le (show (60 : Int32) = i3 60 from rfl) (zm_rd (Z := Z) (ν := ν) (k := 11) (rfl : ((x0b : Nat) : Int) = x0b) (show ((0 : Nat) : Int) = 0 from rfl) (show ((6 : Nat) : Int) = 6 from rfl)) (by omega) (by omega) (by omega) (by omega)) (fun h6 => ?_) (fun h6 => ?_)
      · replace hP := zE_p hP h6
        obtain ⟨m2, rfl⟩ : ∃ m2, m = m2 + 1 := ⟨m - 1, by omega⟩
        exact wz_k1 ⟨m2, by omega, (max x2 0), (x3 + 1), (zconso rfl (zconso rfl (zconso (zvo (i3Mx (rfl : i3 x2 = i3 x2) (show (0 : Int32) = i3 0 from rfl) (by omega) (by omega) (by omega) (by omega))) (zconso (zvo (i3A (rfl : i3 x3 = i3 x3) (show (1 : Int32) = i3 1 from rfl))) rfl)))), rfl,  by omega, by omega, by omega,  hP⟩
      · replace hP := zE_n hP h6
        obtain ⟨v7, hv7, c9, lv7, uv7⟩ := sp_33 (ν := ν) hZ x0b _ (i3I (y := x3) (rfl : i3 x3 = i3 x3) (by omega) (by omega) (by omega)) (by omega) x1b _ ex1i (by omega) (zbh (c := 0) (k := 0) hM (Nat.le_of_ble_eq_true rfl))
        replace hP := zl_e hP hv7
        refine wz_cI_of (zas (zcons rfl (zcons rfl rfl)) c9) ?_
        clear c9
        refine wz_br (i3NE (rfl : i3 v7 = i3 v7) (show (0 : Int32) = i3 0 from rfl) (by omega) (by omega) (by omega) (by omega)) (fun h8 => ?_) (fun h8 => ?_)
        · replace hP := zE_p hP h8
          have r9 := zH_k hZ 46 x0b x3 0 (lo := 0) (hi := 7) (by decide) rfl
          refine wz_i0 (i3O (n := 8) (zm_rd (Z := Z) (ν := ν) (k := 46) (rfl : ((x0b : Nat) : Int) = x0b) (i3I (y := x3) (rfl : i3 x3 = i3 x3) (by omega) (by omega) (by omega)) (show ((0 : Nat) : Int) = 0 from rfl)) (by omega) (by omega) (by omega)) ?_
          have r10 := zH_k hZ 45 x0b (Z 46 x0b x3 0) 1 (lo := 0) (hi := 9999999) (by decide) rfl
          have r11 := zH_f hZ 45 x0b (Z 46 x0b x3 0) 3
          have r12 := w3_r ((Z 45 x0b (Z 46 x0b x3 0) 1) + (Z 45 x0b (Z 46 x0b x3 0) 3))
          have r13 := zH_f hZ 45 x0b (Z 46 x0b x3 0) 4
          have r14 := w3_r ((w3 ((Z 45 x0b (Z 46 x0b x3 0) 1) + (Z 45 x0b (Z 46 x0b x3 0) 3))) - (Z 45 x0b (Z 46 x0b x3 0) 4))
          have r15 := zH_k hZ 46 x0b x3 4 (lo := 0) (hi := 9999) (by decide) rfl
          obtain ⟨m2, rfl⟩ : ∃ m2, m = m2 + 1 := ⟨m - 1, by omega⟩
          exact wz_k1 ⟨m2, by omega, (max x2 (max 0 (min (w3 ((w3 ((Z 45 x0b (Z 46 x0b x3 0) 1) + (Z 45 x0b (Z 46 x0b x3 0) 3))) - (Z 45 x0b (Z 46 x0b x3 0) 4))) (Z 46 x0b x3 4)))), (x3 + 1), (zconso rfl (zconso rfl (zconso (zvo (i3Mx (rfl : i3 x2 = i3 x2) (i3Mx (show (0 : Int32) = i3 0 from rfl) (i3Mn (i3W (i3S (i3W (i3A (zm_rd (Z := Z) (ν := ν) (k := 45) (rfl : ((x0b : Nat) : Int) = x0b) (i3I (y := (Z 46 x0b x3 0)) (zm_rd (Z := Z) (ν := ν) (k := 46) (rfl : ((x0b : Nat) : Int) = x0b) (i3I (y := x3) (rfl : i3 x3 = i3 x3) (by omega) (by omega) (by omega)) (show ((0 : Nat) : Int) = 0 from rfl)) (by omega) (by omega) (by omega)) (show ((1 : Nat) : Int) = 1 from rfl)) (zm_rd (Z := Z) (ν := ν) (k := 45) (rfl : ((x0b : Nat) : Int) = x0b) (i3I (y := (Z 46 x0b x3 0)) (zm_rd (Z := Z) (ν := ν) (k := 46) (rfl : ((x0b : Nat) : Int) = x0b) (i3I (y := x3) (rfl : i3 x3 = i3 x3) (by omega) (by omega) (by omega)) (show ((0 : Nat) : Int) = 0 from rfl)) (by omega) (by omega) (by omega)) (show ((3 : Nat) : Int) = 3 from rfl)))) (zm_rd (Z := Z) (ν := ν) (k := 45) (rfl : ((x0b : Nat) : Int) = x0b) (i3I (y := (Z 46 x0b x3 0)) (zm_rd (Z := Z) (ν := ν) (k := 46) (rfl : ((x0b : Nat) : Int) = x0b) (i3I (y := x3) (rfl : i3 x3 = i3 x3) (by omega) (by omega) (by omega)) (show ((0 : Nat) : Int) = 0 from rfl)) (by omega) (by omega) (by omega)) (show ((4 : Nat) : Int) = 4 from rfl)))) (zm_rd (Z := Z) (ν := ν) (k := 46) (rfl : ((x0b : Nat) : Int) = x0b) (i3I (y := x3) (rfl : i3 x3 = i3 x3) (by omega) (by omega) (by omega)) (show ((4 : Nat) : Int) = 4 from rfl)) (by omega) (by omega) (by omega) (by omega)) (by omega) (by omega) (by omega) (by omega)) (by omega) (by omega) (by omega) (by omega))) (zconso (zvo (i3A (rfl : i3 x3 = i3 x3) (show (1 : Int32) = i3 1 from rfl))) rfl)))), rfl,  by omega, by omega, by omega,  hP⟩
        · replace hP := zE_n hP h8
          obtain ⟨m2, rfl⟩ : ∃ m2, m = m2 + 1 := ⟨m - 1, by omega⟩
          exact wz_k1 ⟨m2, by omega, (max x2 0), (x3 + 1), (zconso rfl (zconso rfl (zconso (zvo (i3Mx (rfl : i3 x2 = i3 x2) (show (0 : Int32) = i3 0 from rfl) (by omega) (by omega) (by omega) (by omega))) (zconso (zvo (i3A (rfl : i3 x3 = i3 x3) (show (1 : Int32) = i3 1 from rfl))) rfl)))), rfl,  by omega, by omega, by omega,  hP⟩
/- yX1_highestPrice -/
def zf_26 (Z : qz_Z) (a0b : Int) (a1b : Int) (a1ij : Int) : Int := (zlet2 (zl_26_1 a0b a1b a1ij 25 Z 0 0) (fun y1 y2 => y1))
theorem sp_26 {s : zSM} {Z : qz_Z} {ν : qz_N} (hZ : zH s Z) (a0b : Nat) (a1b : Nat) (a1i : Nat) {a1ij : Int} (ea1i : (a1i : Int) = a1ij) (ga1i : 0 ≤ a1ij ∧ a1ij ≤ 47) (hM : s.2 + 0 ≤ 1000000000) : ∃ P : Int, P = zf_26 Z a0b a1b a1ij ∧ (qf_26 [.inr (.inr (some (10, a0b, 0))), .inr (.inr (some (44, a1b, a1i)))] (zm Z ν) = some (zm Z ν, .inl (some (.inl (i3 P)))) ∧ 0 ≤ P ∧ P ≤ 9999) := by
  obtain ⟨P, hP⟩ := zx (zf_26 Z a0b a1b a1ij)
  refine zc_R (Q := fun P => 0 ≤ P ∧ P ≤ 9999) hP (fw_26 a0b a1b a1i _ _ ?_)
  replace hP : zE P (zf_26 Z a0b a1b a1ij) := hP
  unfold zf_26 at hP
  refine sl_26_1 (ν := ν) hZ (zbh (c := 0) (k := 0) hM (Nat.le_of_ble_eq_true rfl)) a0b a1b _ ea1i (by omega) (x2 := 0) (by omega) (x3 := 0) (by omega)  (zconso rfl (zconso rfl (zconso (zvo (show (0 : Int32) = i3 0 from rfl)) (zconso (zvo (show (0 : Int32) = i3 0 from rfl)) rfl)))) rfl ?_
  intro L3 y1 y2 hL3 gy1 gy2 q9
  replace hP := zl_e2 hP (Eq.symm q9)
  clear q9
  refine fc_26_2 (i3 y1) _ _ _ _ hL3 ?_
  exact zlR hP (rfl : i3 y1 = i3 y1) ⟨by omega, by omega⟩
/- yX0_enterSold -/
def zf_6 (Z : qz_Z) (a0b : Int) (a1b : Int) (a1ij : Int) : qz_Z := (if (Z 47 a1b a1ij 18) ≠ 0 then (zlet (zu Z 14 a0b 0 2 (w3 ((Z 14 a0b 0 2) - (Z 47 a1b a1ij 18)))) (fun Z7 => (zlet (zu Z7 14 a0b 0 1 (w3 ((Z7 14 a0b 0 1) + (Z 47 a1b a1ij 18)))) (fun Z10 => (zlet (zu Z10 53 a0b ((Z10 11 a0b 0 12) % 60) 0 2) (fun Z12 => (zlet (zu Z12 53 a0b ((Z10 11 a0b 0 12) % 60) 1 1) (fun Z13 => (zlet (zu Z13 53 a0b ((Z10 11 a0b 0 12) % 60) 2 (Z 47 a1b a1ij 18)) (fun Z14 => (zlet (zu Z14 53 a0b ((Z10 11 a0b 0 12) % 60) 3 (Z 47 a1b a1ij 0)) (fun Z15 => (zlet (zu Z15 53 a0b ((Z10 11 a0b 0 12) % 60) 4 (Z15 11 a0b 0 13)) (fun Z17 => (zlet (zu Z17 11 a0b 0 12 ((Z17 11 a0b 0 12) + 1)) (fun Z20 => (if (((Z 47 a1b a1ij 18) * (Z 42 a0b (Z 44 a0b (Z 47 a1b a1ij 0) 0) 0)) / 100) ≠ 0 then (zlet (zu Z20 14 a0b 0 3 (w3 ((Z20 14 a0b 0 3) - (((Z 47 a1b a1ij 18) * (Z 42 a0b (Z 44 a0b (Z 47 a1b a1ij 0) 0) 0)) / 100)))) (fun Z26 => (zlet (zu Z26 14 a0b 0 2 (w3 ((Z26 14 a0b 0 2) + (((Z 47 a1b a1ij 18) * (Z 42 a0b (Z 44 a0b (Z 47 a1b a1ij 0) 0) 0)) / 100)))) (fun Z30 => (zlet (zu Z30 53 a0b ((Z30 11 a0b 0 12) % 60) 0 3) (fun Z33 => (zlet (zu Z33 53 a0b ((Z30 11 a0b 0 12) % 60) 1 2) (fun Z34 => (zlet (zu Z34 53 a0b ((Z30 11 a0b 0 12) % 60) 2 (((Z 47 a1b a1ij 18) * (Z 42 a0b (Z 44 a0b (Z 47 a1b a1ij 0) 0) 0)) / 100)) (fun Z35 => (zlet (zu Z35 53 a0b ((Z30 11 a0b 0 12) % 60) 3 (Z 47 a1b a1ij 0)) (fun Z36 => (zlet (zu Z36 53 a0b ((Z30 11 a0b 0 12) % 60) 4 (Z36 11 a0b 0 13)) (fun Z39 => (zlet (zu Z39 11 a0b 0 12 ((Z39 11 a0b 0 12) + 1)) (fun Z42 => (zlet (zu Z42 42 a0b (Z 44 a0b (Z 47 a1b a1ij 0) 0) 2 (w3 ((Z42 42 a0b (Z 44 a0b (Z 47 a1b a1ij 0) 0) 2) + ((Z 47 a1b a1ij 18) - (((Z 47 a1b a1ij 18) * (Z 42 a0b (Z 44 a0b (Z 47 a1b a1ij 0) 0) 0)) / 100))))) (fun Z45 => (zlet (zu Z45 42 a0b (Z 44 a0b (Z 47 a1b a1ij 0) 0) 3 (w3 ((Z45 42 a0b (Z 44 a0b (Z 47 a1b a1ij 0) 0) 3) + (Z 47 a1b a1ij 18)))) (fun Z48 => (zlet (zu Z48 42 a0b (Z 44 a0b (Z 47 a1b a1ij 0) 0) 4 (w3 ((Z48 42 a0b (Z 44 a0b (Z 47 a1b a1ij 0) 0) 4) + (((Z 47 a1b a1ij 18) * (Z 42 a0b (Z 44 a0b (Z 47 a1b a1ij 0) 0) 0)) / 100)))) (fun Z51 => Z51)))))))))))))))))))))) else (zlet (zu Z20 42 a0b (Z 44 a0b (Z 47 a1b a1ij 0) 0) 2 (w3 ((Z20 42 a0b (Z 44 a0b (Z 47 a1b a1ij 0) 0) 2) + ((Z 47 a1b a1ij 18) - (((Z 47 a1b a1ij 18) * (Z 42 a0b (Z 44 a0b (Z 47 a1b a1ij 0) 0) 0)) / 100))))) (fun Z54 => (zlet (zu Z54 42 a0b (Z 44 a0b (Z 47 a1b a1ij 0) 0) 3 (w3 ((Z54 42 a0b (Z 44 a0b (Z 47 a1b a1ij 0) 0) 3) + (Z 47 a1b a1ij 18)))) (fun Z57 => (zlet (zu Z57 42 a0b (Z 44 a0b (Z 47 a1b a1ij 0) 0) 4 ((Z57 42 a0b (Z 44 a0b (Z 47 a1b a1ij 0) 0) 4) + (((Z 47 a1b a1ij 18) * (Z 42 a0b (Z 44 a0b (Z 47 a1b a1ij 0) 0) 0)) / 100))) (fun Z59 => Z59))))))))))))))))))))))) else (zlet (zu Z 42 a0b (Z 44 a0b (Z 47 a1b a1ij 0) 0) 2 ((Z 42 a0b (Z 44 a0b (Z 47 a1b a1ij 0) 0) 2) + ((Z 47 a1b a1ij 18) - (((Z 47 a1b a1ij 18) * (Z 42 a0b (Z 44 a0b (Z 47 a1b a1ij 0) 0) 0)) / 100)))) (fun Z63 => (zlet (zu Z63 42 a0b (Z 44 a0b (Z 47 a1b a1ij 0) 0) 3 ((Z63 42 a0b (Z 44 a0b (Z 47 a1b a1ij 0) 0) 3) + (Z 47 a1b a1ij 18))) (fun Z65 => (zlet (zu Z65 42 a0b (Z 44 a0b (Z 47 a1b a1ij 0) 0) 4 ((Z65 42 a0b (Z 44 a0b (Z 47 a1b a1ij 0) 0) 4) + (((Z 47 a1b a1ij 18) * (Z 42 a0b (Z 44 a0b (Z 47 a1b a1ij 0) 0) 0)) / 100))) (fun Z67 => Z67)))))))
theorem sp_6 {s : zSM} {Z : qz_Z} {ν : qz_N} (hZ : zH s Z) (a0b : Nat) (a1b : Nat) (a1i : Nat) {a1ij : Int} (ea1i : (a1i : Int) = a1ij) (ga1i : 0 ≤ a1ij ∧ a1ij ≤ 59) (hM : s.2 + 2 ≤ 1000000000) : ∃ P : qz_Z, P = zf_6 Z a0b a1b a1ij ∧ (qf_6 [.inr (.inr (some (10, a0b, 0))), .inr (.inr (some (47, a1b, a1i)))] (zm Z ν) = some (zm P ν, .inl none) ∧ zH (zb s 2) P ∧ zC [14, 42, 53, 1112] Z P ∧ zU [a0b] Z P) := by
  obtain ⟨P, hP⟩ := zx (zf_6 Z a0b a1b a1ij)
  refine zc_V (Q := fun P => zH (zb s 2) P ∧ zC [14, 42, 53, 1112] Z P ∧ zU [a0b] Z P) hP (fw_6 a0b a1b a1i _ _ ?_)
  replace hP : zE P (zf_6 Z a0b a1b a1ij) := hP
  unfold zf_6 at hP
  have r1 := zH_k hZ 47 a1b a1ij 0 (lo := 0) (hi := 47) (by decide) rfl
  refine wz_i0 (i3O (n := 48) (zm_rd (Z := Z) (ν := ν) (k := 47) (rfl : ((a1b : Nat) : Int) = a1b) ea1i (show ((0 : Nat) : Int) = 0 from rfl)) (by omega) (by omega) (by omega)) ?_
  have r2 := zH_k hZ 44 a0b (Z 47 a1b a1ij 0) 0 (lo := 0) (hi := 5) (by decide) rfl
  refine wz_i0 (i3O (n := 6) (zm_rd (Z := Z) (ν := ν) (k := 44) (rfl : ((a0b : Nat) : Int) = a0b) (i3I (y := (Z 47 a1b a1ij 0)) (zm_rd (Z := Z) (ν := ν) (k := 47) (rfl : ((a1b : Nat) : Int) = a1b) ea1i (show ((0 : Nat) : Int) = 0 from rfl)) (by omega) (by omega) (by omega)) (show ((0 : Nat) : Int) = 0 from rfl)) (by omega) (by omega) (by omega)) ?_
  have r3 := zH_k hZ 47 a1b a1ij 18 (lo := 0) (hi := 399960) (by decide) rfl
  refine wz_br (i3NE (zm_rd (Z := Z) (ν := ν) (k := 47) (rfl : ((a1b : Nat) : Int) = a1b) ea1i (show ((18 : Nat) : Int) = 18 from rfl)) (show (0 : Int32) = i3 0 from rfl) (by omega) (by omega) (by omega) (by omega)) (fun h4 => ?_) (fun h4 => ?_)
  · replace hP := zE_p hP h4
    have r5 := zH_f hZ 14 a0b 0 2
    have r6 := w3_r ((Z 14 a0b 0 2) - (Z 47 a1b a1ij 18))
    obtain ⟨Z7, hZ7⟩ := zx (zu Z 14 a0b 0 2 (w3 ((Z 14 a0b 0 2) - (Z 47 a1b a1ij 18))))
    replace hP := zl_e hP hZ7
    have hZ7I := zH_u hZ hZ7 (lo := -2147483648) (hi := 2147483647) (by decide) rfl (by omega) ⟨by decide, by decide⟩ (Or.inl (by decide)) rfl
    have hZ7U : zU [a0b] Z Z7 := zU_u zU_r hZ7 (Or.inr (List.Mem.head _))
    have hZ7K : zC [14, 42, 53, 1112] Z Z7 := zC_u zC_r hZ7 (by decide)
    intro μ9 e9
    replace e9 := e9.trans (zm_wI (Z := Z) (ν := ν) hZ7 (rfl : ((a0b : Nat) : Int) = a0b) (show ((0 : Nat) : Int) = 0 from rfl) (show ((2 : Nat) : Int) = 2 from rfl) (i3W (i3S (zm_rd (Z := Z) (ν := ν) (k := 14) (rfl : ((a0b : Nat) : Int) = a0b) (show ((0 : Nat) : Int) = 0 from rfl) (show ((2 : Nat) : Int) = 2 from rfl)) (zm_rd (Z := Z) (ν := ν) (k := 47) (rfl : ((a1b : Nat) : Int) = a1b) ea1i (show ((18 : Nat) : Int) = 18 from rfl)))))
    subst e9
    have r8 := zH_f hZ7I 14 a0b 0 1
    have r9 := w3_r ((Z7 14 a0b 0 1) + (Z 47 a1b a1ij 18))
    obtain ⟨Z10, hZ10⟩ := zx (zu Z7 14 a0b 0 1 (w3 ((Z7 14 a0b 0 1) + (Z 47 a1b a1ij 18))))
    replace hP := zl_e hP hZ10
    have hZ10I := zH_u hZ7I hZ10 (lo := -2147483648) (hi := 2147483647) (by decide) rfl (by omega) ⟨by decide, by decide⟩ (Or.inl (by decide)) rfl
    have hZ10U : zU [a0b] Z Z10 := zU_u hZ7U hZ10 (Or.inr (List.Mem.head _))
    have hZ10K : zC [14, 42, 53, 1112] Z Z10 := zC_u hZ7K hZ10 (by decide)
    intro μ9 e9
    replace e9 := e9.trans (zm_wI (Z := Z7) (ν := ν) hZ10 (rfl : ((a0b : Nat) : Int) = a0b) (show ((0 : Nat) : Int) = 0 from rfl) (show ((1 : Nat) : Int) = 1 from rfl) (i3W (i3A (zm_rd (Z := Z7) (ν := ν) (k := 14) (rfl : ((a0b : Nat) : Int) = a0b) (show ((0 : Nat) : Int) = 0 from rfl) (show ((1 : Nat) : Int) = 1 from rfl)) (zm_rd (Z := Z) (ν := ν) (k := 47) (rfl : ((a1b : Nat) : Int) = a1b) ea1i (show ((18 : Nat) : Int) = 18 from rfl)))))
    subst e9
    have r11 := zH_c12 hZ10I a0b (zbh (c := 0) (k := 0) hM (Nat.le_of_ble_eq_true rfl))
    refine wz_i0 (i3O (n := 60) (i3R (zm_rd (Z := Z10) (ν := ν) (k := 11) (rfl : ((a0b : Nat) : Int) = a0b) (show ((0 : Nat) : Int) = 0 from rfl) (show ((12 : Nat) : Int) = 12 from rfl)) (show (60 : Int32) = i3 60 from rfl) (by omega) (by omega) (by omega) (by omega)) (by omega) (by omega) (by omega)) ?_
    obtain ⟨Z12, hZ12⟩ := zx (zu Z10 53 a0b ((Z10 11 a0b 0 12) % 60) 0 2)
    replace hP := zl_e hP hZ12
    have hZ12I := zH_u hZ10I hZ12 (lo := -2147483648) (hi := 2147483647) (by decide) rfl (by omega) ⟨by decide, by decide⟩ (Or.inl (by decide)) rfl
    have hZ12U : zU [a0b] Z Z12 := zU_u hZ10U hZ12 (Or.inr (List.Mem.head _))
    have hZ12K : zC [14, 42, 53, 1112] Z Z12 := zC_u hZ10K hZ12 (by decide)
    intro μ9 e9
    replace e9 := e9.trans (zm_wI (Z := Z10) (ν := ν) hZ12 (rfl : ((a0b : Nat) : Int) = a0b) (i3I (y := ((Z10 11 a0b 0 12) % 60)) (i3R (zm_rd (Z := Z10) (ν := ν) (k := 11) (rfl : ((a0b : Nat) : Int) = a0b) (show ((0 : Nat) : Int) = 0 from rfl) (show ((12 : Nat) : Int) = 12 from rfl)) (show (60 : Int32) = i3 60 from rfl) (by omega) (by omega) (by omega) (by omega)) (by omega) (by omega) (by omega)) (show ((0 : Nat) : Int) = 0 from rfl) (show (2 : Int32) = i3 2 from rfl))
    subst e9
    obtain ⟨Z13, hZ13⟩ := zx (zu Z12 53 a0b ((Z10 11 a0b 0 12) % 60) 1 1)
    replace hP := zl_e hP hZ13
    have hZ13I := zH_u hZ12I hZ13 (lo := -2147483648) (hi := 2147483647) (by decide) rfl (by omega) ⟨by decide, by decide⟩ (Or.inl (by decide)) rfl
    have hZ13U : zU [a0b] Z Z13 := zU_u hZ12U hZ13 (Or.inr (List.Mem.head _))
    have hZ13K : zC [14, 42, 53, 1112] Z Z13 := zC_u hZ12K hZ13 (by decide)
    intro μ9 e9
    replace e9 := e9.trans (zm_wI (Z := Z12) (ν := ν) hZ13 (rfl : ((a0b : Nat) : Int) = a0b) (i3I (y := ((Z10 11 a0b 0 12) % 60)) (i3R (zm_rd (Z := Z10) (ν := ν) (k := 11) (rfl : ((a0b : Nat) : Int) = a0b) (show ((0 : Nat) : Int) = 0 from rfl) (show ((12 : Nat) : Int) = 12 from rfl)) (show (60 : Int32) = i3 60 from rfl) (by omega) (by omega) (by omega) (by omega)) (by omega) (by omega) (by omega)) (show ((1 : Nat) : Int) = 1 from rfl) (show (1 : Int32) = i3 1 from rfl))
    subst e9
    obtain ⟨Z14, hZ14⟩ := zx (zu Z13 53 a0b ((Z10 11 a0b 0 12) % 60) 2 (Z 47 a1b a1ij 18))
    replace hP := zl_e hP hZ14
    have hZ14I := zH_u hZ13I hZ14 (lo := -2147483648) (hi := 2147483647) (by decide) rfl (by omega) ⟨by decide, by decide⟩ (Or.inl (by decide)) rfl
    have hZ14U : zU [a0b] Z Z14 := zU_u hZ13U hZ14 (Or.inr (List.Mem.head _))
    have hZ14K : zC [14, 42, 53, 1112] Z Z14 := zC_u hZ13K hZ14 (by decide)
    intro μ9 e9
    replace e9 := e9.trans (zm_wI (Z := Z13) (ν := ν) hZ14 (rfl : ((a0b : Nat) : Int) = a0b) (i3I (y := ((Z10 11 a0b 0 12) % 60)) (i3R (zm_rd (Z := Z10) (ν := ν) (k := 11) (rfl : ((a0b : Nat) : Int) = a0b) (show ((0 : Nat) : Int) = 0 from rfl) (show ((12 : Nat) : Int) = 12 from rfl)) (show (60 : Int32) = i3 60 from rfl) (by omega) (by omega) (by omega) (by omega)) (by omega) (by omega) (by omega)) (show ((2 : Nat) : Int) = 2 from rfl) (zm_rd (Z := Z) (ν := ν) (k := 47) (rfl : ((a1b : Nat) : Int) = a1b) ea1i (show ((18 : Nat) : Int) = 18 from rfl)))
    subst e9
    obtain ⟨Z15, hZ15⟩ := zx (zu Z14 53 a0b ((Z10 11 a0b 0 12) % 60) 3 (Z 47 a1b a1ij 0))
    replace hP := zl_e hP hZ15
    have hZ15I := zH_u hZ14I hZ15 (lo := -2147483648) (hi := 2147483647) (by decide) rfl (by omega) ⟨by decide, by decide⟩ (Or.inl (by decide)) rfl
    have hZ15U : zU [a0b] Z Z15 := zU_u hZ14U hZ15 (Or.inr (List.Mem.head _))
    have hZ15K : zC [14, 42, 53, 1112] Z Z15 := zC_u hZ14K hZ15 (by decide)
    intro μ9 e9
    replace e9 := e9.trans (zm_wI (Z := Z14) (ν := ν) hZ15 (rfl : ((a0b : Nat) : Int) = a0b) (i3I (y := ((Z10 11 a0b 0 12) % 60)) (i3R (zm_rd (Z := Z10) (ν := ν) (k := 11) (rfl : ((a0b : Nat) : Int) = a0b) (show ((0 : Nat) : Int) = 0 from rfl) (show ((12 : Nat) : Int) = 12 from rfl)) (show (60 : Int32) = i3 60 from rfl) (by omega) (by omega) (by omega) (by omega)) (by omega) (by omega) (by omega)) (show ((3 : Nat) : Int) = 3 from rfl) (zm_rd (Z := Z) (ν := ν) (k := 47) (rfl : ((a1b : Nat) : Int) = a1b) ea1i (show ((0 : Nat) : Int) = 0 from rfl)))
    subst e9
    have r16 := zH_k hZ15I 11 a0b 0 13 (lo := 0) (hi := 671) (by decide) rfl
    obtain ⟨Z17, hZ17⟩ := zx (zu Z15 53 a0b ((Z10 11 a0b 0 12) % 60) 4 (Z15 11 a0b 0 13))
    replace hP := zl_e hP hZ17
    have hZ17I := zH_u hZ15I hZ17 (lo := -2147483648) (hi := 2147483647) (by decide) rfl (by omega) ⟨by decide, by decide⟩ (Or.inl (by decide)) rfl
    have hZ17U : zU [a0b] Z Z17 := zU_u hZ15U hZ17 (Or.inr (List.Mem.head _))
    have hZ17K : zC [14, 42, 53, 1112] Z Z17 := zC_u hZ15K hZ17 (by decide)
    intro μ9 e9
    replace e9 := e9.trans (zm_wI (Z := Z15) (ν := ν) hZ17 (rfl : ((a0b : Nat) : Int) = a0b) (i3I (y := ((Z10 11 a0b 0 12) % 60)) (i3R (zm_rd (Z := Z10) (ν := ν) (k := 11) (rfl : ((a0b : Nat) : Int) = a0b) (show ((0 : Nat) : Int) = 0 from rfl) (show ((12 : Nat) : Int) = 12 from rfl)) (show (60 : Int32) = i3 60 from rfl) (by omega) (by omega) (by omega) (by omega)) (by omega) (by omega) (by omega)) (show ((4 : Nat) : Int) = 4 from rfl) (zm_rd (Z := Z15) (ν := ν) (k := 11) (rfl : ((a0b : Nat) : Int) = a0b) (show ((0 : Nat) : Int) = 0 from rfl) (show ((13 : Nat) : Int) = 13 from rfl)))
    subst e9
    have r18 := zH_c12 hZ17I a0b (zbh (c := 0) (k := 0) hM (Nat.le_of_ble_eq_true rfl))
    have q19 := (zu_ne (k' := 11) (b' := a0b) (i' := 0) (j' := 12) hZ17 (fun q => absurd q.1 (by decide))).trans ((zu_ne (k' := 11) (b' := a0b) (i' := 0) (j' := 12) hZ15 (fun q => absurd q.1 (by decide))).trans ((zu_ne (k' := 11) (b' := a0b) (i' := 0) (j' := 12) hZ14 (fun q => absurd q.1 (by decide))).trans ((zu_ne (k' := 11) (b' := a0b) (i' := 0) (j' := 12) hZ13 (fun q => absurd q.1 (by decide))).trans (zu_ne (k' := 11) (b' := a0b) (i' := 0) (j' := 12) hZ12 (fun q => absurd q.1 (by decide))))))
    obtain ⟨Z20, hZ20⟩ := zx (zu Z17 11 a0b 0 12 ((Z17 11 a0b 0 12) + 1))
    replace hP := zl_e hP hZ20
    have hZ20I := zH_i12 hZ17I hZ20 (zbh (c := 0) (k := 1) hM (Nat.le_of_ble_eq_true rfl)) (by omega)
    have hZ20U : zU [a0b] Z Z20 := zU_u hZ17U hZ20 (Or.inr (List.Mem.head _))
    have hZ20K : zC [14, 42, 53, 1112] Z Z20 := zC_u hZ17K hZ20 (by decide)
    intro μ9 e9
    replace e9 := e9.trans (zm_wI (Z := Z17) (ν := ν) hZ20 (rfl : ((a0b : Nat) : Int) = a0b) (show ((0 : Nat) : Int) = 0 from rfl) (show ((12 : Nat) : Int) = 12 from rfl) (i3A (zm_rd (Z := Z17) (ν := ν) (k := 11) (rfl : ((a0b : Nat) : Int) = a0b) (show ((0 : Nat) : Int) = 0 from rfl) (show ((12 : Nat) : Int) = 12 from rfl)) (show (1 : Int32) = i3 1 from rfl)))
    subst e9
    have r21 := zH_k hZ 42 a0b (Z 44 a0b (Z 47 a1b a1ij 0) 0) 0 (lo := 0) (hi := 25) (by decide) rfl
    have r22 := z_mul (x := (Z 47 a1b a1ij 18)) (y := (Z 42 a0b (Z 44 a0b (Z 47 a1b a1ij 0) 0) 0)) (a := 399960) (b := 25) (by omega) (by omega) (by omega) (by omega)
    refine wz_br (i3NE (i3D (i3M (zm_rd (Z := Z) (ν := ν) (k := 47) (rfl : ((a1b : Nat) : Int) = a1b) ea1i (show ((18 : Nat) : Int) = 18 from rfl)) (zm_rd (Z := Z) (ν := ν) (k := 42) (rfl : ((a0b : Nat) : Int) = a0b) (i3I (y := (Z 44 a0b (Z 47 a1b a1ij 0) 0)) (zm_rd (Z := Z) (ν := ν) (k := 44) (rfl : ((a0b : Nat) : Int) = a0b) (i3I (y := (Z 47 a1b a1ij 0)) (zm_rd (Z := Z) (ν := ν) (k := 47) (rfl : ((a1b : Nat) : Int) = a1b) ea1i (show ((0 : Nat) : Int) = 0 from rfl)) (by omega) (by omega) (by omega)) (show ((0 : Nat) : Int) = 0 from rfl)) (by omega) (by omega) (by omega)) (show ((0 : Nat) : Int) = 0 from rfl))) (show (100 : Int32) = i3 100 from rfl) (by omega) (by omega) (by omega) (by omega)) (show (0 : Int32) = i3 0 from rfl) (by omega) (by omega) (by omega) (by omega)) (fun h23 => ?_) (fun h23 => ?_)
    · replace hP := zE_p hP h23
      have r24 := zH_f hZ20I 14 a0b 0 3
      have r25 := w3_r ((Z20 14 a0b 0 3) - (((Z 47 a1b a1ij 18) * (Z 42 a0b (Z 44 a0b (Z 47 a1b a1ij 0) 0) 0)) / 100))
      obtain ⟨Z26, hZ26⟩ := zx (zu Z20 14 a0b 0 3 (w3 ((Z20 14 a0b 0 3) - (((Z 47 a1b a1ij 18) * (Z 42 a0b (Z 44 a0b (Z 47 a1b a1ij 0) 0) 0)) / 100))))
      replace hP := zl_e hP hZ26
      have hZ26I := zH_u hZ20I hZ26 (lo := -2147483648) (hi := 2147483647) (by decide) rfl (by omega) ⟨by decide, by decide⟩ (Or.inl (by decide)) rfl
      have hZ26U : zU [a0b] Z Z26 := zU_u hZ20U hZ26 (Or.inr (List.Mem.head _))
      have hZ26K : zC [14, 42, 53, 1112] Z Z26 := zC_u hZ20K hZ26 (by decide)
      intro μ9 e9
      replace e9 := e9.trans (zm_wI (Z := Z20) (ν := ν) hZ26 (rfl : ((a0b : Nat) : Int) = a0b) (show ((0 : Nat) : Int) = 0 from rfl) (show ((3 : Nat) : Int) = 3 from rfl) (i3W (i3S (zm_rd (Z := Z20) (ν := ν) (k := 14) (rfl : ((a0b : Nat) : Int) = a0b) (show ((0 : Nat) : Int) = 0 from rfl) (show ((3 : Nat) : Int) = 3 from rfl)) (i3D (i3M (zm_rd (Z := Z) (ν := ν) (k := 47) (rfl : ((a1b : Nat) : Int) = a1b) ea1i (show ((18 : Nat) : Int) = 18 from rfl)) (zm_rd (Z := Z) (ν := ν) (k := 42) (rfl : ((a0b : Nat) : Int) = a0b) (i3I (y := (Z 44 a0b (Z 47 a1b a1ij 0) 0)) (zm_rd (Z := Z) (ν := ν) (k := 44) (rfl : ((a0b : Nat) : Int) = a0b) (i3I (y := (Z 47 a1b a1ij 0)) (zm_rd (Z := Z) (ν := ν) (k := 47) (rfl : ((a1b : Nat) : Int) = a1b) ea1i (show ((0 : Nat) : Int) = 0 from rfl)) (by omega) (by omega) (by omega)) (show ((0 : Nat) : Int) = 0 from rfl)) (by omega) (by omega) (by omega)) (show ((0 : Nat) : Int) = 0 from rfl))) (show (100 : Int32) = i3 100 from rfl) (by omega) (by omega) (by omega) (by omega)))))
      subst e9
      have r27 := zH_f hZ26I 14 a0b 0 2
      have q28 := (zu_ne (k' := 14) (b' := a0b) (i' := 0) (j' := 2) hZ26 (fun q => absurd q.2.2.2 (by decide))).trans ((zu_ne (k' := 14) (b' := a0b) (i' := 0) (j' := 2) hZ20 (fun q => absurd q.1 (by decide))).trans ((zu_ne (k' := 14) (b' := a0b) (i' := 0) (j' := 2) hZ17 (fun q => absurd q.1 (by decide))).trans ((zu_ne (k' := 14) (b' := a0b) (i' := 0) (j' := 2) hZ15 (fun q => absurd q.1 (by decide))).trans ((zu_ne (k' := 14) (b' := a0b) (i' := 0) (j' := 2) hZ14 (fun q => absurd q.1 (by decide))).trans ((zu_ne (k' := 14) (b' := a0b) (i' := 0) (j' := 2) hZ13 (fun q => absurd q.1 (by decide))).trans ((zu_ne (k' := 14) (b' := a0b) (i' := 0) (j' := 2) hZ12 (fun q => absurd q.1 (by decide))).trans ((zu_ne (k' := 14) (b' := a0b) (i' := 0) (j' := 2) hZ10 (fun q => absurd q.2.2.2 (by decide))).trans (zu_at hZ7))))))))
      have r29 := w3_r ((Z26 14 a0b 0 2) + (((Z 47 a1b a1ij 18) * (Z 42 a0b (Z 44 a0b (Z 47 a1b a1ij 0) 0) 0)) / 100))
      obtain ⟨Z30, hZ30⟩ := zx (zu Z26 14 a0b 0 2 (w3 ((Z26 14 a0b 0 2) + (((Z 47 a1b a1ij 18) * (Z 42 a0b (Z 44 a0b (Z 47 a1b a1ij 0) 0) 0)) / 100))))
      replace hP := zl_e hP hZ30
      have hZ30I := zH_u hZ26I hZ30 (lo := -2147483648) (hi := 2147483647) (by decide) rfl (by omega) ⟨by decide, by decide⟩ (Or.inl (by decide)) rfl
      have hZ30U : zU [a0b] Z Z30 := zU_u hZ26U hZ30 (Or.inr (List.Mem.head _))
      have hZ30K : zC [14, 42, 53, 1112] Z Z30 := zC_u hZ26K hZ30 (by decide)
      intro μ9 e9
      replace e9 := e9.trans (zm_wI (Z := Z26) (ν := ν) hZ30 (rfl : ((a0b : Nat) : Int) = a0b) (show ((0 : Nat) : Int) = 0 from rfl) (show ((2 : Nat) : Int) = 2 from rfl) (i3W (i3A (zm_rd (Z := Z26) (ν := ν) (k := 14) (rfl : ((a0b : Nat) : Int) = a0b) (show ((0 : Nat) : Int) = 0 from rfl) (show ((2 : Nat) : Int) = 2 from rfl)) (i3D (i3M (zm_rd (Z := Z) (ν := ν) (k := 47) (rfl : ((a1b : Nat) : Int) = a1b) ea1i (show ((18 : Nat) : Int) = 18 from rfl)) (zm_rd (Z := Z) (ν := ν) (k := 42) (rfl : ((a0b : Nat) : Int) = a0b) (i3I (y := (Z 44 a0b (Z 47 a1b a1ij 0) 0)) (zm_rd (Z := Z) (ν := ν) (k := 44) (rfl : ((a0b : Nat) : Int) = a0b) (i3I (y := (Z 47 a1b a1ij 0)) (zm_rd (Z := Z) (ν := ν) (k := 47) (rfl : ((a1b : Nat) : Int) = a1b) ea1i (show ((0 : Nat) : Int) = 0 from rfl)) (by omega) (by omega) (by omega)) (show ((0 : Nat) : Int) = 0 from rfl)) (by omega) (by omega) (by omega)) (show ((0 : Nat) : Int) = 0 from rfl))) (show (100 : Int32) = i3 100 from rfl) (by omega) (by omega) (by omega) (by omega)))))
      subst e9
      have r31 := zH_c12 hZ30I a0b (zbh (c := 1) (k := 0) hM (Nat.le_of_ble_eq_true rfl))
      have q32 := (zu_ne (k' := 11) (b' := a0b) (i' := 0) (j' := 12) hZ30 (fun q => absurd q.1 (by decide))).trans ((zu_ne (k' := 11) (b' := a0b) (i' := 0) (j' := 12) hZ26 (fun q => absurd q.1 (by decide))).trans (zu_at hZ20))
      refine wz_i0 (i3O (n := 60) (i3R (zm_rd (Z := Z30) (ν := ν) (k := 11) (rfl : ((a0b : Nat) : Int) = a0b) (show ((0 : Nat) : Int) = 0 from rfl) (show ((12 : Nat) : Int) = 12 from rfl)) (show (60 : Int32) = i3 60 from rfl) (by omega) (by omega) (by omega) (by omega)) (by omega) (by omega) (by omega)) ?_
      obtain ⟨Z33, hZ33⟩ := zx (zu Z30 53 a0b ((Z30 11 a0b 0 12) % 60) 0 3)
      replace hP := zl_e hP hZ33
      have hZ33I := zH_u hZ30I hZ33 (lo := -2147483648) (hi := 2147483647) (by decide) rfl (by omega) ⟨by decide, by decide⟩ (Or.inl (by decide)) rfl
      have hZ33U : zU [a0b] Z Z33 := zU_u hZ30U hZ33 (Or.inr (List.Mem.head _))
      have hZ33K : zC [14, 42, 53, 1112] Z Z33 := zC_u hZ30K hZ33 (by decide)
      intro μ9 e9
      replace e9 := e9.trans (zm_wI (Z := Z30) (ν := ν) hZ33 (rfl : ((a0b : Nat) : Int) = a0b) (i3I (y := ((Z30 11 a0b 0 12) % 60)) (i3R (zm_rd (Z := Z30) (ν := ν) (k := 11) (rfl : ((a0b : Nat) : Int) = a0b) (show ((0 : Nat) : Int) = 0 from rfl) (show ((12 : Nat) : Int) = 12 from rfl)) (show (60 : Int32) = i3 60 from rfl) (by omega) (by omega) (by omega) (by omega)) (by omega) (by omega) (by omega)) (show ((0 : Nat) : Int) = 0 from rfl) (show (3 : Int32) = i3 3 from rfl))
      subst e9
      obtain ⟨Z34, hZ34⟩ := zx (zu Z33 53 a0b ((Z30 11 a0b 0 12) % 60) 1 2)
      replace hP := zl_e hP hZ34
      have hZ34I := zH_u hZ33I hZ34 (lo := -2147483648) (hi := 2147483647) (by decide) rfl (by omega) ⟨by decide, by decide⟩ (Or.inl (by decide)) rfl
      have hZ34U : zU [a0b] Z Z34 := zU_u hZ33U hZ34 (Or.inr (List.Mem.head _))
      have hZ34K : zC [14, 42, 53, 1112] Z Z34 := zC_u hZ33K hZ34 (by decide)
      intro μ9 e9
      replace e9 := e9.trans (zm_wI (Z := Z33) (ν := ν) hZ34 (rfl : ((a0b : Nat) : Int) = a0b) (i3I (y := ((Z30 11 a0b 0 12) % 60)) (i3R (zm_rd (Z := Z30) (ν := ν) (k := 11) (rfl : ((a0b : Nat) : Int) = a0b) (show ((0 : Nat) : Int) = 0 from rfl) (show ((12 : Nat) : Int) = 12 from rfl)) (show (60 : Int32) = i3 60 from rfl) (by omega) (by omega) (by omega) (by omega)) (by omega) (by omega) (by omega)) (show ((1 : Nat) : Int) = 1 from rfl) (show (2 : Int32) = i3 2 from rfl))
      subst e9
      obtain ⟨Z35, hZ35⟩ := zx (zu Z34 53 a0b ((Z30 11 a0b 0 12) % 60) 2 (((Z 47 a1b a1ij 18) * (Z 42 a0b (Z 44 a0b (Z 47 a1b a1ij 0) 0) 0)) / 100))
      replace hP := zl_e hP hZ35
      have hZ35I := zH_u hZ34I hZ35 (lo := -2147483648) (hi := 2147483647) (by decide) rfl (by omega) ⟨by decide, by decide⟩ (Or.inl (by decide)) rfl
      have hZ35U : zU [a0b] Z Z35 := zU_u hZ34U hZ35 (Or.inr (List.Mem.head _))
      have hZ35K : zC [14, 42, 53, 1112] Z Z35 := zC_u hZ34K hZ35 (by decide)
      intro μ9 e9
      replace e9 := e9.trans (zm_wI (Z := Z34) (ν := ν) hZ35 (rfl : ((a0b : Nat) : Int) = a0b) (i3I (y := ((Z30 11 a0b 0 12) % 60)) (i3R (zm_rd (Z := Z30) (ν := ν) (k := 11) (rfl : ((a0b : Nat) : Int) = a0b) (show ((0 : Nat) : Int) = 0 from rfl) (show ((12 : Nat) : Int) = 12 from rfl)) (show (60 : Int32) = i3 60 from rfl) (by omega) (by omega) (by omega) (by omega)) (by omega) (by omega) (by omega)) (show ((2 : Nat) : Int) = 2 from rfl) (i3D (i3M (zm_rd (Z := Z) (ν := ν) (k := 47) (rfl : ((a1b : Nat) : Int) = a1b) ea1i (show ((18 : Nat) : Int) = 18 from rfl)) (zm_rd (Z := Z) (ν := ν) (k := 42) (rfl : ((a0b : Nat) : Int) = a0b) (i3I (y := (Z 44 a0b (Z 47 a1b a1ij 0) 0)) (zm_rd (Z := Z) (ν := ν) (k := 44) (rfl : ((a0b : Nat) : Int) = a0b) (i3I (y := (Z 47 a1b a1ij 0)) (zm_rd (Z := Z) (ν := ν) (k := 47) (rfl : ((a1b : Nat) : Int) = a1b) ea1i (show ((0 : Nat) : Int) = 0 from rfl)) (by omega) (by omega) (by omega)) (show ((0 : Nat) : Int) = 0 from rfl)) (by omega) (by omega) (by omega)) (show ((0 : Nat) : Int) = 0 from rfl))) (show (100 : Int32) = i3 100 from rfl) (by omega) (by omega) (by omega) (by omega)))
      subst e9
      obtain ⟨Z36, hZ36⟩ := zx (zu Z35 53 a0b ((Z30 11 a0b 0 12) % 60) 3 (Z 47 a1b a1ij 0))
      replace hP := zl_e hP hZ36
      have hZ36I := zH_u hZ35I hZ36 (lo := -2147483648) (hi := 2147483647) (by decide) rfl (by omega) ⟨by decide, by decide⟩ (Or.inl (by decide)) rfl
      have hZ36U : zU [a0b] Z Z36 := zU_u hZ35U hZ36 (Or.inr (List.Mem.head _))
      have hZ36K : zC [14, 42, 53, 1112] Z Z36 := zC_u hZ35K hZ36 (by decide)
      intro μ9 e9
      replace e9 := e9.trans (zm_wI (Z := Z35) (ν := ν) hZ36 (rfl : ((a0b : Nat) : Int) = a0b) (i3I (y := ((Z30 11 a0b 0 12) % 60)) (i3R (zm_rd (Z := Z30) (ν := ν) (k := 11) (rfl : ((a0b : Nat) : Int) = a0b) (show ((0 : Nat) : Int) = 0 from rfl) (show ((12 : Nat) : Int) = 12 from rfl)) (show (60 : Int32) = i3 60 from rfl) (by omega) (by omega) (by omega) (by omega)) (by omega) (by omega) (by omega)) (show ((3 : Nat) : Int) = 3 from rfl) (zm_rd (Z := Z) (ν := ν) (k := 47) (rfl : ((a1b : Nat) : Int) = a1b) ea1i (show ((0 : Nat) : Int) = 0 from rfl)))
      subst e9
      have r37 := zH_k hZ36I 11 a0b 0 13 (lo := 0) (hi := 671) (by decide) rfl
      have q38 := (zu_ne (k' := 11) (b' := a0b) (i' := 0) (j' := 13) hZ36 (fun q => absurd q.1 (by decide))).trans ((zu_ne (k' := 11) (b' := a0b) (i' := 0) (j' := 13) hZ35 (fun q => absurd q.1 (by decide))).trans ((zu_ne (k' := 11) (b' := a0b) (i' := 0) (j' := 13) hZ34 (fun q => absurd q.1 (by decide))).trans ((zu_ne (k' := 11) (b' := a0b) (i' := 0) (j' := 13) hZ33 (fun q => absurd q.1 (by decide))).trans ((zu_ne (k' := 11) (b' := a0b) (i' := 0) (j' := 13) hZ30 (fun q => absurd q.1 (by decide))).trans ((zu_ne (k' := 11) (b' := a0b) (i' := 0) (j' := 13) hZ26 (fun q => absurd q.1 (by decide))).trans ((zu_ne (k' := 11) (b' := a0b) (i' := 0) (j' := 13) hZ20 (fun q => absurd q.2.2.2 (by decide))).trans (zu_ne (k' := 11) (b' := a0b) (i' := 0) (j' := 13) hZ17 (fun q => absurd q.1 (by decide)))))))))
      obtain ⟨Z39, hZ39⟩ := zx (zu Z36 53 a0b ((Z30 11 a0b 0 12) % 60) 4 (Z36 11 a0b 0 13))
      replace hP := zl_e hP hZ39
      have hZ39I := zH_u hZ36I hZ39 (lo := -2147483648) (hi := 2147483647) (by decide) rfl (by omega) ⟨by decide, by decide⟩ (Or.inl (by decide)) rfl
      have hZ39U : zU [a0b] Z Z39 := zU_u hZ36U hZ39 (Or.inr (List.Mem.head _))
      have hZ39K : zC [14, 42, 53, 1112] Z Z39 := zC_u hZ36K hZ39 (by decide)
      intro μ9 e9
      replace e9 := e9.trans (zm_wI (Z := Z36) (ν := ν) hZ39 (rfl : ((a0b : Nat) : Int) = a0b) (i3I (y := ((Z30 11 a0b 0 12) % 60)) (i3R (zm_rd (Z := Z30) (ν := ν) (k := 11) (rfl : ((a0b : Nat) : Int) = a0b) (show ((0 : Nat) : Int) = 0 from rfl) (show ((12 : Nat) : Int) = 12 from rfl)) (show (60 : Int32) = i3 60 from rfl) (by omega) (by omega) (by omega) (by omega)) (by omega) (by omega) (by omega)) (show ((4 : Nat) : Int) = 4 from rfl) (zm_rd (Z := Z36) (ν := ν) (k := 11) (rfl : ((a0b : Nat) : Int) = a0b) (show ((0 : Nat) : Int) = 0 from rfl) (show ((13 : Nat) : Int) = 13 from rfl)))
      subst e9
      have r40 := zH_c12 hZ39I a0b (zbh (c := 1) (k := 0) hM (Nat.le_of_ble_eq_true rfl))
      have q41 := (zu_ne (k' := 11) (b' := a0b) (i' := 0) (j' := 12) hZ39 (fun q => absurd q.1 (by decide))).trans ((zu_ne (k' := 11) (b' := a0b) (i' := 0) (j' := 12) hZ36 (fun q => absurd q.1 (by decide))).trans ((zu_ne (k' := 11) (b' := a0b) (i' := 0) (j' := 12) hZ35 (fun q => absurd q.1 (by decide))).trans ((zu_ne (k' := 11) (b' := a0b) (i' := 0) (j' := 12) hZ34 (fun q => absurd q.1 (by decide))).trans (zu_ne (k' := 11) (b' := a0b) (i' := 0) (j' := 12) hZ33 (fun q => absurd q.1 (by decide))))))
      obtain ⟨Z42, hZ42⟩ := zx (zu Z39 11 a0b 0 12 ((Z39 11 a0b 0 12) + 1))
      replace hP := zl_e hP hZ42
      have hZ42I := zH_i12 hZ39I hZ42 (zbh (c := 1) (k := 1) hM (Nat.le_of_ble_eq_true rfl)) (by omega)
      replace hZ42I := zbt (c := 2) hZ42I rfl
      have hZ42U : zU [a0b] Z Z42 := zU_u hZ39U hZ42 (Or.inr (List.Mem.head _))
      have hZ42K : zC [14, 42, 53, 1112] Z Z42 := zC_u hZ39K hZ42 (by decide)
      intro μ9 e9
      replace e9 := e9.trans (zm_wI (Z := Z39) (ν := ν) hZ42 (rfl : ((a0b : Nat) : Int) = a0b) (show ((0 : Nat) : Int) = 0 from rfl) (show ((12 : Nat) : Int) = 12 from rfl) (i3A (zm_rd (Z := Z39) (ν := ν) (k := 11) (rfl : ((a0b : Nat) : Int) = a0b) (show ((0 : Nat) : Int) = 0 from rfl) (show ((12 : Nat) : Int) = 12 from rfl)) (show (1 : Int32) = i3 1 from rfl)))
      subst e9
      have r43 := zH_f hZ42I 42 a0b (Z 44 a0b (Z 47 a1b a1ij 0) 0) 2
      have r44 := w3_r ((Z42 42 a0b (Z 44 a0b (Z 47 a1b a1ij 0) 0) 2) + ((Z 47 a1b a1ij 18) - (((Z 47 a1b a1ij 18) * (Z 42 a0b (Z 44 a0b (Z 47 a1b a1ij 0) 0) 0)) / 100)))
      obtain ⟨Z45, hZ45⟩ := zx (zu Z42 42 a0b (Z 44 a0b (Z 47 a1b a1ij 0) 0) 2 (w3 ((Z42 42 a0b (Z 44 a0b (Z 47 a1b a1ij 0) 0) 2) + ((Z 47 a1b a1ij 18) - (((Z 47 a1b a1ij 18) * (Z 42 a0b (Z 44 a0b (Z 47 a1b a1ij 0) 0) 0)) / 100)))))
      replace hP := zl_e hP hZ45
      have hZ45I := zH_u hZ42I hZ45 (lo := -2147483648) (hi := 2147483647) (by decide) rfl (by omega) ⟨by decide, by decide⟩ (Or.inl (by decide)) rfl
      have hZ45U : zU [a0b] Z Z45 := zU_u hZ42U hZ45 (Or.inr (List.Mem.head _))
      have hZ45K : zC [14, 42, 53, 1112] Z Z45 := zC_u hZ42K hZ45 (by decide)
      intro μ9 e9
      replace e9 := e9.trans (zm_wI (Z := Z42) (ν := ν) hZ45 (rfl : ((a0b : Nat) : Int) = a0b) (i3I (y := (Z 44 a0b (Z 47 a1b a1ij 0) 0)) (zm_rd (Z := Z) (ν := ν) (k := 44) (rfl : ((a0b : Nat) : Int) = a0b) (i3I (y := (Z 47 a1b a1ij 0)) (zm_rd (Z := Z) (ν := ν) (k := 47) (rfl : ((a1b : Nat) : Int) = a1b) ea1i (show ((0 : Nat) : Int) = 0 from rfl)) (by omega) (by omega) (by omega)) (show ((0 : Nat) : Int) = 0 from rfl)) (by omega) (by omega) (by omega)) (show ((2 : Nat) : Int) = 2 from rfl) (i3W (i3A (zm_rd (Z := Z42) (ν := ν) (k := 42) (rfl : ((a0b : Nat) : Int) = a0b) (i3I (y := (Z 44 a0b (Z 47 a1b a1ij 0) 0)) (zm_rd (Z := Z) (ν := ν) (k := 44) (rfl : ((a0b : Nat) : Int) = a0b) (i3I (y := (Z 47 a1b a1ij 0)) (zm_rd (Z := Z) (ν := ν) (k := 47) (rfl : ((a1b : Nat) : Int) = a1b) ea1i (show ((0 : Nat) : Int) = 0 from rfl)) (by omega) (by omega) (by omega)) (show ((0 : Nat) : Int) = 0 from rfl)) (by omega) (by omega) (by omega)) (show ((2 : Nat) : Int) = 2 from rfl)) (i3S (zm_rd (Z := Z) (ν := ν) (k := 47) (rfl : ((a1b : Nat) : Int) = a1b) ea1i (show ((18 : Nat) : Int) = 18 from rfl)) (i3D (i3M (zm_rd (Z := Z) (ν := ν) (k := 47) (rfl : ((a1b : Nat) : Int) = a1b) ea1i (show ((18 : Nat) : Int) = 18 from rfl)) (zm_rd (Z := Z) (ν := ν) (k := 42) (rfl : ((a0b : Nat) : Int) = a0b) (i3I (y := (Z 44 a0b (Z 47 a1b a1ij 0) 0)) (zm_rd (Z := Z) (ν := ν) (k := 44) (rfl : ((a0b : Nat) : Int) = a0b) (i3I (y := (Z 47 a1b a1ij 0)) (zm_rd (Z := Z) (ν := ν) (k := 47) (rfl : ((a1b : Nat) : Int) = a1b) ea1i (show ((0 : Nat) : Int) = 0 from rfl)) (by omega) (by omega) (by omega)) (show ((0 : Nat) : Int) = 0 from rfl)) (by omega) (by omega) (by omega)) (show ((0 : Nat) : Int) = 0 from rfl))) (show (100 : Int32) = i3 100 from rfl) (by omega) (by omega) (by omega) (by omega))))))
      subst e9
      have r46 := zH_f hZ45I 42 a0b (Z 44 a0b (Z 47 a1b a1ij 0) 0) 3
      have r47 := w3_r ((Z45 42 a0b (Z 44 a0b (Z 47 a1b a1ij 0) 0) 3) + (Z 47 a1b a1ij 18))
      obtain ⟨Z48, hZ48⟩ := zx (zu Z45 42 a0b (Z 44 a0b (Z 47 a1b a1ij 0) 0) 3 (w3 ((Z45 42 a0b (Z 44 a0b (Z 47 a1b a1ij 0) 0) 3) + (Z 47 a1b a1ij 18))))
      replace hP := zl_e hP hZ48
      have hZ48I := zH_u hZ45I hZ48 (lo := -2147483648) (hi := 2147483647) (by decide) rfl (by omega) ⟨by decide, by decide⟩ (Or.inl (by decide)) rfl
      have hZ48U : zU [a0b] Z Z48 := zU_u hZ45U hZ48 (Or.inr (List.Mem.head _))
      have hZ48K : zC [14, 42, 53, 1112] Z Z48 := zC_u hZ45K hZ48 (by decide)
      intro μ9 e9
      replace e9 := e9.trans (zm_wI (Z := Z45) (ν := ν) hZ48 (rfl : ((a0b : Nat) : Int) = a0b) (i3I (y := (Z 44 a0b (Z 47 a1b a1ij 0) 0)) (zm_rd (Z := Z) (ν := ν) (k := 44) (rfl : ((a0b : Nat) : Int) = a0b) (i3I (y := (Z 47 a1b a1ij 0)) (zm_rd (Z := Z) (ν := ν) (k := 47) (rfl : ((a1b : Nat) : Int) = a1b) ea1i (show ((0 : Nat) : Int) = 0 from rfl)) (by omega) (by omega) (by omega)) (show ((0 : Nat) : Int) = 0 from rfl)) (by omega) (by omega) (by omega)) (show ((3 : Nat) : Int) = 3 from rfl) (i3W (i3A (zm_rd (Z := Z45) (ν := ν) (k := 42) (rfl : ((a0b : Nat) : Int) = a0b) (i3I (y := (Z 44 a0b (Z 47 a1b a1ij 0) 0)) (zm_rd (Z := Z) (ν := ν) (k := 44) (rfl : ((a0b : Nat) : Int) = a0b) (i3I (y := (Z 47 a1b a1ij 0)) (zm_rd (Z := Z) (ν := ν) (k := 47) (rfl : ((a1b : Nat) : Int) = a1b) ea1i (show ((0 : Nat) : Int) = 0 from rfl)) (by omega) (by omega) (by omega)) (show ((0 : Nat) : Int) = 0 from rfl)) (by omega) (by omega) (by omega)) (show ((3 : Nat) : Int) = 3 from rfl)) (zm_rd (Z := Z) (ν := ν) (k := 47) (rfl : ((a1b : Nat) : Int) = a1b) ea1i (show ((18 : Nat) : Int) = 18 from rfl)))))
      subst e9
      have r49 := zH_f hZ48I 42 a0b (Z 44 a0b (Z 47 a1b a1ij 0) 0) 4
      have r50 := w3_r ((Z48 42 a0b (Z 44 a0b (Z 47 a1b a1ij 0) 0) 4) + (((Z 47 a1b a1ij 18) * (Z 42 a0b (Z 44 a0b (Z 47 a1b a1ij 0) 0) 0)) / 100))
      obtain ⟨Z51, hZ51⟩ := zx (zu Z48 42 a0b (Z 44 a0b (Z 47 a1b a1ij 0) 0) 4 (w3 ((Z48 42 a0b (Z 44 a0b (Z 47 a1b a1ij 0) 0) 4) + (((Z 47 a1b a1ij 18) * (Z 42 a0b (Z 44 a0b (Z 47 a1b a1ij 0) 0) 0)) / 100))))
      replace hP := zl_e hP hZ51
      have hZ51I := zH_u hZ48I hZ51 (lo := -2147483648) (hi := 2147483647) (by decide) rfl (by omega) ⟨by decide, by decide⟩ (Or.inl (by decide)) rfl
      have hZ51U : zU [a0b] Z Z51 := zU_u hZ48U hZ51 (Or.inr (List.Mem.head _))
      have hZ51K : zC [14, 42, 53, 1112] Z Z51 := zC_u hZ48K hZ51 (by decide)
      intro μ9 e9
      replace e9 := e9.trans (zm_wI (Z := Z48) (ν := ν) hZ51 (rfl : ((a0b : Nat) : Int) = a0b) (i3I (y := (Z 44 a0b (Z 47 a1b a1ij 0) 0)) (zm_rd (Z := Z) (ν := ν) (k := 44) (rfl : ((a0b : Nat) : Int) = a0b) (i3I (y := (Z 47 a1b a1ij 0)) (zm_rd (Z := Z) (ν := ν) (k := 47) (rfl : ((a1b : Nat) : Int) = a1b) ea1i (show ((0 : Nat) : Int) = 0 from rfl)) (by omega) (by omega) (by omega)) (show ((0 : Nat) : Int) = 0 from rfl)) (by omega) (by omega) (by omega)) (show ((4 : Nat) : Int) = 4 from rfl) (i3W (i3A (zm_rd (Z := Z48) (ν := ν) (k := 42) (rfl : ((a0b : Nat) : Int) = a0b) (i3I (y := (Z 44 a0b (Z 47 a1b a1ij 0) 0)) (zm_rd (Z := Z) (ν := ν) (k := 44) (rfl : ((a0b : Nat) : Int) = a0b) (i3I (y := (Z 47 a1b a1ij 0)) (zm_rd (Z := Z) (ν := ν) (k := 47) (rfl : ((a1b : Nat) : Int) = a1b) ea1i (show ((0 : Nat) : Int) = 0 from rfl)) (by omega) (by omega) (by omega)) (show ((0 : Nat) : Int) = 0 from rfl)) (by omega) (by omega) (by omega)) (show ((4 : Nat) : Int) = 4 from rfl)) (i3D (i3M (zm_rd (Z := Z) (ν := ν) (k := 47) (rfl : ((a1b : Nat) : Int) = a1b) ea1i (show ((18 : Nat) : Int) = 18 from rfl)) (zm_rd (Z := Z) (ν := ν) (k := 42) (rfl : ((a0b : Nat) : Int) = a0b) (i3I (y := (Z 44 a0b (Z 47 a1b a1ij 0) 0)) (zm_rd (Z := Z) (ν := ν) (k := 44) (rfl : ((a0b : Nat) : Int) = a0b) (i3I (y := (Z 47 a1b a1ij 0)) (zm_rd (Z := Z) (ν := ν) (k := 47) (rfl : ((a1b : Nat) : Int) = a1b) ea1i (show ((0 : Nat) : Int) = 0 from rfl)) (by omega) (by omega) (by omega)) (show ((0 : Nat) : Int) = 0 from rfl)) (by omega) (by omega) (by omega)) (show ((0 : Nat) : Int) = 0 from rfl))) (show (100 : Int32) = i3 100 from rfl) (by omega) (by omega) (by omega) (by omega)))))
      subst e9
      exact zlV hP ⟨hZ51I, hZ51K, hZ51U⟩
    · replace hP := zE_n hP h23
      have r52 := zH_f hZ20I 42 a0b (Z 44 a0b (Z 47 a1b a1ij 0) 0) 2
      have r53 := w3_r ((Z20 42 a0b (Z 44 a0b (Z 47 a1b a1ij 0) 0) 2) + ((Z 47 a1b a1ij 18) - (((Z 47 a1b a1ij 18) * (Z 42 a0b (Z 44 a0b (Z 47 a1b a1ij 0) 0) 0)) / 100)))
      obtain ⟨Z54, hZ54⟩ := zx (zu Z20 42 a0b (Z 44 a0b (Z 47 a1b a1ij 0) 0) 2 (w3 ((Z20 42 a0b (Z 44 a0b (Z 47 a1b a1ij 0) 0) 2) + ((Z 47 a1b a1ij 18) - (((Z 47 a1b a1ij 18) * (Z 42 a0b (Z 44 a0b (Z 47 a1b a1ij 0) 0) 0)) / 100)))))
      replace hP := zl_e hP hZ54
      have hZ54I := zH_u hZ20I hZ54 (lo := -2147483648) (hi := 2147483647) (by decide) rfl (by omega) ⟨by decide, by decide⟩ (Or.inl (by decide)) rfl
      have hZ54U : zU [a0b] Z Z54 := zU_u hZ20U hZ54 (Or.inr (List.Mem.head _))
      have hZ54K : zC [14, 42, 53, 1112] Z Z54 := zC_u hZ20K hZ54 (by decide)
      intro μ9 e9
      replace e9 := e9.trans (zm_wI (Z := Z20) (ν := ν) hZ54 (rfl : ((a0b : Nat) : Int) = a0b) (i3I (y := (Z 44 a0b (Z 47 a1b a1ij 0) 0)) (zm_rd (Z := Z) (ν := ν) (k := 44) (rfl : ((a0b : Nat) : Int) = a0b) (i3I (y := (Z 47 a1b a1ij 0)) (zm_rd (Z := Z) (ν := ν) (k := 47) (rfl : ((a1b : Nat) : Int) = a1b) ea1i (show ((0 : Nat) : Int) = 0 from rfl)) (by omega) (by omega) (by omega)) (show ((0 : Nat) : Int) = 0 from rfl)) (by omega) (by omega) (by omega)) (show ((2 : Nat) : Int) = 2 from rfl) (i3W (i3A (zm_rd (Z := Z20) (ν := ν) (k := 42) (rfl : ((a0b : Nat) : Int) = a0b) (i3I (y := (Z 44 a0b (Z 47 a1b a1ij 0) 0)) (zm_rd (Z := Z) (ν := ν) (k := 44) (rfl : ((a0b : Nat) : Int) = a0b) (i3I (y := (Z 47 a1b a1ij 0)) (zm_rd (Z := Z) (ν := ν) (k := 47) (rfl : ((a1b : Nat) : Int) = a1b) ea1i (show ((0 : Nat) : Int) = 0 from rfl)) (by omega) (by omega) (by omega)) (show ((0 : Nat) : Int) = 0 from rfl)) (by omega) (by omega) (by omega)) (show ((2 : Nat) : Int) = 2 from rfl)) (i3S (zm_rd (Z := Z) (ν := ν) (k := 47) (rfl : ((a1b : Nat) : Int) = a1b) ea1i (show ((18 : Nat) : Int) = 18 from rfl)) (i3D (i3M (zm_rd (Z := Z) (ν := ν) (k := 47) (rfl : ((a1b : Nat) : Int) = a1b) ea1i (show ((18 : Nat) : Int) = 18 from rfl)) (zm_rd (Z := Z) (ν := ν) (k := 42) (rfl : ((a0b : Nat) : Int) = a0b) (i3I (y := (Z 44 a0b (Z 47 a1b a1ij 0) 0)) (zm_rd (Z := Z) (ν := ν) (k := 44) (rfl : ((a0b : Nat) : Int) = a0b) (i3I (y := (Z 47 a1b a1ij 0)) (zm_rd (Z := Z) (ν := ν) (k := 47) (rfl : ((a1b : Nat) : Int) = a1b) ea1i (show ((0 : Nat) : Int) = 0 from rfl)) (by omega) (by omega) (by omega)) (show ((0 : Nat) : Int) = 0 from rfl)) (by omega) (by omega) (by omega)) (show ((0 : Nat) : Int) = 0 from rfl))) (show (100 : Int32) = i3 100 from rfl) (by omega) (by omega) (by omega) (by omega))))))
      subst e9
      have r55 := zH_f hZ54I 42 a0b (Z 44 a0b (Z 47 a1b a1ij 0) 0) 3
      have r56 := w3_r ((Z54 42 a0b (Z 44 a0b (Z 47 a1b a1ij 0) 0) 3) + (Z 47 a1b a1ij 18))
      obtain ⟨Z57, hZ57⟩ := zx (zu Z54 42 a0b (Z 44 a0b (Z 47 a1b a1ij 0) 0) 3 (w3 ((Z54 42 a0b (Z 44 a0b (Z 47 a1b a1ij 0) 0) 3) + (Z 47 a1b a1ij 18))))
      replace hP := zl_e hP hZ57
      have hZ57I := zH_u hZ54I hZ57 (lo := -2147483648) (hi := 2147483647) (by decide) rfl (by omega) ⟨by decide, by decide⟩ (Or.inl (by decide)) rfl
      have hZ57U : zU [a0b] Z Z57 := zU_u hZ54U hZ57 (Or.inr (List.Mem.head _))
      have hZ57K : zC [14, 42, 53, 1112] Z Z57 := zC_u hZ54K hZ57 (by decide)
      intro μ9 e9
      replace e9 := e9.trans (zm_wI (Z := Z54) (ν := ν) hZ57 (rfl : ((a0b : Nat) : Int) = a0b) (i3I (y := (Z 44 a0b (Z 47 a1b a1ij 0) 0)) (zm_rd (Z := Z) (ν := ν) (k := 44) (rfl : ((a0b : Nat) : Int) = a0b) (i3I (y := (Z 47 a1b a1ij 0)) (zm_rd (Z := Z) (ν := ν) (k := 47) (rfl : ((a1b : Nat) : Int) = a1b) ea1i (show ((0 : Nat) : Int) = 0 from rfl)) (by omega) (by omega) (by omega)) (show ((0 : Nat) : Int) = 0 from rfl)) (by omega) (by omega) (by omega)) (show ((3 : Nat) : Int) = 3 from rfl) (i3W (i3A (zm_rd (Z := Z54) (ν := ν) (k := 42) (rfl : ((a0b : Nat) : Int) = a0b) (i3I (y := (Z 44 a0b (Z 47 a1b a1ij 0) 0)) (zm_rd (Z := Z) (ν := ν) (k := 44) (rfl : ((a0b : Nat) : Int) = a0b) (i3I (y := (Z 47 a1b a1ij 0)) (zm_rd (Z := Z) (ν := ν) (k := 47) (rfl : ((a1b : Nat) : Int) = a1b) ea1i (show ((0 : Nat) : Int) = 0 from rfl)) (by omega) (by omega) (by omega)) (show ((0 : Nat) : Int) = 0 from rfl)) (by omega) (by omega) (by omega)) (show ((3 : Nat) : Int) = 3 from rfl)) (zm_rd (Z := Z) (ν := ν) (k := 47) (rfl : ((a1b : Nat) : Int) = a1b) ea1i (show ((18 : Nat) : Int) = 18 from rfl)))))
      subst e9
      have r58 := zH_f hZ57I 42 a0b (Z 44 a0b (Z 47 a1b a1ij 0) 0) 4
      obtain ⟨Z59, hZ59⟩ := zx (zu Z57 42 a0b (Z 44 a0b (Z 47 a1b a1ij 0) 0) 4 ((Z57 42 a0b (Z 44 a0b (Z 47 a1b a1ij 0) 0) 4) + (((Z 47 a1b a1ij 18) * (Z 42 a0b (Z 44 a0b (Z 47 a1b a1ij 0) 0) 0)) / 100)))
      replace hP := zl_e hP hZ59
      have hZ59I := zH_u hZ57I hZ59 (lo := -2147483648) (hi := 2147483647) (by decide) rfl (by omega) ⟨by decide, by decide⟩ (Or.inl (by decide)) rfl
      have hZ59U : zU [a0b] Z Z59 := zU_u hZ57U hZ59 (Or.inr (List.Mem.head _))
      have hZ59K : zC [14, 42, 53, 1112] Z Z59 := zC_u hZ57K hZ59 (by decide)
      intro μ9 e9
      replace e9 := e9.trans (zm_wI (Z := Z57) (ν := ν) hZ59 (rfl : ((a0b : Nat) : Int) = a0b) (i3I (y := (Z 44 a0b (Z 47 a1b a1ij 0) 0)) (zm_rd (Z := Z) (ν := ν) (k := 44) (rfl : ((a0b : Nat) : Int) = a0b) (i3I (y := (Z 47 a1b a1ij 0)) (zm_rd (Z := Z) (ν := ν) (k := 47) (rfl : ((a1b : Nat) : Int) = a1b) ea1i (show ((0 : Nat) : Int) = 0 from rfl)) (by omega) (by omega) (by omega)) (show ((0 : Nat) : Int) = 0 from rfl)) (by omega) (by omega) (by omega)) (show ((4 : Nat) : Int) = 4 from rfl) (i3A (zm_rd (Z := Z57) (ν := ν) (k := 42) (rfl : ((a0b : Nat) : Int) = a0b) (i3I (y := (Z 44 a0b (Z 47 a1b a1ij 0) 0)) (zm_rd (Z := Z) (ν := ν) (k := 44) (rfl : ((a0b : Nat) : Int) = a0b) (i3I (y := (Z 47 a1b a1ij 0)) (zm_rd (Z := Z) (ν := ν) (k := 47) (rfl : ((a1b : Nat) : Int) = a1b) ea1i (show ((0 : Nat) : Int) = 0 from rfl)) (by omega) (by omega) (by omega)) (show ((0 : Nat) : Int) = 0 from rfl)) (by omega) (by omega) (by omega)) (show ((4 : Nat) : Int) = 4 from rfl)) (i3D (i3M (zm_rd (Z := Z) (ν := ν) (k := 47) (rfl : ((a1b : Nat) : Int) = a1b) ea1i (show ((18 : Nat) : Int) = 18 from rfl)) (zm_rd (Z := Z) (ν := ν) (k := 42) (rfl : ((a0b : Nat) : Int) = a0b) (i3I (y := (Z 44 a0b (Z 47 a1b a1ij 0) 0)) (zm_rd (Z := Z) (ν := ν) (k := 44) (rfl : ((a0b : Nat) : Int) = a0b) (i3I (y := (Z 47 a1b a1ij 0)) (zm_rd (Z := Z) (ν := ν) (k := 47) (rfl : ((a1b : Nat) : Int) = a1b) ea1i (show ((0 : Nat) : Int) = 0 from rfl)) (by omega) (by omega) (by omega)) (show ((0 : Nat) : Int) = 0 from rfl)) (by omega) (by omega) (by omega)) (show ((0 : Nat) : Int) = 0 from rfl))) (show (100 : Int32) = i3 100 from rfl) (by omega) (by omega) (by omega) (by omega))))
      subst e9
      exact zlV hP ⟨(zbw (a := 1) (c := 2) hZ59I (Nat.le_of_ble_eq_true rfl)), hZ59K, hZ59U⟩
  · replace hP := zE_n hP h4
    have r60 := zH_k hZ 42 a0b (Z 44 a0b (Z 47 a1b a1ij 0) 0) 0 (lo := 0) (hi := 25) (by decide) rfl
    have r61 := z_mul (x := (Z 47 a1b a1ij 18)) (y := (Z 42 a0b (Z 44 a0b (Z 47 a1b a1ij 0) 0) 0)) (a := 0) (b := 25) (by omega) (by omega) (by omega) (by omega)
    refine wz_i0 (Eq.trans (i3NE (i3D (i3M (zm_rd (Z := Z) (ν := ν) (k := 47) (rfl : ((a1b : Nat) : Int) = a1b) ea1i (show ((18 : Nat) : Int) = 18 from rfl)) (zm_rd (Z := Z) (ν := ν) (k := 42) (rfl : ((a0b : Nat) : Int) = a0b) (i3I (y := (Z 44 a0b (Z 47 a1b a1ij 0) 0)) (zm_rd (Z := Z) (ν := ν) (k := 44) (rfl : ((a0b : Nat) : Int) = a0b) (i3I (y := (Z 47 a1b a1ij 0)) (zm_rd (Z := Z) (ν := ν) (k := 47) (rfl : ((a1b : Nat) : Int) = a1b) ea1i (show ((0 : Nat) : Int) = 0 from rfl)) (by omega) (by omega) (by omega)) (show ((0 : Nat) : Int) = 0 from rfl)) (by omega) (by omega) (by omega)) (show ((0 : Nat) : Int) = 0 from rfl))) (show (100 : Int32) = i3 100 from rfl) (by omega) (by omega) (by omega) (by omega)) (show (0 : Int32) = i3 0 from rfl) (by omega) (by omega) (by omega) (by omega)) (decide_eq_false (by omega))) ?_
    have r62 := zH_f hZ 42 a0b (Z 44 a0b (Z 47 a1b a1ij 0) 0) 2
    obtain ⟨Z63, hZ63⟩ := zx (zu Z 42 a0b (Z 44 a0b (Z 47 a1b a1ij 0) 0) 2 ((Z 42 a0b (Z 44 a0b (Z 47 a1b a1ij 0) 0) 2) + ((Z 47 a1b a1ij 18) - (((Z 47 a1b a1ij 18) * (Z 42 a0b (Z 44 a0b (Z 47 a1b a1ij 0) 0) 0)) / 100))))
    replace hP := zl_e hP hZ63
    have hZ63I := zH_u hZ hZ63 (lo := -2147483648) (hi := 2147483647) (by decide) rfl (by omega) ⟨by decide, by decide⟩ (Or.inl (by decide)) rfl
    have hZ63U : zU [a0b] Z Z63 := zU_u zU_r hZ63 (Or.inr (List.Mem.head _))
    have hZ63K : zC [14, 42, 53, 1112] Z Z63 := zC_u zC_r hZ63 (by decide)
    intro μ9 e9
    replace e9 := e9.trans (zm_wI (Z := Z) (ν := ν) hZ63 (rfl : ((a0b : Nat) : Int) = a0b) (i3I (y := (Z 44 a0b (Z 47 a1b a1ij 0) 0)) (zm_rd (Z := Z) (ν := ν) (k := 44) (rfl : ((a0b : Nat) : Int) = a0b) (i3I (y := (Z 47 a1b a1ij 0)) (zm_rd (Z := Z) (ν := ν) (k := 47) (rfl : ((a1b : Nat) : Int) = a1b) ea1i (show ((0 : Nat) : Int) = 0 from rfl)) (by omega) (by omega) (by omega)) (show ((0 : Nat) : Int) = 0 from rfl)) (by omega) (by omega) (by omega)) (show ((2 : Nat) : Int) = 2 from rfl) (i3A (zm_rd (Z := Z) (ν := ν) (k := 42) (rfl : ((a0b : Nat) : Int) = a0b) (i3I (y := (Z 44 a0b (Z 47 a1b a1ij 0) 0)) (zm_rd (Z := Z) (ν := ν) (k := 44) (rfl : ((a0b : Nat) : Int) = a0b) (i3I (y := (Z 47 a1b a1ij 0)) (zm_rd (Z := Z) (ν := ν) (k := 47) (rfl : ((a1b : Nat) : Int) = a1b) ea1i (show ((0 : Nat) : Int) = 0 from rfl)) (by omega) (by omega) (by omega)) (show ((0 : Nat) : Int) = 0 from rfl)) (by omega) (by omega) (by omega)) (show ((2 : Nat) : Int) = 2 from rfl)) (i3S (zm_rd (Z := Z) (ν := ν) (k := 47) (rfl : ((a1b : Nat) : Int) = a1b) ea1i (show ((18 : Nat) : Int) = 18 from rfl)) (i3D (i3M (zm_rd (Z := Z) (ν := ν) (k := 47) (rfl : ((a1b : Nat) : Int) = a1b) ea1i (show ((18 : Nat) : Int) = 18 from rfl)) (zm_rd (Z := Z) (ν := ν) (k := 42) (rfl : ((a0b : Nat) : Int) = a0b) (i3I (y := (Z 44 a0b (Z 47 a1b a1ij 0) 0)) (zm_rd (Z := Z) (ν := ν) (k := 44) (rfl : ((a0b : Nat) : Int) = a0b) (i3I (y := (Z 47 a1b a1ij 0)) (zm_rd (Z := Z) (ν := ν) (k := 47) (rfl : ((a1b : Nat) : Int) = a1b) ea1i (show ((0 : Nat) : Int) = 0 from rfl)) (by omega) (by omega) (by omega)) (show ((0 : Nat) : Int) = 0 from rfl)) (by omega) (by omega) (by omega)) (show ((0 : Nat) : Int) = 0 from rfl))) (show (100 : Int32) = i3 100 from rfl) (by omega) (by omega) (by omega) (by omega)))))
    subst e9
    have r64 := zH_f hZ63I 42 a0b (Z 44 a0b (Z 47 a1b a1ij 0) 0) 3
    obtain ⟨Z65, hZ65⟩ := zx (zu Z63 42 a0b (Z 44 a0b (Z 47 a1b a1ij 0) 0) 3 ((Z63 42 a0b (Z 44 a0b (Z 47 a1b a1ij 0) 0) 3) + (Z 47 a1b a1ij 18)))
    replace hP := zl_e hP hZ65
    have hZ65I := zH_u hZ63I hZ65 (lo := -2147483648) (hi := 2147483647) (by decide) rfl (by omega) ⟨by decide, by decide⟩ (Or.inl (by decide)) rfl
    have hZ65U : zU [a0b] Z Z65 := zU_u hZ63U hZ65 (Or.inr (List.Mem.head _))
    have hZ65K : zC [14, 42, 53, 1112] Z Z65 := zC_u hZ63K hZ65 (by decide)
    intro μ9 e9
    replace e9 := e9.trans (zm_wI (Z := Z63) (ν := ν) hZ65 (rfl : ((a0b : Nat) : Int) = a0b) (i3I (y := (Z 44 a0b (Z 47 a1b a1ij 0) 0)) (zm_rd (Z := Z) (ν := ν) (k := 44) (rfl : ((a0b : Nat) : Int) = a0b) (i3I (y := (Z 47 a1b a1ij 0)) (zm_rd (Z := Z) (ν := ν) (k := 47) (rfl : ((a1b : Nat) : Int) = a1b) ea1i (show ((0 : Nat) : Int) = 0 from rfl)) (by omega) (by omega) (by omega)) (show ((0 : Nat) : Int) = 0 from rfl)) (by omega) (by omega) (by omega)) (show ((3 : Nat) : Int) = 3 from rfl) (i3A (zm_rd (Z := Z63) (ν := ν) (k := 42) (rfl : ((a0b : Nat) : Int) = a0b) (i3I (y := (Z 44 a0b (Z 47 a1b a1ij 0) 0)) (zm_rd (Z := Z) (ν := ν) (k := 44) (rfl : ((a0b : Nat) : Int) = a0b) (i3I (y := (Z 47 a1b a1ij 0)) (zm_rd (Z := Z) (ν := ν) (k := 47) (rfl : ((a1b : Nat) : Int) = a1b) ea1i (show ((0 : Nat) : Int) = 0 from rfl)) (by omega) (by omega) (by omega)) (show ((0 : Nat) : Int) = 0 from rfl)) (by omega) (by omega) (by omega)) (show ((3 : Nat) : Int) = 3 from rfl)) (zm_rd (Z := Z) (ν := ν) (k := 47) (rfl : ((a1b : Nat) : Int) = a1b) ea1i (show ((18 : Nat) : Int) = 18 from rfl))))
    subst e9
    have r66 := zH_f hZ65I 42 a0b (Z 44 a0b (Z 47 a1b a1ij 0) 0) 4
    obtain ⟨Z67, hZ67⟩ := zx (zu Z65 42 a0b (Z 44 a0b (Z 47 a1b a1ij 0) 0) 4 ((Z65 42 a0b (Z 44 a0b (Z 47 a1b a1ij 0) 0) 4) + (((Z 47 a1b a1ij 18) * (Z 42 a0b (Z 44 a0b (Z 47 a1b a1ij 0) 0) 0)) / 100)))
    replace hP := zl_e hP hZ67
    have hZ67I := zH_u hZ65I hZ67 (lo := -2147483648) (hi := 2147483647) (by decide) rfl (by omega) ⟨by decide, by decide⟩ (Or.inl (by decide)) rfl
    have hZ67U : zU [a0b] Z Z67 := zU_u hZ65U hZ67 (Or.inr (List.Mem.head _))
    have hZ67K : zC [14, 42, 53, 1112] Z Z67 := zC_u hZ65K hZ67 (by decide)
    intro μ9 e9
    replace e9 := e9.trans (zm_wI (Z := Z65) (ν := ν) hZ67 (rfl : ((a0b : Nat) : Int) = a0b) (i3I (y := (Z 44 a0b (Z 47 a1b a1ij 0) 0)) (zm_rd (Z := Z) (ν := ν) (k := 44) (rfl : ((a0b : Nat) : Int) = a0b) (i3I (y := (Z 47 a1b a1ij 0)) (zm_rd (Z := Z) (ν := ν) (k := 47) (rfl : ((a1b : Nat) : Int) = a1b) ea1i (show ((0 : Nat) : Int) = 0 from rfl)) (by omega) (by omega) (by omega)) (show ((0 : Nat) : Int) = 0 from rfl)) (by omega) (by omega) (by omega)) (show ((4 : Nat) : Int) = 4 from rfl) (i3A (zm_rd (Z := Z65) (ν := ν) (k := 42) (rfl : ((a0b : Nat) : Int) = a0b) (i3I (y := (Z 44 a0b (Z 47 a1b a1ij 0) 0)) (zm_rd (Z := Z) (ν := ν) (k := 44) (rfl : ((a0b : Nat) : Int) = a0b) (i3I (y := (Z 47 a1b a1ij 0)) (zm_rd (Z := Z) (ν := ν) (k := 47) (rfl : ((a1b : Nat) : Int) = a1b) ea1i (show ((0 : Nat) : Int) = 0 from rfl)) (by omega) (by omega) (by omega)) (show ((0 : Nat) : Int) = 0 from rfl)) (by omega) (by omega) (by omega)) (show ((4 : Nat) : Int) = 4 from rfl)) (i3D (i3M (zm_rd (Z := Z) (ν := ν) (k := 47) (rfl : ((a1b : Nat) : Int) = a1b) ea1i (show ((18 : Nat) : Int) = 18 from rfl)) (zm_rd (Z := Z) (ν := ν) (k := 42) (rfl : ((a0b : Nat) : Int) = a0b) (i3I (y := (Z 44 a0b (Z 47 a1b a1ij 0) 0)) (zm_rd (Z := Z) (ν := ν) (k := 44) (rfl : ((a0b : Nat) : Int) = a0b) (i3I (y := (Z 47 a1b a1ij 0)) (zm_rd (Z := Z) (ν := ν) (k := 47) (rfl : ((a1b : Nat) : Int) = a1b) ea1i (show ((0 : Nat) : Int) = 0 from rfl)) (by omega) (by omega) (by omega)) (show ((0 : Nat) : Int) = 0 from rfl)) (by omega) (by omega) (by omega)) (show ((0 : Nat) : Int) = 0 from rfl))) (show (100 : Int32) = i3 100 from rfl) (by omega) (by omega) (by omega) (by omega))))
    subst e9
    exact zlV hP ⟨(zbw (a := 0) (c := 2) hZ67I (Nat.le_of_ble_eq_true rfl)), hZ67K, hZ67U⟩
/- yX1_takerOf -/
def zl_34_1 (x0b : Int) (x1b : Int) (x1ij : Int) (x2 : Int) : Nat → qz_Z → Int → Int → Int → Int × Int × Int
  | 0, Z, x3, x4, x5 => (x3, x4, x5)
  | m + 1, Z, x3, x4, x5 => (if (Z 11 x0b 0 5) ≤ x5 then (x3, x4, x5) else (if (Z 46 x0b x5 4) ≤ x4 then zl_34_1 x0b x1b x1ij x2 m Z x3 x4 (x5 + 1) else (zlet (zf_14 Z x0b x0b x5) (fun v9 => (if v9 = 0 then zl_34_1 x0b x1b x1ij x2 m Z x3 x4 (x5 + 1) else (if 60 ≤ (Z 11 x0b 0 6) then zl_34_1 x0b x1b x1ij x2 m Z x3 x4 (x5 + 1) else (zlet (zf_33 Z x0b x5 x1b x1ij) (fun v12 => (if v12 ≠ 0 then (if (max 0 (min (w3 ((w3 ((Z 45 x0b (Z 46 x0b x5 0) 1) + (Z 45 x0b (Z 46 x0b x5 0) 3))) - (Z 45 x0b (Z 46 x0b x5 0) 4))) (Z 46 x0b x5 4))) < x2 then zl_34_1 x0b x1b x1ij x2 m Z x3 x4 (x5 + 1) else zl_34_1 x0b x1b x1ij x2 m Z x5 (Z 46 x0b x5 4) (x5 + 1)) else zl_34_1 x0b x1b x1ij x2 m Z x3 x4 (x5 + 1))))))))))
theorem sl_34_1 {s : zSM} {Z : qz_Z} {ν : qz_N} (hZ : zH s Z) (hM : s.2 + 0 ≤ 1000000000) (x0b : Nat) (x1b : Nat) (x1i : Nat) {x1ij : Int} (ex1i : (x1i : Int) = x1ij) (gx1ij : 0 ≤ x1ij ∧ x1ij ≤ 47) {x2 : Int} (gx2 : 1 ≤ x2 ∧ x2 ≤ 9999) {x3 : Int} (gx3 : -1 ≤ x3 ∧ x3 ≤ 23) {x4 : Int} (gx4 : 0 ≤ x4 ∧ x4 ≤ 9999) {x5 : Int} (gx5 : 0 ≤ x5 ∧ x5 ≤ 24) (gr0 : x3 = -1 ∨ Z 11 x0b 0 6 < 60) (gr1 : x3 = -1 ∨ x2 ≤ w3 (w3 (Z 45 x0b (Z 46 x0b x3 0) 1 + Z 45 x0b (Z 46 x0b x3 0) 3) - Z 45 x0b (Z 46 x0b x3 0) 4)) {k : wz_K} {R : wz_R} {L : qz_L} (hL : qz_fg [true, true, true, true, true, true, false] L = [some (.inr (.inr (some (10, x0b, 0)))), some (.inr (.inr (some (44, x1b, x1i)))), some (.inl (i3 x2)), some (.inl (i3 x3)), some (.inl (i3 x4)), some (.inl (i3 x5)), none]) {T : Int × Int × Int} (hP : zE T (zl_34_1 x0b x1b x1ij x2 ((24 - x5).toNat + 1) Z x3 x4 x5)) (hk : ∀ (L9 : qz_L) (yx3 yx4 yx5 : Int), qz_fg [false, false, false, true, false, false, false] L9 = [none, none, none, some (.inl (i3 yx3)), none, none, none] → (-1 ≤ yx3 ∧ yx3 ≤ 23) → (0 ≤ yx4 ∧ yx4 ≤ 9999) → (0 ≤ yx5 ∧ yx5 ≤ 24) → (yx3 = -1 ∨ Z 11 x0b 0 6 < 60) → (yx3 = -1 ∨ x2 ≤ w3 (w3 (Z 45 x0b (Z 46 x0b yx3 0) 1 + Z 45 x0b (Z 46 x0b yx3 0) 3) - Z 45 x0b (Z 46 x0b yx3 0) 4)) → zE T ((yx3, yx4, yx5)) → k 0 (L9, [], zm Z ν)) : wz_loop qb_34_1 65536 k R (L, [], zm Z ν) := by
  refine wz_lp sb_34_1 (fun m x => ∃ x3 : Int, ∃ x4 : Int, ∃ x5 : Int, qz_fg [true, true, true, true, true, true, false] x.1 = [some (.inr (.inr (some (10, x0b, 0)))), some (.inr (.inr (some (44, x1b, x1i)))), some (.inl (i3 x2)), some (.inl (i3 x3)), some (.inl (i3 x4)), some (.inl (i3 x5)), none] ∧ x.2 = ([], zm Z ν) ∧ m = (24 - x5).toNat ∧ (-1 ≤ x3 ∧ x3 ≤ 23) ∧ (0 ≤ x4 ∧ x4 ≤ 9999) ∧ (0 ≤ x5 ∧ x5 ≤ 24) ∧ (x3 = -1 ∨ Z 11 x0b 0 6 < 60) ∧ (x3 = -1 ∨ x2 ≤ w3 (w3 (Z 45 x0b (Z 46 x0b x3 0) 1 + Z 45 x0b (Z 46 x0b x3 0) 3) - Z 45 x0b (Z 46 x0b x3 0) 4)) ∧ zE T (zl_34_1 x0b x1b x1ij x2 (m + 1) Z x3 x4 x5)) ?_ 65536 ((24 - x5).toNat) _ (by omega) ⟨x3, x4, x5, hL, rfl, rfl, gx3, gx4, gx5, gr0, gr1, hP⟩
  clear hP gr0 gr1 gx3 gx4 gx5 hL
  clear x3 x4 x5
  rintro m ⟨L, st, μ⟩ ⟨x3, x4, x5, hL, hx, hm, gx3, gx4, gx5, gr0, gr1, hP⟩
  cases hx
  refine fb_34_1 x0b x1b x1i (i3 x2) (i3 x3) (i3 x4) (i3 x5) _ _ _ _ hL ?_
  have r1 := zH_k hZ 11 x0b 0 6 (lo := 0) (hi := 60) (by decide) rfl
  have r2 := zH_k hZ 45 x0b (Z 46 x0b x3 0) 1 (lo := 0) (hi := 9999999) (by decide) rfl
  have r3 := zH_f hZ 45 x0b (Z 46 x0b x3 0) 3
  have r4 := zH_f hZ 45 x0b (Z 46 x0b x3 0) 4
  have r5 := zH_k hZ 11 x0b 0 5 (lo := 0) (hi := 24) (by decide) rfl
  refine wz_br (i3Le (zm_rd (Z := Z) (ν := ν) (k := 11) (rfl : ((x0b : Nat) : Int) = x0b) (show ((0 : Nat) : Int) = 0 from rfl) (show ((5 : Nat) : Int) = 5 from rfl)) (rfl : i3 x5 = i3 x5) (by omega) (by omega) (by omega) (by omega)) (fun h6 => ?_) (fun h6 => ?_)
  · replace hP := zE_p hP h6
    exact hk _ _ _ _ (zconso rfl (zconso rfl (zconso rfl (zconso (zvo (rfl : i3 x3 = i3 x3)) (zconso rfl (zconso rfl (zconso rfl rfl)))))))  (by omega) (by omega) (by omega) (by omega) (by omega) hP
  · replace hP := zE_n hP h6
    refine wz_i0 (i3O (n := 24) (rfl : i3 x5 = i3 x5) (by omega) (by omega) (by omega)) ?_
    have r7 := zH_k hZ 46 x0b x5 4 (lo := 0) (hi := 9999) (by decide) rfl
    refine wz_br (i3Le (zm_rd (Z := Z) (ν := ν) (k := 46) (rfl : ((x0b : Nat) : Int) = x0b) (i3I (y := x5) (rfl : i3 x5 = i3 x5) (by omega) (by omega) (by omega)) (show ((4 : Nat) : Int) = 4 from rfl)) (rfl : i3 x4 = i3 x4) (by omega) (by omega) (by omega) (by omega)) (fun h8 => ?_) (fun h8 => ?_)
    · replace hP := zE_p hP h8
      obtain ⟨m2, rfl⟩ : ∃ m2, m = m2 + 1 := ⟨m - 1, by omega⟩
      exact wz_k1 ⟨m2, by omega, x3, x4, (x5 + 1), (zconso rfl (zconso rfl (zconso (zvo (rfl : i3 x2 = i3 x2)) (zconso (zvo (rfl : i3 x3 = i3 x3)) (zconso (zvo (rfl : i3 x4 = i3 x4)) (zconso (zvo (i3A (rfl : i3 x5 = i3 x5) (show (1 : Int32) = i3 1 from rfl))) (zconso rfl rfl))))))), rfl,  by omega, by omega, by omega, by omega, by omega, by omega,  hP⟩
    · replace hP := zE_n hP h8
      obtain ⟨v9, hv9, c9, lv9, uv9⟩ := sp_14 (ν := ν) hZ x0b x0b _ (i3I (y := x5) (rfl : i3 x5 = i3 x5) (by omega) (by omega) (by omega)) (by omega) (zbh (c := 0) (k := 0) hM (Nat.le_of_ble_eq_true rfl))
      replace hP := zl_e hP hv9
      refine wz_cI_of (zas (zcons rfl (zcons rfl rfl)) c9) ?_
      clear c9
      refine wz_br (i3E (rfl : i3 v9 = i3 v9) (show (0 : Int32) = i3 0 from rfl) (by omega) (by omega) (by omega) (by omega)) (fun h10 => ?_) (fun h10 => ?_)
      · replace hP := zE_p hP h10
        obtain ⟨m2, rfl⟩ : ∃ m2, m = m2 + 1 := ⟨m - 1, by omega⟩
        exact wz_k1 ⟨m2, by omega, x3, x4, (x5 + 1), (zconso rfl (zconso rfl (zconso (zvo (rfl : i3 x2 = i3 x2)) (zconso (zvo (rfl : i3 x3 = i3 x3)) (zconso (zvo (rfl : i3 x4 = i3 x4)) (zconso (zvo (i3A (rfl : i3 x5 = i3 x5) (show (1 : Int32) = i3 1 from rfl))) (zconso rfl rfl))))))), rfl,  by omega, by omega, by omega, by omega, by omega, by omega,  hP⟩
      · replace hP := zE_n hP h10
        refine wz_br (i3Le (show (60 : Int32) = i3 60 from rfl) (zm_rd (Z := Z) (ν := ν) (k := 11) (rfl : ((x0b : Nat) : Int) = x0b) (show ((0 : Nat) : Int) = 0 from rfl) (show ((6 : Nat) : Int) = 6 from rfl)) (by omega) (by omega) (by omega) (by omega)) (fun h11 => ?_) (fun h11 => ?_)
        · replace hP := zE_p hP h11
          refine wz_i1 (Eq.trans (i3L (show (0 : Int32) = i3 0 from rfl) (rfl : i3 x2 = i3 x2) (by omega) (by omega) (by omega) (by omega)) (decide_eq_true (by omega))) ?_
          obtain ⟨m2, rfl⟩ : ∃ m2, m = m2 + 1 := ⟨m - 1, by omega⟩
          exact wz_k1 ⟨m2, by omega, x3, x4, (x5 + 1), (zconso rfl (zconso rfl (zconso (zvo (rfl : i3 x2 = i3 x2)) (zconso (zvo (rfl : i3 x3 = i3 x3)) (zconso (zvo (rfl : i3 x4 = i3 x4)) (zconso (zvo (i3A (rfl : i3 x5 = i3 x5) (show (1 : Int32) = i3 1 from rfl))) (zconso rfl rfl))))))), rfl,  by omega, by omega, by omega, by omega, by omega, by omega,  hP⟩
        · replace hP := zE_n hP h11
          obtain ⟨v12, hv12, c9, lv12, uv12⟩ := sp_33 (ν := ν) hZ x0b _ (i3I (y := x5) (rfl : i3 x5 = i3 x5) (by omega) (by omega) (by omega)) (by omega) x1b _ ex1i (by omega) (zbh (c := 0) (k := 0) hM (Nat.le_of_ble_eq_true rfl))
          replace hP := zl_e hP hv12
          refine wz_cI_of (zas (zcons rfl (zcons rfl rfl)) c9) ?_
          clear c9
          refine wz_br (i3NE (rfl : i3 v12 = i3 v12) (show (0 : Int32) = i3 0 from rfl) (by omega) (by omega) (by omega) (by omega)) (fun h13 => ?_) (fun h13 => ?_)
          · replace hP := zE_p hP h13
            have r14 := zH_k hZ 46 x0b x5 0 (lo := 0) (hi := 7) (by decide) rfl
            refine wz_i0 (i3O (n := 8) (zm_rd (Z := Z) (ν := ν) (k := 46) (rfl : ((x0b : Nat) : Int) = x0b) (i3I (y := x5) (rfl : i3 x5 = i3 x5) (by omega) (by omega) (by omega)) (show ((0 : Nat) : Int) = 0 from rfl)) (by omega) (by omega) (by omega)) ?_
            have r15 := zH_k hZ 45 x0b (Z 46 x0b x5 0) 1 (lo := 0) (hi := 9999999) (by decide) rfl
            have r16 := zH_f hZ 45 x0b (Z 46 x0b x5 0) 3
            have r17 := w3_r ((Z 45 x0b (Z 46 x0b x5 0) 1) + (Z 45 x0b (Z 46 x0b x5 0) 3))
            have r18 := zH_f hZ 45 x0b (Z 46 x0b x5 0) 4
            have r19 := w3_r ((w3 ((Z 45 x0b (Z 46 x0b x5 0) 1) + (Z 45 x0b (Z 46 x0b x5 0) 3))) - (Z 45 x0b (Z 46 x0b x5 0) 4))
            refine wz_br (i3L (i3Mx (show (0 : Int32) = i3 0 from rfl) (i3Mn (i3W (i3S (i3W (i3A (zm_rd (Z := Z) (ν := ν) (k := 45) (rfl : ((x0b : Nat) : Int) = x0b) (i3I (y := (Z 46 x0b x5 0)) (zm_rd (Z := Z) (ν := ν) (k := 46) (rfl : ((x0b : Nat) : Int) = x0b) (i3I (y := x5) (rfl : i3 x5 = i3 x5) (by omega) (by omega) (by omega)) (show ((0 : Nat) : Int) = 0 from rfl)) (by omega) (by omega) (by omega)) (show ((1 : Nat) : Int) = 1 from rfl)) (zm_rd (Z := Z) (ν := ν) (k := 45) (rfl : ((x0b : Nat) : Int) = x0b) (i3I (y := (Z 46 x0b x5 0)) (zm_rd (Z := Z) (ν := ν) (k := 46) (rfl : ((x0b : Nat) : Int) = x0b) (i3I (y := x5) (rfl : i3 x5 = i3 x5) (by omega) (by omega) (by omega)) (show ((0 : Nat) : Int) = 0 from rfl)) (by omega) (by omega) (by omega)) (show ((3 : Nat) : Int) = 3 from rfl)))) (zm_rd (Z := Z) (ν := ν) (k := 45) (rfl : ((x0b : Nat) : Int) = x0b) (i3I (y := (Z 46 x0b x5 0)) (zm_rd (Z := Z) (ν := ν) (k := 46) (rfl : ((x0b : Nat) : Int) = x0b) (i3I (y := x5) (rfl : i3 x5 = i3 x5) (by omega) (by omega) (by omega)) (show ((0 : Nat) : Int) = 0 from rfl)) (by omega) (by omega) (by omega)) (show ((4 : Nat) : Int) = 4 from rfl)))) (zm_rd (Z := Z) (ν := ν) (k := 46) (rfl : ((x0b : Nat) : Int) = x0b) (i3I (y := x5) (rfl : i3 x5 = i3 x5) (by omega) (by omega) (by omega)) (show ((4 : Nat) : Int) = 4 from rfl)) (by omega) (by omega) (by omega) (by omega)) (by omega) (by omega) (by omega) (by omega)) (rfl : i3 x2 = i3 x2) (by omega) (by omega) (by omega) (by omega)) (fun h20 => ?_) (fun h20 => ?_)
            · replace hP := zE_p hP h20
              obtain ⟨m2, rfl⟩ : ∃ m2, m = m2 + 1 := ⟨m - 1, by omega⟩
              exact wz_k1 ⟨m2, by omega, x3, x4, (x5 + 1), (zconso rfl (zconso rfl (zconso (zvo (rfl : i3 x2 = i3 x2)) (zconso (zvo (rfl : i3 x3 = i3 x3)) (zconso (zvo (rfl : i3 x4 = i3 x4)) (zconso (zvo (i3A (rfl : i3 x5 = i3 x5) (show (1 : Int32) = i3 1 from rfl))) (zconso rfl rfl))))))), rfl,  by omega, by omega, by omega, by omega, by omega, by omega,  hP⟩
            · replace hP := zE_n hP h20
              obtain ⟨m2, rfl⟩ : ∃ m2, m = m2 + 1 := ⟨m - 1, by omega⟩
              exact wz_k1 ⟨m2, by omega, x5, (Z 46 x0b x5 4), (x5 + 1), (zconso rfl (zconso rfl (zconso (zvo (rfl : i3 x2 = i3 x2)) (zconso (zvo (rfl : i3 x5 = i3 x5)) (zconso (zvo (zm_rd (Z := Z) (ν := ν) (k := 46) (rfl : ((x0b : Nat) : Int) = x0b) (i3I (y := x5) (rfl : i3 x5 = i3 x5) (by omega) (by omega) (by omega)) (show ((4 : Nat) : Int) = 4 from rfl))) (zconso (zvo (i3A (rfl : i3 x5 = i3 x5) (show (1 : Int32) = i3 1 from rfl))) (zconso rfl rfl))))))), rfl,  by omega, by omega, by omega, by omega, by omega, by omega,  hP⟩
          · replace hP := zE_n hP h13
            refine wz_i1 (Eq.trans (i3L (show (0 : Int32) = i3 0 from rfl) (rfl : i3 x2 = i3 x2) (by omega) (by omega) (by omega) (by omega)) (decide_eq_true (by omega))) ?_
            obtain ⟨m2, rfl⟩ : ∃ m2, m = m2 + 1 := ⟨m - 1, by omega⟩
            exact wz_k1 ⟨m2, by omega, x3, x4, (x5 + 1), (zconso rfl (zconso rfl (zconso (zvo (rfl : i3 x2 = i3 x2)) (zconso (zvo (rfl : i3 x3 = i3 x3)) (zconso (zvo (rfl : i3 x4 = i3 x4)) (zconso (zvo (i3A (rfl : i3 x5 = i3 x5) (show (1 : Int32) = i3 1 from rfl))) (zconso rfl rfl))))))), rfl,  by omega, by omega, by omega, by omega, by omega, by omega,  hP⟩
/- yX1_takerOf -/
def zf_34 (Z : qz_Z) (a0b : Int) (a1b : Int) (a1ij : Int) (a2 : Int) : Int := (zlet3 (zl_34_1 a0b a1b a1ij a2 25 Z (-1) 0 0) (fun y1 y2 y3 => y1))
theorem sp_34 {s : zSM} {Z : qz_Z} {ν : qz_N} (hZ : zH s Z) (a0b : Nat) (a1b : Nat) (a1i : Nat) {a1ij : Int} (ea1i : (a1i : Int) = a1ij) (ga1i : 0 ≤ a1ij ∧ a1ij ≤ 47) {a2 : Int} (ga2 : 1 ≤ a2 ∧ a2 ≤ 9999) (hM : s.2 + 0 ≤ 1000000000) : ∃ P : Int, P = zf_34 Z a0b a1b a1ij a2 ∧ (qf_34 [.inr (.inr (some (10, a0b, 0))), .inr (.inr (some (44, a1b, a1i))), .inl (i3 a2)] (zm Z ν) = some (zm Z ν, .inl (some (.inl (i3 P)))) ∧ -1 ≤ P ∧ P ≤ 23 ∧ (P = -1 ∨ Z 11 a0b 0 6 < 60) ∧ (P = -1 ∨ a2 ≤ w3 (w3 (Z 45 a0b (Z 46 a0b P 0) 1 + Z 45 a0b (Z 46 a0b P 0) 3) - Z 45 a0b (Z 46 a0b P 0) 4))) := by
  obtain ⟨P, hP⟩ := zx (zf_34 Z a0b a1b a1ij a2)
  refine zc_R (Q := fun P => -1 ≤ P ∧ P ≤ 23 ∧ (P = -1 ∨ Z 11 a0b 0 6 < 60) ∧ (P = -1 ∨ a2 ≤ w3 (w3 (Z 45 a0b (Z 46 a0b P 0) 1 + Z 45 a0b (Z 46 a0b P 0) 3) - Z 45 a0b (Z 46 a0b P 0) 4))) hP (fw_34 a0b a1b a1i (i3 a2) _ _ ?_)
  replace hP : zE P (zf_34 Z a0b a1b a1ij a2) := hP
  unfold zf_34 at hP
  have r4 := zH_k hZ 11 a0b 0 6 (lo := 0) (hi := 60) (by decide) rfl
  have r5 := zH_k hZ 45 a0b (Z 46 a0b (-1) 0) 1 (lo := 0) (hi := 9999999) (by decide) rfl
  have r6 := zH_f hZ 45 a0b (Z 46 a0b (-1) 0) 3
  have r7 := zH_f hZ 45 a0b (Z 46 a0b (-1) 0) 4
  refine sl_34_1 (ν := ν) hZ (zbh (c := 0) (k := 0) hM (Nat.le_of_ble_eq_true rfl)) a0b a1b _ ea1i (by omega) (x2 := a2) (by omega) (x3 := (-1)) (by omega) (x4 := 0) (by omega) (x5 := 0) (by omega) (by omega) (by omega) (zconso rfl (zconso rfl (zconso (zvo (rfl : i3 a2 = i3 a2)) (zconso (zvo (show (-1 : Int32) = i3 (-1) from rfl)) (zconso (zvo (show (0 : Int32) = i3 0 from rfl)) (zconso (zvo (show (0 : Int32) = i3 0 from rfl)) (zconso rfl rfl))))))) rfl ?_
  intro L8 y1 y2 y3 hL8 gy1 gy2 gy3 gL8_0 gL8_1 q9
  replace hP := zl_e3 hP (Eq.symm q9)
  clear q9
  refine fc_34_2 (i3 y1) _ _ _ _ hL8 ?_
  exact zlR hP (rfl : i3 y1 = i3 y1) ⟨by omega, by omega, by omega, by omega⟩
/- yX3_moveUp -/
def zl_69_1 (x0b : Int) (x1 : Int) (x3 : Int) (x4 : Int) : Nat → qz_Z → Int → qz_Z × Int
  | 0, Z, x5 => (Z, x5)
  | m + 1, Z, x5 => (if 3 ≤ x5 then (Z, x5) else (zlet (zu Z 49 x0b x4 x5 (Z 49 x0b (1 + x4) x5)) (fun Z3 => zl_69_1 x0b x1 x3 x4 m Z3 (x5 + 1))))
theorem sl_69_1 {s : zSM} {Zs Z : qz_Z} {ν : qz_N} (hZ : zH s Z) (hM : s.2 + 0 ≤ 1000000000) (hK : zC [49] Zs Z) (x0b : Nat) {x1 : Int} (gx1 : 0 ≤ x1 ∧ x1 ≤ 1) {x3 : Int} (gx3 : -1 ≤ x3 ∧ x3 ≤ 11) {x4 : Int} (gx4 : 0 ≤ x4 ∧ x4 ≤ 22) {x5 : Int} (gx5 : 0 ≤ x5 ∧ x5 ≤ 3) (hU : zU [x0b] Zs Z) {k : wz_K} {R : wz_R} {L : qz_L} (hL : qz_fg [true, true, false, true, true, true] L = [some (.inr (.inr (some (10, x0b, 0)))), some (.inl (i3 x1)), none, some (.inl (i3 x3)), some (.inl (i3 x4)), some (.inl (i3 x5))]) {T : qz_Z × Int} (hP : zE T (zl_69_1 x0b x1 x3 x4 ((3 - x5).toNat + 1) Z x5)) (hk : ∀ (L9 : qz_L) (Z9 : qz_Z) (yx5 : Int), qz_fg [true, true, false, true, true, false] L9 = [some (.inr (.inr (some (10, x0b, 0)))), some (.inl (i3 x1)), none, some (.inl (i3 x3)), some (.inl (i3 x4)), none] → zH s Z9 → zC [49] Zs Z9 → zU [x0b] Zs Z9 → (0 ≤ yx5 ∧ yx5 ≤ 3) → zE T ((Z9, yx5)) → k 0 (L9, [], zm Z9 ν)) : wz_loop qb_69_1 65536 k R (L, [], zm Z ν) := by
  refine wz_lp sb_69_1 (fun m x => ∃ Z : qz_Z, ∃ x5 : Int, qz_fg [true, true, false, true, true, true] x.1 = [some (.inr (.inr (some (10, x0b, 0)))), some (.inl (i3 x1)), none, some (.inl (i3 x3)), some (.inl (i3 x4)), some (.inl (i3 x5))] ∧ x.2 = ([], zm Z ν) ∧ zH s Z ∧ zC [49] Zs Z ∧ zU [x0b] Zs Z ∧ m = (3 - x5).toNat ∧ (0 ≤ x5 ∧ x5 ≤ 3) ∧ zE T (zl_69_1 x0b x1 x3 x4 (m + 1) Z x5)) ?_ 65536 ((3 - x5).toNat) _ (by omega) ⟨Z, x5, hL, rfl, hZ, hK, hU, rfl, gx5, hP⟩
  clear hP gx5 hZ hK hU hL
  clear x5
  clear Z
  rintro m ⟨L, st, μ⟩ ⟨Z, x5, hL, hx, hZ, hK, hU, hm, gx5, hP⟩
  cases hx
  refine fb_69_1 x0b (i3 x1) (i3 x3) (i3 x4) (i3 x5) _ _ _ _ hL ?_
  refine wz_br (i3Le (show (3 : Int32) = i3 3 from rfl) (rfl : i3 x5 = i3 x5) (by omega) (by omega) (by omega) (by omega)) (fun h1 => ?_) (fun h1 => ?_)
  · replace hP := zE_p hP h1
    exact hk _ _ _ (zconso rfl (zconso (zvo (rfl : i3 x1 = i3 x1)) (zconso rfl (zconso (zvo (rfl : i3 x3 = i3 x3)) (zconso (zvo (rfl : i3 x4 = i3 x4)) (zconso rfl rfl)))))) hZ hK hU (by omega)  hP
  · replace hP := zE_n hP h1
    refine wz_i0 (i3O (n := 24) (rfl : i3 x4 = i3 x4) (by omega) (by omega) (by omega)) ?_
    refine wz_i0 (i3O (n := 24) (i3A (rfl : i3 x4 = i3 x4) (show (1 : Int32) = i3 1 from rfl)) (by omega) (by omega) (by omega)) ?_
    refine wz_i0 (i3O (n := 3) (rfl : i3 x5 = i3 x5) (by omega) (by omega) (by omega)) ?_
    refine wz_i0 (i3O (n := 3) (rfl : i3 x5 = i3 x5) (by omega) (by omega) (by omega)) ?_
    have r2 := zH_f hZ 49 x0b (1 + x4) x5
    obtain ⟨Z3, hZ3⟩ := zx (zu Z 49 x0b x4 x5 (Z 49 x0b (1 + x4) x5))
    replace hP := zl_e hP hZ3
    have hZ3I := zH_cc hZ hZ3 (by decide) (by decide) rfl
    have hZ3U : zU [x0b] Zs Z3 := zU_u hU hZ3 (Or.inr (List.Mem.head _))
    have hZ3K : zC [49] Zs Z3 := zC_u hK hZ3 rfl
    intro μ9 e9
    replace e9 := e9.trans (zm_wI (Z := Z) (ν := ν) hZ3 (rfl : ((x0b : Nat) : Int) = x0b) (i3I (y := x4) (rfl : i3 x4 = i3 x4) (by omega) (by omega) (by omega)) (i3I (y := x5) (rfl : i3 x5 = i3 x5) (by omega) (by omega) (by omega)) (zm_rd (Z := Z) (ν := ν) (k := 49) (rfl : ((x0b : Nat) : Int) = x0b) (i3I (y := (1 + x4)) (i3A (rfl : i3 x4 = i3 x4) (show (1 : Int32) = i3 1 from rfl)) (by omega) (by omega) (by omega)) (i3I (y := x5) (rfl : i3 x5 = i3 x5) (by omega) (by omega) (by omega))))
    subst e9
    obtain ⟨m2, rfl⟩ : ∃ m2, m = m2 + 1 := ⟨m - 1, by omega⟩
    exact wz_k1 ⟨m2, by omega, Z3, (x5 + 1), (zconso rfl (zconso (zvo (rfl : i3 x1 = i3 x1)) (zconso rfl (zconso (zvo (rfl : i3 x3 = i3 x3)) (zconso (zvo (rfl : i3 x4 = i3 x4)) (zconso (zvo (i3A (rfl : i3 x5 = i3 x5) (show (1 : Int32) = i3 1 from rfl))) rfl)))))), rfl, hZ3I, hZ3K, hZ3U, by omega, by omega,  hP⟩
/- yX3_moveUp -/
def zl_69_3 (x0b : Int) (x1 : Int) (x3 : Int) : Nat → qz_Z → Int → qz_Z × Int
  | 0, Z, x4 => (Z, x4)
  | m + 1, Z, x4 => (if ((x1 * 12) + x3) ≤ x4 then (Z, x4) else (zlet2 (zl_69_1 x0b x1 x3 x4 4 Z 0) (fun Z3 y2 => zl_69_3 x0b x1 x3 m Z3 (x4 + 1))))
theorem sl_69_3 {s : zSM} {Zs Z : qz_Z} {ν : qz_N} (hZ : zH s Z) (hM : s.2 + 0 ≤ 1000000000) (hK : zC [49] Zs Z) (x0b : Nat) {x1 : Int} (gx1 : 0 ≤ x1 ∧ x1 ≤ 1) {x3 : Int} (gx3 : -1 ≤ x3 ∧ x3 ≤ 11) {x4 : Int} (gx4 : 0 ≤ x4 ∧ x4 ≤ 23) (hU : zU [x0b] Zs Z) {k : wz_K} {R : wz_R} {L : qz_L} (hL : qz_fg [true, true, false, true, true, false] L = [some (.inr (.inr (some (10, x0b, 0)))), some (.inl (i3 x1)), none, some (.inl (i3 x3)), some (.inl (i3 x4)), none]) {T : qz_Z × Int} (hP : zE T (zl_69_3 x0b x1 x3 ((23 - x4).toNat + 1) Z x4)) (hk : ∀ (L9 : qz_L) (Z9 : qz_Z) (yx4 : Int), qz_fg [true, true, false, true, false, false] L9 = [some (.inr (.inr (some (10, x0b, 0)))), some (.inl (i3 x1)), none, some (.inl (i3 x3)), none, none] → zH s Z9 → zC [49] Zs Z9 → zU [x0b] Zs Z9 → (0 ≤ yx4 ∧ yx4 ≤ 23) → zE T ((Z9, yx4)) → k 0 (L9, [], zm Z9 ν)) : wz_loop qb_69_3 65536 k R (L, [], zm Z ν) := by
  refine wz_lp sb_69_3 (fun m x => ∃ Z : qz_Z, ∃ x4 : Int, qz_fg [true, true, false, true, true, false] x.1 = [some (.inr (.inr (some (10, x0b, 0)))), some (.inl (i3 x1)), none, some (.inl (i3 x3)), some (.inl (i3 x4)), none] ∧ x.2 = ([], zm Z ν) ∧ zH s Z ∧ zC [49] Zs Z ∧ zU [x0b] Zs Z ∧ m = (23 - x4).toNat ∧ (0 ≤ x4 ∧ x4 ≤ 23) ∧ zE T (zl_69_3 x0b x1 x3 (m + 1) Z x4)) ?_ 65536 ((23 - x4).toNat) _ (by omega) ⟨Z, x4, hL, rfl, hZ, hK, hU, rfl, gx4, hP⟩
  clear hP gx4 hZ hK hU hL
  clear x4
  clear Z
  rintro m ⟨L, st, μ⟩ ⟨Z, x4, hL, hx, hZ, hK, hU, hm, gx4, hP⟩
  cases hx
  refine fb_69_3 x0b (i3 x1) (i3 x3) (i3 x4) _ _ _ _ hL ?_
  refine wz_br (i3Le (i3A (i3M (rfl : i3 x1 = i3 x1) (show (12 : Int32) = i3 12 from rfl)) (rfl : i3 x3 = i3 x3)) (rfl : i3 x4 = i3 x4) (by omega) (by omega) (by omega) (by omega)) (fun h1 => ?_) (fun h1 => ?_)
  · replace hP := zE_p hP h1
    exact hk _ _ _ (zconso rfl (zconso (zvo (rfl : i3 x1 = i3 x1)) (zconso rfl (zconso (zvo (rfl : i3 x3 = i3 x3)) (zconso rfl (zconso rfl rfl)))))) hZ hK hU (by omega)  hP
  · replace hP := zE_n hP h1
    refine sl_69_1 (ν := ν) hZ (zbh (c := 0) (k := 0) hM (Nat.le_of_ble_eq_true rfl)) zC_r x0b (x1 := x1) (by omega) (x3 := x3) (by omega) (x4 := x4) (by omega) (x5 := 0) (by omega) zU_r  (zconso rfl (zconso (zvo (rfl : i3 x1 = i3 x1)) (zconso rfl (zconso (zvo (rfl : i3 x3 = i3 x3)) (zconso (zvo (rfl : i3 x4 = i3 x4)) (zconso (zvo (show (0 : Int32) = i3 0 from rfl)) rfl)))))) rfl ?_
    intro L4 Z3 y2 hL4 hZ3I kZ3 jZ3 gy2 q9
    replace hP := zl_e2 hP (Eq.symm q9)
    clear q9
    have hZ3U : zU [x0b] Zs Z3 := zU_t hU jZ3 (zU_b1 (List.Mem.head _) zU_b0)
    have hZ3K : zC [49] Zs Z3 := zC_t hK kZ3 (by decide)
    refine fc_69_2 _ (i3 x1) (i3 x3) (i3 x4) _ _ _ _ hL4 ?_
    obtain ⟨m2, rfl⟩ : ∃ m2, m = m2 + 1 := ⟨m - 1, by omega⟩
    refine wz_kbs (n := 1) (?_)
    exact wz_k1 ⟨m2, by omega, Z3, (x4 + 1), (zconso rfl (zconso (zvo (rfl : i3 x1 = i3 x1)) (zconso rfl (zconso (zvo (rfl : i3 x3 = i3 x3)) (zconso (zvo (i3A (rfl : i3 x4 = i3 x4) (show (1 : Int32) = i3 1 from rfl))) (zconso rfl rfl)))))), rfl, hZ3I, hZ3K, hZ3U, by omega, by omega,  hP⟩
/- yX3_moveUp -/
def zf_69 (Z : qz_Z) (a0b : Int) (a1 : Int) (a2 : Int) : qz_Z := (zlet2 (zl_69_3 a0b a1 ((Z 48 a0b a1 5) - 1) ((23 - ((a1 * 12) + a2)).toNat + 1) Z ((a1 * 12) + a2)) (fun Z3 y2 => (zlet (zu Z3 48 a0b a1 5 ((Z 48 a0b a1 5) - 1)) (fun Z5 => Z5))))
theorem sp_69 {s : zSM} {Z : qz_Z} {ν : qz_N} (hZ : zH s Z) (a0b : Nat) {a1 : Int} (ga1 : 0 ≤ a1 ∧ a1 ≤ 1) {a2 : Int} (ga2 : 0 ≤ a2 ∧ a2 ≤ 11) (gx0 : 1 ≤ Z 48 a0b a1 5) (hM : s.2 + 0 ≤ 1000000000) : ∃ P : qz_Z, P = zf_69 Z a0b a1 a2 ∧ (qf_69 [.inr (.inr (some (10, a0b, 0))), .inl (i3 a1), .inl (i3 a2)] (zm Z ν) = some (zm P ν, .inl none) ∧ zH s P ∧ zC [48, 49] Z P ∧ zU [a0b] Z P ∧ P 48 a0b a1 5 = Z 48 a0b a1 5 - 1) := by
  obtain ⟨P, hP⟩ := zx (zf_69 Z a0b a1 a2)
  refine zc_V (Q := fun P => zH s P ∧ zC [48, 49] Z P ∧ zU [a0b] Z P ∧ P 48 a0b a1 5 = Z 48 a0b a1 5 - 1) hP (fw_69 a0b (i3 a1) (i3 a2) _ _ ?_)
  replace hP : zE P (zf_69 Z a0b a1 a2) := hP
  unfold zf_69 at hP
  have r1 := zH_k hZ 48 a0b a1 5 (lo := 0) (hi := 12) (by decide) rfl
  refine wz_i0 (i3O (n := 2) (rfl : i3 a1 = i3 a1) (by omega) (by omega) (by omega)) ?_
  refine sl_69_3 (ν := ν) hZ (zbh (c := 0) (k := 0) hM (Nat.le_of_ble_eq_true rfl)) zC_r a0b (x1 := a1) (by omega) (x3 := ((Z 48 a0b a1 5) - 1)) (by omega) (x4 := ((a1 * 12) + a2)) (by omega) zU_r  (zconso rfl (zconso (zvo (rfl : i3 a1 = i3 a1)) (zconso rfl (zconso (zvo (i3S (zm_rd (Z := Z) (ν := ν) (k := 48) (rfl : ((a0b : Nat) : Int) = a0b) (i3I (y := a1) (rfl : i3 a1 = i3 a1) (by omega) (by omega) (by omega)) (show ((5 : Nat) : Int) = 5 from rfl)) (show (1 : Int32) = i3 1 from rfl))) (zconso (zvo (i3A (i3M (rfl : i3 a1 = i3 a1) (show (12 : Int32) = i3 12 from rfl)) (rfl : i3 a2 = i3 a2))) (zconso rfl rfl)))))) rfl ?_
  intro L4 Z3 y2 hL4 hZ3I kZ3 jZ3 gy2 q9
  replace hP := zl_e2 hP (Eq.symm q9)
  clear q9
  have hZ3U : zU [a0b] Z Z3 := zU_t zU_r jZ3 (zU_b1 (List.Mem.head _) zU_b0)
  have hZ3K : zC [48, 49] Z Z3 := zC_t zC_r kZ3 (by decide)
  refine fc_69_4 _ (i3 a1) (i3 ((Z 48 a0b a1 5) - 1)) _ _ _ _ hL4 ?_
  refine wz_i0 (i3O (n := 2) (rfl : i3 a1 = i3 a1) (by omega) (by omega) (by omega)) ?_
  obtain ⟨Z5, hZ5⟩ := zx (zu Z3 48 a0b a1 5 ((Z 48 a0b a1 5) - 1))
  replace hP := zl_e hP hZ5
  have hZ5I := zH_u hZ3I hZ5 (lo := 0) (hi := 12) (by decide) rfl (by omega) ⟨by decide, by decide⟩ (Or.inl (by decide)) rfl
  have hZ5U : zU [a0b] Z Z5 := zU_u hZ3U hZ5 (Or.inr (List.Mem.head _))
  have hZ5K : zC [48, 49] Z Z5 := zC_u hZ3K hZ5 (by decide)
  intro μ9 e9
  replace e9 := e9.trans (zm_wI (Z := Z3) (ν := ν) hZ5 (rfl : ((a0b : Nat) : Int) = a0b) (i3I (y := a1) (rfl : i3 a1 = i3 a1) (by omega) (by omega) (by omega)) (show ((5 : Nat) : Int) = 5 from rfl) (rfl : i3 ((Z 48 a0b a1 5) - 1) = i3 ((Z 48 a0b a1 5) - 1)))
  subst e9
  have r6 := zH_k hZ5I 48 a0b a1 5 (lo := 0) (hi := 12) (by decide) rfl
  have q7 := zu_at hZ5
  exact zlV hP ⟨hZ5I, hZ5K, hZ5U, by omega⟩
/- y by hand: lots that move up -/
theorem hm_69_1 (b x1 x3 r : Int) (Z : qz_Z) : (∀ k b' i j, (k ≠ 49 ∨ b' ≠ b ∨ i ≠ r ∨ j < 0 ∨ 3 ≤ j) → (zl_69_1 b x1 x3 r 4 Z 0).1 k b' i j = Z k b' i j) ∧ (∀ j, 0 ≤ j → j < 3 → (zl_69_1 b x1 x3 r 4 Z 0).1 49 b r j = Z 49 b (r + 1) j) := by
  obtain ⟨Z1, h1⟩ := zx (zu Z 49 b r 0 (Z 49 b (1 + r) 0))
  obtain ⟨Z2, h2⟩ := zx (zu Z1 49 b r 1 (Z1 49 b (1 + r) 1))
  obtain ⟨Z3, h3⟩ := zx (zu Z2 49 b r 2 (Z2 49 b (1 + r) 2))
  have e : (zl_69_1 b x1 x3 r 4 Z 0).1 = Z3 := by
    subst h1 h2 h3
    rfl
  rw [e]
  refine ⟨fun k b' i j hn => ?_, fun j h0 h4 => ?_⟩
  · rw [zu_ne h3 (by omega), zu_ne h2 (by omega), zu_ne h1 (by omega)]
  · have hj : j = 0 ∨ j = 1 ∨ j = 2 := by omega
    rcases hj with rfl | rfl | rfl
    · rw [zu_ne h3 (by omega), zu_ne h2 (by omega), zu_at h1, show 1 + r = r + 1 by omega]
    · rw [zu_ne h3 (by omega), zu_at h2, zu_ne h1 (by omega), show 1 + r = r + 1 by omega]
    · rw [zu_at h3, zu_ne h2 (by omega), zu_ne h1 (by omega), show 1 + r = r + 1 by omega]
theorem hm_69_3 (b x1 x3 : Int) : ∀ (m : Nat) (Z : qz_Z) (r : Int), x1 * 12 + x3 - r ≤ m → (∀ k b' i j, (k ≠ 49 ∨ b' ≠ b ∨ i < r ∨ x1 * 12 + x3 ≤ i ∨ j < 0 ∨ 3 ≤ j) → (zl_69_3 b x1 x3 (m + 1) Z r).1 k b' i j = Z k b' i j) ∧ (∀ i j, r ≤ i → i < x1 * 12 + x3 → 0 ≤ j → j < 3 → (zl_69_3 b x1 x3 (m + 1) Z r).1 49 b i j = Z 49 b (i + 1) j)
  | m, Z, r, hm => by
    unfold zl_69_3
    by_cases q : x1 * 12 + x3 ≤ r
    · rw [if_pos q]
      exact ⟨fun _ _ _ _ _ => rfl, fun i j h0 h1 => by omega⟩
    · rw [if_neg q]
      obtain ⟨g1, g2⟩ := hm_69_1 b x1 x3 r Z
      generalize hY : zl_69_1 b x1 x3 r 4 Z 0 = Y at g1 g2
      show (∀ k b' i j, _ → (zl_69_3 b x1 x3 m Y.1 (r + 1)).1 k b' i j = Z k b' i j) ∧ (∀ i j, _ → _ → _ → _ → (zl_69_3 b x1 x3 m Y.1 (r + 1)).1 49 b i j = Z 49 b (i + 1) j)
      match m, hm with
      | 0, hm => omega
      | m + 1, hm =>
        obtain ⟨i1, i2⟩ := hm_69_3 b x1 x3 m Y.1 (r + 1) (by omega)
        refine ⟨fun k b' i j hn => ?_, fun i j h0 h1 h3 h4 => ?_⟩
        · rw [i1 k b' i j (by omega), g1 k b' i j (by omega)]
        · by_cases e : i = r
          · subst e
            rw [i1 _ _ _ _ (by omega), g2 j h3 h4]
          · rw [i2 i j (by omega) h1 h3 h4, g1 _ _ _ _ (by omega)]
theorem lt_69 {Z Z1 : qz_Z} {b c p : Int} (hz : Z1 = zf_69 Z b c p) (h : zLt b Z) (hc : 0 ≤ c ∧ c ≤ 1) (hp : 0 ≤ p ∧ p ≤ 11) (hl : p < Z 48 b c 5) (hm : Z 48 b c 5 ≤ 12) : zLt b Z1 := fun c' p' h0 h1 h2 h3 h4 => by
  obtain ⟨g1, g2⟩ := hm_69_3 b c (Z 48 b c 5 - 1) (23 - (c * 12 + p)).toNat Z (c * 12 + p) (by omega)
  generalize hY : zl_69_3 b c (Z 48 b c 5 - 1) ((23 - (c * 12 + p)).toNat + 1) Z (c * 12 + p) = Y at g1 g2
  have hz' : Z1 = zu Y.1 48 b c 5 (Z 48 b c 5 - 1) := by rw [hz, ← hY]; rfl
  have e9 : ∀ i j, Z1 49 b i j = Y.1 49 b i j := fun i j => zu_ne hz' (fun q => absurd q.1 (by decide))
  rw [e9, e9]
  by_cases e : c' = c
  · subst e
    have e5 : Z1 48 b c' 5 = Z 48 b c' 5 - 1 := zu_at hz'
    rw [e5] at h4
    by_cases q : p' < p
    · rw [g1 49 b _ 2 (by omega), g1 49 b _ 1 (by omega)]
      exact h c' p' h0 h1 h2 h3 (by omega)
    · rw [g2 _ 2 (by omega) (by omega) (by omega) (by omega), g2 _ 1 (by omega) (by omega) (by omega) (by omega), show 12 * c' + p' + 1 = 12 * c' + (p' + 1) by omega]
      exact h c' (p' + 1) h0 h1 (by omega) (by omega) (by omega)
  · have e5 : Z1 48 b c' 5 = Z 48 b c' 5 := (zu_ne hz' (fun q => e q.2.2.1)).trans (g1 48 b c' 5 (Or.inl (by decide)))
    rw [e5] at h4
    rw [g1 49 b _ 2 (by omega), g1 49 b _ 1 (by omega)]
    exact h c' p' h0 h1 h2 h3 h4
