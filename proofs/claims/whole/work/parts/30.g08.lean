/- yX11_worst -/
def zx_255 (Z : qz_Z) (a1 : Int) (a2 : Int) : qz_Z × Int × Int := (if 0 ≤ a1 ∧ a1 < (Z 11 0 0 9) then (if 0 ≤ a2 ∧ a2 ≤ 1 then (zlet (zf_138 Z 0 a1) (fun Z4 => (Z4, (Z4 69 0 0 a2), 0))) else (Z, 0, 13)) else (Z, 0, 24))
theorem sx_255 {M : Nat} {Z : qz_Z} {ν : qz_N} (hZ : zH ((none, M) : zSM) Z) (hM : ((none, M) : zSM).2 + 229320 ≤ 1000000000) {a1 : Int} (ga1 : -2147483648 ≤ a1 ∧ a1 ≤ 2147483647) {a2 : Int} (ga2 : -2147483648 ≤ a2 ∧ a2 ≤ 2147483647) : ∃ (Z1 : qz_Z) (ν1 : qz_N) (v E : Int), (Z1, v, E) = zx_255 Z a1 a2 ∧ qf_255 [.inr (.inr (some (0, 0, 0))), .inl (i3 a1), .inl (i3 a2)] (zm Z ν) = some (zm Z1 ν1, zoX v E) ∧ (fun Z1 ν1 => zH (zb ((none, M) : zSM) 229320) Z1 ∧ zC [12, 13, 14, 40, 41, 42, 43, 44, 45, 46, 47, 48, 49, 50, 51, 52, 53, 54, 69, 1099, 1100, 1101, 1102, 1103, 1104, 1105, 1106, 1107, 1108, 1109, 1110, 1111, 1112, 1113, 1114, 1115, 1116] Z Z1 ∧ zU [(12 + 0), (12 + 1), (12 + 2)] Z Z1 ∧ zG 1 6 ν ν1) Z1 ν1 := by
  obtain ⟨P, hP⟩ := zx (zx_255 Z a1 a2)
  refine zc_G (Q := fun Z1 ν1 => zH (zb ((none, M) : zSM) 229320) Z1 ∧ zC [12, 13, 14, 40, 41, 42, 43, 44, 45, 46, 47, 48, 49, 50, 51, 52, 53, 54, 69, 1099, 1100, 1101, 1102, 1103, 1104, 1105, 1106, 1107, 1108, 1109, 1110, 1111, 1112, 1113, 1114, 1115, 1116] Z Z1 ∧ zU [(12 + 0), (12 + 1), (12 + 2)] Z Z1 ∧ zG 1 6 ν ν1) hP (fw_255 (i3 a1) (i3 a2) _ _ ?_)
  replace hP : zE P (zx_255 Z a1 a2) := hP
  unfold zx_255 at hP
  have r1 := zH_k hZ 11 0 0 9 (lo := 0) (hi := 2) (by decide) rfl
  refine wz_thing (rfl : i3 a1 = i3 a1) (zm_rd (Z := Z) (ν := ν) (k := 11) (show ((0 : Nat) : Int) = 0 from rfl) (show ((0 : Nat) : Int) = 0 from rfl) (show ((9 : Nat) : Int) = 9 from rfl)) (by omega) (by omega) (by omega) (by omega) (fun h2 => ?_) (fun h2 => ?_)
  · replace hP := zE_p hP h2
    refine wz_inR (rfl : i3 a2 = i3 a2) (show (0 : Int32) = i3 0 from rfl) (show (1 : Int32) = i3 1 from rfl) (by omega) (by omega) (by omega) (by omega) (by omega) (by omega) (fun h3 => ?_) (fun h3 => ?_)
    · replace hP := zE_p hP h3
      obtain ⟨Z4, hZ4, c9, hZ4I, kZ4, jZ4⟩ := sp_138 (ν := ν) hZ 0 (a1 := a1) (by omega) (by omega) (zbh (c := 0) (k := 229320) hM (Nat.le_of_ble_eq_true rfl))
      have hZ4U : zU [(12 + 0), (12 + 1), (12 + 2)] Z Z4 := zU_t zU_r jZ4 (zU_b1 (List.Mem.head _) (zU_b1 (List.Mem.tail _ (List.Mem.head _)) (zU_b1 (List.Mem.tail _ (List.Mem.tail _ (List.Mem.head _))) zU_b0)))
      have hZ4K : zC [12, 13, 14, 40, 41, 42, 43, 44, 45, 46, 47, 48, 49, 50, 51, 52, 53, 54, 69, 1099, 1100, 1101, 1102, 1103, 1104, 1105, 1106, 1107, 1108, 1109, 1110, 1111, 1112, 1113, 1114, 1115, 1116] Z Z4 := zC_t zC_r kZ4 (by decide)
      replace hP := zl_e hP hZ4
      refine wz_cV_of (zas (zcons rfl (zcons (zvi (rfl : i3 a1 = i3 a1)) (zcons rfl (zcons rfl rfl)))) c9) ?_
      clear c9
      refine wz_i0 (i3O (n := 24) (rfl : i3 a2 = i3 a2) (by omega) (by omega) (by omega)) ?_
      have r5 := zH_f hZ4I 69 0 0 a2
      exact zlG hP (zm_rd (Z := Z4) (ν := ν) (k := 69) (show ((0 : Nat) : Int) = 0 from rfl) (show ((0 : Nat) : Int) = 0 from rfl) (i3I (y := a2) (rfl : i3 a2 = i3 a2) (by omega) (by omega) (by omega))) ⟨hZ4I, hZ4K, hZ4U, zG_w zG_r (Nat.le_of_ble_eq_true rfl) (Nat.le_of_ble_eq_true rfl)⟩
    · replace hP := zE_n hP h3
      exact zlGe (E := 12) hP ⟨(zbw (a := 0) (c := 229320) hZ (Nat.le_of_ble_eq_true rfl)), zC_r, zU_r, zG_w (zG_k rfl) (Nat.le_of_ble_eq_true rfl) (Nat.le_of_ble_eq_true rfl)⟩
  · replace hP := zE_n hP h2
    exact zlGe (E := 23) hP ⟨(zbw (a := 0) (c := 229320) hZ (Nat.le_of_ble_eq_true rfl)), zC_r, zU_r, zG_w (zG_k rfl) (Nat.le_of_ble_eq_true rfl) (Nat.le_of_ble_eq_true rfl)⟩
