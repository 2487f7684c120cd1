/- yX11_load -/
def zx_215 (Z : qz_Z) (a1 : Int) (a2 : Int) : qz_Z × Int × Int := (if a1 < 0 then (Z, 0, 24) else (if (Z 11 0 0 6) ≤ a1 then (Z, 0, 24) else (if a2 < 0 then (Z, 0, 24) else (if a2 < (Z 11 0 0 8) then (if (Z 47 0 a1 9) ≠ 0 then (Z, 0, 15) else (if (Z 44 0 (Z 47 0 a1 0) 12) < 0 then (if (Z 50 0 a2 2) ≠ 0 then (Z, 0, 15) else (zlet (zf_43 Z 0 a2) (fun v15 => (if (Z 50 0 a2 0) < (w3 (v15 + (Z 47 0 a1 3))) then (Z, 0, 15) else (zlet (zf_53 Z 0 a2) (fun v20 => (if 0 < v20 then (zlet (zdd Z 20 a1 a2 0 0 0 0) (fun Z22 => (zlet2 (zf_50 Z22 0 a1 a2) (fun Z23 v24 => (Z23, v24, 0))))) else (zlet (zf_40 Z 0) (fun v25 => (if (Z 11 0 0 14) ≤ v25 then (Z, 0, 15) else (zlet (zdd Z 20 a1 a2 0 0 0 0) (fun Z28 => (zlet2 (zf_50 Z28 0 a1 a2) (fun Z29 v30 => (Z29, v30, 0))))))))))))))) else (if (Z 11 0 0 2) ≤ (Z 44 0 (Z 47 0 a1 0) 12) then (if (Z 50 0 a2 2) ≠ 0 then (Z, 0, 15) else (zlet (zf_43 Z 0 a2) (fun v35 => (if (Z 50 0 a2 0) < (w3 (v35 + (Z 47 0 a1 3))) then (Z, 0, 15) else (zlet (zf_53 Z 0 a2) (fun v40 => (if 0 < v40 then (zlet (zdd Z 20 a1 a2 0 0 0 0) (fun Z42 => (zlet2 (zf_50 Z42 0 a1 a2) (fun Z43 v44 => (Z43, v44, 0))))) else (zlet (zf_40 Z 0) (fun v45 => (if (Z 11 0 0 14) ≤ v45 then (Z, 0, 15) else (zlet (zdd Z 20 a1 a2 0 0 0 0) (fun Z48 => (zlet2 (zf_50 Z48 0 a1 a2) (fun Z49 v50 => (Z49, v50, 0))))))))))))))) else (if (Z 43 0 (Z 44 0 (Z 47 0 a1 0) 12) 10) ≤ (Z 11 0 0 13) then (if (Z 50 0 a2 2) ≠ 0 then (Z, 0, 15) else (zlet (zf_43 Z 0 a2) (fun v56 => (if (Z 50 0 a2 0) < (w3 (v56 + (Z 47 0 a1 3))) then (Z, 0, 15) else (zlet (zf_53 Z 0 a2) (fun v61 => (if 0 < v61 then (zlet (zdd Z 20 a1 a2 0 0 0 0) (fun Z63 => (zlet2 (zf_50 Z63 0 a1 a2) (fun Z64 v65 => (Z64, v65, 0))))) else (zlet (zf_40 Z 0) (fun v66 => (if (Z 11 0 0 14) ≤ v66 then (Z, 0, 15) else (zlet (zdd Z 20 a1 a2 0 0 0 0) (fun Z69 => (zlet2 (zf_50 Z69 0 a1 a2) (fun Z70 v71 => (Z70, v71, 0))))))))))))))) else (Z, 0, 15))))) else (Z, 0, 24)))))
theorem sx_215 {M : Nat} {Z : qz_Z} {ν : qz_N} (hZ : zH ((none, M) : zSM) Z) (hM : ((none, M) : zSM).2 + 2 ≤ 1000000000) {a1 : Int} (ga1 : -2147483648 ≤ a1 ∧ a1 ≤ 2147483647) {a2 : Int} (ga2 : -2147483648 ≤ a2 ∧ a2 ≤ 2147483647) : ∃ (Z1 : qz_Z) (ν1 : qz_N) (v E : Int), (Z1, v, E) = zx_215 Z a1 a2 ∧ qf_215 [.inr (.inr (some (0, 0, 0))), .inl (i3 a1), .inl (i3 a2)] (zm Z ν) = some (zm Z1 ν1, zoX v E) ∧ (fun Z1 ν1 => zH (zb ((none, M) : zSM) 2) Z1 ∧ zC [3, 12, 13, 14, 40, 41, 42, 43, 44, 45, 46, 47, 48, 49, 50, 51, 52, 53, 54, 61, 68, 1099, 1100, 1101, 1102, 1103, 1104, 1105, 1106, 1107, 1108, 1109, 1110, 1111, 1112, 1113, 1114, 1115, 1116] Z Z1 ∧ zU [0, 2, 3, 4, 5, 6, 7, 8, 9] Z Z1 ∧ zG 1 6 ν ν1) Z1 ν1 := by
  obtain ⟨P, hP⟩ := zx (zx_215 Z a1 a2)
  refine zc_G (Q := fun Z1 ν1 => zH (zb ((none, M) : zSM) 2) Z1 ∧ zC [3, 12, 13, 14, 40, 41, 42, 43, 44, 45, 46, 47, 48, 49, 50, 51, 52, 53, 54, 61, 68, 1099, 1100, 1101, 1102, 1103, 1104, 1105, 1106, 1107, 1108, 1109, 1110, 1111, 1112, 1113, 1114, 1115, 1116] Z Z1 ∧ zU [0, 2, 3, 4, 5, 6, 7, 8, 9] Z Z1 ∧ zG 1 6 ν ν1) hP (fw_215 (i3 a1) (i3 a2) _ _ ?_)
  replace hP : zE P (zx_215 Z a1 a2) := hP
  unfold zx_215 at hP
  refine fw_49 _ _ _ _ _ ?_
  refine wz_br (i3L (rfl : i3 a1 = i3 a1) (show (0 : Int32) = i3 0 from rfl) (by omega) (by omega) (by omega) (by omega)) (fun h1 => ?_) (fun h1 => ?_)
  · replace hP := zE_p hP h1
    refine wz_i0 (Eq.trans (i3NE (show (1 : Int32) = i3 1 from rfl) (show (1 : Int32) = i3 1 from rfl) (by omega) (by omega) (by omega) (by omega)) (decide_eq_false (by omega))) ?_
    exact zlGe (E := 23) hP ⟨(zbw (a := 0) (c := 2) hZ (Nat.le_of_ble_eq_true rfl)), zC_r, zU_r, zG_w (zG_k rfl) (Nat.le_of_ble_eq_true rfl) (Nat.le_of_ble_eq_true rfl)⟩
  · replace hP := zE_n hP h1
    have r2 := zH_k hZ 11 0 0 6 (lo := 0) (hi := 60) (by decide) rfl
    refine wz_br (i3Le (zm_rd (Z := Z) (ν := ν) (k := 11) (show ((0 : Nat) : Int) = 0 from rfl) (show ((0 : Nat) : Int) = 0 from rfl) (show ((6 : Nat) : Int) = 6 from rfl)) (rfl : i3 a1 = i3 a1) (by omega) (by omega) (by omega) (by omega)) (fun h3 => ?_) (fun h3 => ?_)
    · replace hP := zE_p hP h3
      refine wz_i0 (Eq.trans (i3NE (show (1 : Int32) = i3 1 from rfl) (show (1 : Int32) = i3 1 from rfl) (by omega) (by omega) (by omega) (by omega)) (decide_eq_false (by omega))) ?_
      exact zlGe (E := 23) hP ⟨(zbw (a := 0) (c := 2) hZ (Nat.le_of_ble_eq_true rfl)), zC_r, zU_r, zG_w (zG_k rfl) (Nat.le_of_ble_eq_true rfl) (Nat.le_of_ble_eq_true rfl)⟩
    · replace hP := zE_n hP h3
      refine wz_br (i3L (rfl : i3 a2 = i3 a2) (show (0 : Int32) = i3 0 from rfl) (by omega) (by omega) (by omega) (by omega)) (fun h4 => ?_) (fun h4 => ?_)
      · replace hP := zE_p hP h4
        refine wz_i0 (Eq.trans (i3NE (show (1 : Int32) = i3 1 from rfl) (show (1 : Int32) = i3 1 from rfl) (by omega) (by omega) (by omega) (by omega)) (decide_eq_false (by omega))) ?_
        exact zlGe (E := 23) hP ⟨(zbw (a := 0) (c := 2) hZ (Nat.le_of_ble_eq_true rfl)), zC_r, zU_r, zG_w (zG_k rfl) (Nat.le_of_ble_eq_true rfl) (Nat.le_of_ble_eq_true rfl)⟩
      · replace hP := zE_n hP h4
        have r5 := zH_k hZ 11 0 0 8 (lo := 0) (hi := 4) (by decide) rfl
        refine wz_br (i3L (rfl : i3 a2 = i3 a2) (zm_rd (Z := Z) (ν := ν) (k := 11) (show ((0 : Nat) : Int) = 0 from rfl) (show ((0 : Nat) : Int) = 0 from rfl) (show ((8 : Nat) : Int) = 8 from rfl)) (by omega) (by omega) (by omega) (by omega)) (fun h6 => ?_) (fun h6 => ?_)
        · replace hP := zE_p hP h6
          refine wz_i0 (i3O (n := 60) (rfl : i3 a1 = i3 a1) (by omega) (by omega) (by omega)) ?_
          refine wz_i0 (i3O (n := 4) (rfl : i3 a2 = i3 a2) (by omega) (by omega) (by omega)) ?_
          have r7 := zH_k hZ 47 0 a1 9 (lo := 0) (hi := 3) (by decide) rfl
          have r8 := zH_lt hZ 0 a1
          refine wz_br (i3NE (zm_rd (Z := Z) (ν := ν) (k := 47) (show ((0 : Nat) : Int) = 0 from rfl) (i3I (y := a1) (rfl : i3 a1 = i3 a1) (by omega) (by omega) (by omega)) (show ((9 : Nat) : Int) = 9 from rfl)) (show (0 : Int32) = i3 0 from rfl) (by omega) (by omega) (by omega) (by omega)) (fun h9 => ?_) (fun h9 => ?_)
          · replace hP := zE_p hP h9
            refine wz_i1 (Eq.trans (i3NE (show (3 : Int32) = i3 3 from rfl) (show (1 : Int32) = i3 1 from rfl) (by omega) (by omega) (by omega) (by omega)) (decide_eq_true (by omega))) ?_
            refine wz_i1 (Eq.trans (i3NE (show (3 : Int32) = i3 3 from rfl) (show (2 : Int32) = i3 2 from rfl) (by omega) (by omega) (by omega) (by omega)) (decide_eq_true (by omega))) ?_
            refine wz_i0 (Eq.trans (i3NE (show (3 : Int32) = i3 3 from rfl) (show (3 : Int32) = i3 3 from rfl) (by omega) (by omega) (by omega) (by omega)) (decide_eq_false (by omega))) ?_
            exact zlGe (E := 14) hP ⟨(zbw (a := 0) (c := 2) hZ (Nat.le_of_ble_eq_true rfl)), zC_r, zU_r, zG_w (zG_k rfl) (Nat.le_of_ble_eq_true rfl) (Nat.le_of_ble_eq_true rfl)⟩
          · replace hP := zE_n hP h9
            have r10 := zH_k hZ 47 0 a1 0 (lo := 0) (hi := 47) (by decide) rfl
            refine wz_i0 (i3O (n := 48) (zm_rd (Z := Z) (ν := ν) (k := 47) (show ((0 : Nat) : Int) = 0 from rfl) (i3I (y := a1) (rfl : i3 a1 = i3 a1) (by omega) (by omega) (by omega)) (show ((0 : Nat) : Int) = 0 from rfl)) (by omega) (by omega) (by omega)) ?_
            have r11 := zH_k hZ 44 0 (Z 47 0 a1 0) 12 (lo := -1) (hi := 6) (by decide) rfl
            refine wz_br (i3L (zm_rd (Z := Z) (ν := ν) (k := 44) (show ((0 : Nat) : Int) = 0 from rfl) (i3I (y := (Z 47 0 a1 0)) (zm_rd (Z := Z) (ν := ν) (k := 47) (show ((0 : Nat) : Int) = 0 from rfl) (i3I (y := a1) (rfl : i3 a1 = i3 a1) (by omega) (by omega) (by omega)) (show ((0 : Nat) : Int) = 0 from rfl)) (by omega) (by omega) (by omega)) (show ((12 : Nat) : Int) = 12 from rfl)) (show (0 : Int32) = i3 0 from rfl) (by omega) (by omega) (by omega) (by omega)) (fun h12 => ?_) (fun h12 => ?_)
            · replace hP := zE_p hP h12
              have r13 := zH_k hZ 50 0 a2 2 (lo := 0) (hi := 1) (by decide) rfl
              refine wz_br (i3NE (zm_rd (Z := Z) (ν := ν) (k := 50) (show ((0 : Nat) : Int) = 0 from rfl) (i3I (y := a2) (rfl : i3 a2 = i3 a2) (by omega) (by omega) (by omega)) (show ((2 : Nat) : Int) = 2 from rfl)) (show (0 : Int32) = i3 0 from rfl) (by omega) (by omega) (by omega) (by omega)) (fun h14 => ?_) (fun h14 => ?_)
              · replace hP := zE_p hP h14
                refine wz_i1 (Eq.trans (i3NE (show (3 : Int32) = i3 3 from rfl) (show (1 : Int32) = i3 1 from rfl) (by omega) (by omega) (by omega) (by omega)) (decide_eq_true (by omega))) ?_
                refine wz_i1 (Eq.trans (i3NE (show (3 : Int32) = i3 3 from rfl) (show (2 : Int32) = i3 2 from rfl) (by omega) (by omega) (by omega) (by omega)) (decide_eq_true (by omega))) ?_
                refine wz_i0 (Eq.trans (i3NE (show (3 : Int32) = i3 3 from rfl) (show (3 : Int32) = i3 3 from rfl) (by omega) (by omega) (by omega) (by omega)) (decide_eq_false (by omega))) ?_
                exact zlGe (E := 14) hP ⟨(zbw (a := 0) (c := 2) hZ (Nat.le_of_ble_eq_true rfl)), zC_r, zU_r, zG_w (zG_k rfl) (Nat.le_of_ble_eq_true rfl) (Nat.le_of_ble_eq_true rfl)⟩
              · replace hP := zE_n hP h14
                obtain ⟨v15, hv15, c9, lv15, uv15⟩ := sp_43 (ν := ν) hZ 0 (a1 := a2) (by omega) (zbh (c := 0) (k := 0) hM (Nat.le_of_ble_eq_true rfl))
                replace hP := zl_e hP hv15
                refine wz_cI_of (zas (zcons rfl (zcons (zvi (rfl : i3 a2 = i3 a2)) rfl)) c9) ?_
                clear c9
                have r16 := zH_k hZ 50 0 a2 0 (lo := 0) (hi := 99) (by decide) rfl
                have r17 := zH_k hZ 47 0 a1 3 (lo := 0) (hi := 40) (by decide) rfl
                have r18 := w3_r (v15 + (Z 47 0 a1 3))
                refine wz_br (i3L (zm_rd (Z := Z) (ν := ν) (k := 50) (show ((0 : Nat) : Int) = 0 from rfl) (i3I (y := a2) (rfl : i3 a2 = i3 a2) (by omega) (by omega) (by omega)) (show ((0 : Nat) : Int) = 0 from rfl)) (i3W (i3A (rfl : i3 v15 = i3 v15) (zm_rd (Z := Z) (ν := ν) (k := 47) (show ((0 : Nat) : Int) = 0 from rfl) (i3I (y := a1) (rfl : i3 a1 = i3 a1) (by omega) (by omega) (by omega)) (show ((3 : Nat) : Int) = 3 from rfl)))) (by omega) (by omega) (by omega) (by omega)) (fun h19 => ?_) (fun h19 => ?_)
                · replace hP := zE_p hP h19
                  refine wz_i1 (Eq.trans (i3NE (show (3 : Int32) = i3 3 from rfl) (show (1 : Int32) = i3 1 from rfl) (by omega) (by omega) (by omega) (by omega)) (decide_eq_true (by omega))) ?_
                  refine wz_i1 (Eq.trans (i3NE (show (3 : Int32) = i3 3 from rfl) (show (2 : Int32) = i3 2 from rfl) (by omega) (by omega) (by omega) (by omega)) (decide_eq_true (by omega))) ?_
                  refine wz_i0 (Eq.trans (i3NE (show (3 : Int32) = i3 3 from rfl) (show (3 : Int32) = i3 3 from rfl) (by omega) (by omega) (by omega) (by omega)) (decide_eq_false (by omega))) ?_
                  exact zlGe (E := 14) hP ⟨(zbw (a := 0) (c := 2) hZ (Nat.le_of_ble_eq_true rfl)), zC_r, zU_r, zG_w (zG_k rfl) (Nat.le_of_ble_eq_true rfl) (Nat.le_of_ble_eq_true rfl)⟩
                · replace hP := zE_n hP h19
                  obtain ⟨v20, hv20, c9, lv20, uv20⟩ := sp_53 (ν := ν) hZ 0 (a1 := a2) (by omega) (zbh (c := 0) (k := 0) hM (Nat.le_of_ble_eq_true rfl))
                  replace hP := zl_e hP hv20
                  refine wz_cI_of (zas (zcons rfl (zcons (zvi (rfl : i3 a2 = i3 a2)) rfl)) c9) ?_
                  clear c9
                  refine wz_br (i3L (show (0 : Int32) = i3 0 from rfl) (rfl : i3 v20 = i3 v20) (by omega) (by omega) (by omega) (by omega)) (fun h21 => ?_) (fun h21 => ?_)
                  · replace hP := zE_p hP h21
                    refine wz_i1 (Eq.trans (i3NE (show (0 : Int32) = i3 0 from rfl) (show (1 : Int32) = i3 1 from rfl) (by omega) (by omega) (by omega) (by omega)) (decide_eq_true (by omega))) ?_
                    refine wz_i1 (Eq.trans (i3NE (show (0 : Int32) = i3 0 from rfl) (show (2 : Int32) = i3 2 from rfl) (by omega) (by omega) (by omega) (by omega)) (decide_eq_true (by omega))) ?_
                    refine wz_i1 (Eq.trans (i3NE (show (0 : Int32) = i3 0 from rfl) (show (3 : Int32) = i3 3 from rfl) (by omega) (by omega) (by omega) (by omega)) (decide_eq_true (by omega))) ?_
                    refine dc_J (zcons rfl (zcons (zvi (show (20 : Int32) = i3 20 from rfl)) (zcons (zvi (rfl : i3 a1 = i3 a1)) (zcons (zvi (rfl : i3 a2 = i3 a2)) (zcons (zvi (show (0 : Int32) = i3 0 from rfl)) (zcons (zvi (show (0 : Int32) = i3 0 from rfl)) (zcons (zvi (show (0 : Int32) = i3 0 from rfl)) (zcons (zvi (show (0 : Int32) = i3 0 from rfl)) rfl)))))))) (dg (hZ).1 (by omega) (by omega) (by omega) (by omega) (by omega) (by omega) (by omega) ?_)
                    have hZ22I := zH_dd hZ (a1 := 20) (a2 := a1) (a3 := a2) (a4 := 0) (a5 := 0) (a6 := 0) (a7 := 0) (by omega) (by omega) (by omega) (by omega) (by omega) (by omega) (by omega)
                    have kZ22 : zC [3, 12, 13, 14, 40, 41, 42, 43, 44, 45, 46, 47, 48, 49, 50, 51, 52, 53, 54, 61, 68, 1099, 1100, 1101, 1102, 1103, 1104, 1105, 1106, 1107, 1108, 1109, 1110, 1111, 1112, 1113, 1114, 1115, 1116] Z (zdd Z 20 a1 a2 0 0 0 0) := zC_k zdd_K (by decide) (by decide)
                    have hZ22A : (zdd Z 20 a1 a2 0 0 0 0) 68 0 0 0 = 20 ∧ (zdd Z 20 a1 a2 0 0 0 0) 68 0 0 1 = a1 ∧ (zdd Z 20 a1 a2 0 0 0 0) 68 0 0 2 = a2 ∧ (zdd Z 20 a1 a2 0 0 0 0) 68 0 0 3 = 0 ∧ (zdd Z 20 a1 a2 0 0 0 0) 68 0 0 4 = 0 ∧ (zdd Z 20 a1 a2 0 0 0 0) 68 0 0 5 = 0 ∧ (zdd Z 20 a1 a2 0 0 0 0) 68 0 0 6 = 0 := ⟨zdd_68, zdd_68, zdd_68, zdd_68, zdd_68, zdd_68, zdd_68⟩
                    obtain ⟨Z22, hZ22⟩ := zx (zdd Z 20 a1 a2 0 0 0 0)
                    have dZ22 : ∀ {k : Nat} {i j : Int}, zhall k = true → ¬ (k = 11 ∧ (j = 15 ∨ j = 16)) → Z22 k 0 i j = Z k 0 i j := fun hk hj => by rw [hZ22]; exact zdd_h (hZ).1 hk hj
                    have jZ22 : zU [0, 2, 3, 4, 5, 6, 7, 8, 9] Z (zdd Z 20 a1 a2 0 0 0 0) := zU_dd (hZ).1
                    rw [← hZ22] at hZ22I kZ22 jZ22 hZ22A ⊢
                    have hZ22U : zU [0, 2, 3, 4, 5, 6, 7, 8, 9] Z Z22 := zU_t zU_r jZ22 (zU_b1 (List.Mem.head _) (zU_b1 (List.Mem.tail _ (List.Mem.head _)) (zU_b1 (List.Mem.tail _ (List.Mem.tail _ (List.Mem.head _))) (zU_b1 (List.Mem.tail _ (List.Mem.tail _ (List.Mem.tail _ (List.Mem.head _)))) (zU_b1 (List.Mem.tail _ (List.Mem.tail _ (List.Mem.tail _ (List.Mem.tail _ (List.Mem.head _))))) (zU_b1 (List.Mem.tail _ (List.Mem.tail _ (List.Mem.tail _ (List.Mem.tail _ (List.Mem.tail _ (List.Mem.head _)))))) (zU_b1 (List.Mem.tail _ (List.Mem.tail _ (List.Mem.tail _ (List.Mem.tail _ (List.Mem.tail _ (List.Mem.tail _ (List.Mem.head _))))))) (zU_b1 (List.Mem.tail _ (List.Mem.tail _ (List.Mem.tail _ (List.Mem.tail _ (List.Mem.tail _ (List.Mem.tail _ (List.Mem.tail _ (List.Mem.head _)))))))) (zU_b1 (List.Mem.tail _ (List.Mem.tail _ (List.Mem.tail _ (List.Mem.tail _ (List.Mem.tail _ (List.Mem.tail _ (List.Mem.tail _ (List.Mem.tail _ (List.Mem.head _))))))))) zU_b0)))))))))
                    replace hP := zl_e hP hZ22
                    have hZ22K : zC [3, 12, 13, 14, 40, 41, 42, 43, 44, 45, 46, 47, 48, 49, 50, 51, 52, 53, 54, 61, 68, 1099, 1100, 1101, 1102, 1103, 1104, 1105, 1106, 1107, 1108, 1109, 1110, 1111, 1112, 1113, 1114, 1115, 1116] Z Z22 := zC_t zC_r kZ22 (by decide)
                    clear kZ22 hZ22
                    refine fw_121 _ _ _ _ ?_
                    refine wz_i1 rfl ?_
                    refine wz_i0 (i3O (n := 7) (show (0 : Int32) = i3 0 from rfl) (by omega) (by omega) (by omega)) ?_
                    refine wz_i0 (Eq.trans (i3To (Eq.trans (zm_rd (Z := Z22) (ν := ν) (k := 68) (show ((0 : Nat) : Int) = 0 from rfl) (show ((0 : Nat) : Int) = 0 from rfl) (show ((0 : Nat) : Int) = 0 from rfl)) (congrArg i3 ((hZ22A.1)))) (by omega) (by omega)) (decide_eq_false (by omega))) ?_
                    refine wz_i0 (Eq.trans (i3T (Eq.trans (zm_rd (Z := Z22) (ν := ν) (k := 68) (show ((0 : Nat) : Int) = 0 from rfl) (show ((0 : Nat) : Int) = 0 from rfl) (show ((0 : Nat) : Int) = 0 from rfl)) (congrArg i3 ((hZ22A.1)))) (by omega) (by omega)) (decide_eq_false (by omega))) ?_
                    refine wz_i0 (Eq.trans (i3T (Eq.trans (zm_rd (Z := Z22) (ν := ν) (k := 68) (show ((0 : Nat) : Int) = 0 from rfl) (show ((0 : Nat) : Int) = 0 from rfl) (show ((0 : Nat) : Int) = 0 from rfl)) (congrArg i3 ((hZ22A.1)))) (by omega) (by omega)) (decide_eq_false (by omega))) ?_
                    refine wz_i0 (Eq.trans (i3T (Eq.trans (zm_rd (Z := Z22) (ν := ν) (k := 68) (show ((0 : Nat) : Int) = 0 from rfl) (show ((0 : Nat) : Int) = 0 from rfl) (show ((0 : Nat) : Int) = 0 from rfl)) (congrArg i3 ((hZ22A.1)))) (by omega) (by omega)) (decide_eq_false (by omega))) ?_
                    refine wz_i0 (Eq.trans (i3T (Eq.trans (zm_rd (Z := Z22) (ν := ν) (k := 68) (show ((0 : Nat) : Int) = 0 from rfl) (show ((0 : Nat) : Int) = 0 from rfl) (show ((0 : Nat) : Int) = 0 from rfl)) (congrArg i3 ((hZ22A.1)))) (by omega) (by omega)) (decide_eq_false (by omega))) ?_
                    refine wz_i0 (Eq.trans (i3T (Eq.trans (zm_rd (Z := Z22) (ν := ν) (k := 68) (show ((0 : Nat) : Int) = 0 from rfl) (show ((0 : Nat) : Int) = 0 from rfl) (show ((0 : Nat) : Int) = 0 from rfl)) (congrArg i3 ((hZ22A.1)))) (by omega) (by omega)) (decide_eq_false (by omega))) ?_
                    refine wz_i0 (Eq.trans (i3T (Eq.trans (zm_rd (Z := Z22) (ν := ν) (k := 68) (show ((0 : Nat) : Int) = 0 from rfl) (show ((0 : Nat) : Int) = 0 from rfl) (show ((0 : Nat) : Int) = 0 from rfl)) (congrArg i3 ((hZ22A.1)))) (by omega) (by omega)) (decide_eq_false (by omega))) ?_
                    refine wz_i0 (Eq.trans (i3T (Eq.trans (zm_rd (Z := Z22) (ν := ν) (k := 68) (show ((0 : Nat) : Int) = 0 from rfl) (show ((0 : Nat) : Int) = 0 from rfl) (show ((0 : Nat) : Int) = 0 from rfl)) (congrArg i3 ((hZ22A.1)))) (by omega) (by omega)) (decide_eq_false (by omega))) ?_
                    refine wz_i0 (Eq.trans (i3T (Eq.trans (zm_rd (Z := Z22) (ν := ν) (k := 68) (show ((0 : Nat) : Int) = 0 from rfl) (show ((0 : Nat) : Int) = 0 from rfl) (show ((0 : Nat) : Int) = 0 from rfl)) (congrArg i3 ((hZ22A.1)))) (by omega) (by omega)) (decide_eq_false (by omega))) ?_
                    refine wz_i0 (Eq.trans (i3T (Eq.trans (zm_rd (Z := Z22) (ν := ν) (k := 68) (show ((0 : Nat) : Int) = 0 from rfl) (show ((0 : Nat) : Int) = 0 from rfl) (show ((0 : Nat) : Int) = 0 from rfl)) (congrArg i3 ((hZ22A.1)))) (by omega) (by omega)) (decide_eq_false (by omega))) ?_
                    refine wz_i0 (Eq.trans (i3T (Eq.trans (zm_rd (Z := Z22) (ν := ν) (k := 68) (show ((0 : Nat) : Int) = 0 from rfl) (show ((0 : Nat) : Int) = 0 from rfl) (show ((0 : Nat) : Int) = 0 from rfl)) (congrArg i3 ((hZ22A.1)))) (by omega) (by omega)) (decide_eq_false (by omega))) ?_
                    refine wz_i0 (Eq.trans (i3T (Eq.trans (zm_rd (Z := Z22) (ν := ν) (k := 68) (show ((0 : Nat) : Int) = 0 from rfl) (show ((0 : Nat) : Int) = 0 from rfl) (show ((0 : Nat) : Int) = 0 from rfl)) (congrArg i3 ((hZ22A.1)))) (by omega) (by omega)) (decide_eq_false (by omega))) ?_
                    refine wz_i0 (Eq.trans (i3T (Eq.trans (zm_rd (Z := Z22) (ν := ν) (k := 68) (show ((0 : Nat) : Int) = 0 from rfl) (show ((0 : Nat) : Int) = 0 from rfl) (show ((0 : Nat) : Int) = 0 from rfl)) (congrArg i3 ((hZ22A.1)))) (by omega) (by omega)) (decide_eq_false (by omega))) ?_
                    refine wz_i0 (Eq.trans (i3T (Eq.trans (zm_rd (Z := Z22) (ν := ν) (k := 68) (show ((0 : Nat) : Int) = 0 from rfl) (show ((0 : Nat) : Int) = 0 from rfl) (show ((0 : Nat) : Int) = 0 from rfl)) (congrArg i3 ((hZ22A.1)))) (by omega) (by omega)) (decide_eq_false (by omega))) ?_
                    refine wz_i0 (Eq.trans (i3T (Eq.trans (zm_rd (Z := Z22) (ν := ν) (k := 68) (show ((0 : Nat) : Int) = 0 from rfl) (show ((0 : Nat) : Int) = 0 from rfl) (show ((0 : Nat) : Int) = 0 from rfl)) (congrArg i3 ((hZ22A.1)))) (by omega) (by omega)) (decide_eq_false (by omega))) ?_
                    refine wz_i0 (Eq.trans (i3T (Eq.trans (zm_rd (Z := Z22) (ν := ν) (k := 68) (show ((0 : Nat) : Int) = 0 from rfl) (show ((0 : Nat) : Int) = 0 from rfl) (show ((0 : Nat) : Int) = 0 from rfl)) (congrArg i3 ((hZ22A.1)))) (by omega) (by omega)) (decide_eq_false (by omega))) ?_
                    refine wz_i0 (Eq.trans (i3T (Eq.trans (zm_rd (Z := Z22) (ν := ν) (k := 68) (show ((0 : Nat) : Int) = 0 from rfl) (show ((0 : Nat) : Int) = 0 from rfl) (show ((0 : Nat) : Int) = 0 from rfl)) (congrArg i3 ((hZ22A.1)))) (by omega) (by omega)) (decide_eq_false (by omega))) ?_
                    refine wz_i0 (Eq.trans (i3T (Eq.trans (zm_rd (Z := Z22) (ν := ν) (k := 68) (show ((0 : Nat) : Int) = 0 from rfl) (show ((0 : Nat) : Int) = 0 from rfl) (show ((0 : Nat) : Int) = 0 from rfl)) (congrArg i3 ((hZ22A.1)))) (by omega) (by omega)) (decide_eq_false (by omega))) ?_
                    refine wz_i0 (Eq.trans (i3T (Eq.trans (zm_rd (Z := Z22) (ν := ν) (k := 68) (show ((0 : Nat) : Int) = 0 from rfl) (show ((0 : Nat) : Int) = 0 from rfl) (show ((0 : Nat) : Int) = 0 from rfl)) (congrArg i3 ((hZ22A.1)))) (by omega) (by omega)) (decide_eq_false (by omega))) ?_
                    refine wz_i0 (Eq.trans (i3T (Eq.trans (zm_rd (Z := Z22) (ν := ν) (k := 68) (show ((0 : Nat) : Int) = 0 from rfl) (show ((0 : Nat) : Int) = 0 from rfl) (show ((0 : Nat) : Int) = 0 from rfl)) (congrArg i3 ((hZ22A.1)))) (by omega) (by omega)) (decide_eq_false (by omega))) ?_
                    refine wz_i0 (Eq.trans (i3T (Eq.trans (zm_rd (Z := Z22) (ν := ν) (k := 68) (show ((0 : Nat) : Int) = 0 from rfl) (show ((0 : Nat) : Int) = 0 from rfl) (show ((0 : Nat) : Int) = 0 from rfl)) (congrArg i3 ((hZ22A.1)))) (by omega) (by omega)) (decide_eq_false (by omega))) ?_
                    refine wz_i1 (Eq.trans (i3T (Eq.trans (zm_rd (Z := Z22) (ν := ν) (k := 68) (show ((0 : Nat) : Int) = 0 from rfl) (show ((0 : Nat) : Int) = 0 from rfl) (show ((0 : Nat) : Int) = 0 from rfl)) (congrArg i3 ((hZ22A.1)))) (by omega) (by omega)) (decide_eq_true (by omega))) ?_
                    refine wz_i1 rfl ?_
                    refine wz_i0 (i3O (n := 7) (show (1 : Int32) = i3 1 from rfl) (by omega) (by omega) (by omega)) ?_
                    refine wz_i1 rfl ?_
                    refine wz_i0 (i3O (n := 7) (show (2 : Int32) = i3 2 from rfl) (by omega) (by omega) (by omega)) ?_
                    obtain ⟨Z23, v24, hv24, c9, hZ23I, kZ23, jZ23, lv24, uv24⟩ := sp_50 (ν := ν) hZ22I 0 (a1 := a1) (by omega) (a2 := a2) (by omega) (zbh (c := 0) (k := 2) hM (Nat.le_of_ble_eq_true rfl))
                    have hZ23U : zU [0, 2, 3, 4, 5, 6, 7, 8, 9] Z Z23 := zU_t hZ22U jZ23 (zU_b1 (List.Mem.head _) zU_b0)
                    have hZ23K : zC [3, 12, 13, 14, 40, 41, 42, 43, 44, 45, 46, 47, 48, 49, 50, 51, 52, 53, 54, 61, 68, 1099, 1100, 1101, 1102, 1103, 1104, 1105, 1106, 1107, 1108, 1109, 1110, 1111, 1112, 1113, 1114, 1115, 1116] Z Z23 := zC_t hZ22K kZ23 (by decide)
                    replace hP := zl_e2 hP hv24
                    refine wz_cI_of (zas (zcons rfl (zcons (zvi (Eq.trans (zm_rd (Z := Z22) (ν := ν) (k := 68) (show ((0 : Nat) : Int) = 0 from rfl) (show ((0 : Nat) : Int) = 0 from rfl) (show ((1 : Nat) : Int) = 1 from rfl)) (congrArg i3 ((hZ22A.2.1))))) (zcons (zvi (Eq.trans (zm_rd (Z := Z22) (ν := ν) (k := 68) (show ((0 : Nat) : Int) = 0 from rfl) (show ((0 : Nat) : Int) = 0 from rfl) (show ((2 : Nat) : Int) = 2 from rfl)) (congrArg i3 ((hZ22A.2.2.1))))) rfl))) c9) ?_
                    clear c9 hv24
                    exact zlG hP (rfl : i3 v24 = i3 v24) ⟨hZ23I, hZ23K, hZ23U, zG_w zG_r (Nat.le_of_ble_eq_true rfl) (Nat.le_of_ble_eq_true rfl)⟩
                  · replace hP := zE_n hP h21
                    obtain ⟨v25, hv25, c9, lv25, uv25⟩ := sp_40 (ν := ν) hZ 0 (zbh (c := 0) (k := 0) hM (Nat.le_of_ble_eq_true rfl))
                    replace hP := zl_e hP hv25
                    refine wz_cI_of (zas (zcons rfl rfl) c9) ?_
                    clear c9
                    have r26 := zH_k hZ 11 0 0 14 (lo := 0) (hi := 4) (by decide) rfl
                    refine wz_br (i3Le (zm_rd (Z := Z) (ν := ν) (k := 11) (show ((0 : Nat) : Int) = 0 from rfl) (show ((0 : Nat) : Int) = 0 from rfl) (show ((14 : Nat) : Int) = 14 from rfl)) (rfl : i3 v25 = i3 v25) (by omega) (by omega) (by omega) (by omega)) (fun h27 => ?_) (fun h27 => ?_)
                    · replace hP := zE_p hP h27
                      refine wz_i1 (Eq.trans (i3NE (show (3 : Int32) = i3 3 from rfl) (show (1 : Int32) = i3 1 from rfl) (by omega) (by omega) (by omega) (by omega)) (decide_eq_true (by omega))) ?_
                      refine wz_i1 (Eq.trans (i3NE (show (3 : Int32) = i3 3 from rfl) (show (2 : Int32) = i3 2 from rfl) (by omega) (by omega) (by omega) (by omega)) (decide_eq_true (by omega))) ?_
                      refine wz_i0 (Eq.trans (i3NE (show (3 : Int32) = i3 3 from rfl) (show (3 : Int32) = i3 3 from rfl) (by omega) (by omega) (by omega) (by omega)) (decide_eq_false (by omega))) ?_
                      exact zlGe (E := 14) hP ⟨(zbw (a := 0) (c := 2) hZ (Nat.le_of_ble_eq_true rfl)), zC_r, zU_r, zG_w (zG_k rfl) (Nat.le_of_ble_eq_true rfl) (Nat.le_of_ble_eq_true rfl)⟩
                    · replace hP := zE_n hP h27
                      refine wz_i1 (Eq.trans (i3NE (show (0 : Int32) = i3 0 from rfl) (show (1 : Int32) = i3 1 from rfl) (by omega) (by omega) (by omega) (by omega)) (decide_eq_true (by omega))) ?_
                      refine wz_i1 (Eq.trans (i3NE (show (0 : Int32) = i3 0 from rfl) (show (2 : Int32) = i3 2 from rfl) (by omega) (by omega) (by omega) (by omega)) (decide_eq_true (by omega))) ?_
                      refine wz_i1 (Eq.trans (i3NE (show (0 : Int32) = i3 0 from rfl) (show (3 : Int32) = i3 3 from rfl) (by omega) (by omega) (by omega) (by omega)) (decide_eq_true (by omega))) ?_
                      refine dc_J (zcons rfl (zcons (zvi (show (20 : Int32) = i3 20 from rfl)) (zcons (zvi (rfl : i3 a1 = i3 a1)) (zcons (zvi (rfl : i3 a2 = i3 a2)) (zcons (zvi (show (0 : Int32) = i3 0 from rfl)) (zcons (zvi (show (0 : Int32) = i3 0 from rfl)) (zcons (zvi (show (0 : Int32) = i3 0 from rfl)) (zcons (zvi (show (0 : Int32) = i3 0 from rfl)) rfl)))))))) (dg (hZ).1 (by omega) (by omega) (by omega) (by omega) (by omega) (by omega) (by omega) ?_)
                      have hZ28I := zH_dd hZ (a1 := 20) (a2 := a1) (a3 := a2) (a4 := 0) (a5 := 0) (a6 := 0) (a7 := 0) (by omega) (by omega) (by omega) (by omega) (by omega) (by omega) (by omega)
                      have kZ28 : zC [3, 12, 13, 14, 40, 41, 42, 43, 44, 45, 46, 47, 48, 49, 50, 51, 52, 53, 54, 61, 68, 1099, 1100, 1101, 1102, 1103, 1104, 1105, 1106, 1107, 1108, 1109, 1110, 1111, 1112, 1113, 1114, 1115, 1116] Z (zdd Z 20 a1 a2 0 0 0 0) := zC_k zdd_K (by decide) (by decide)
                      have hZ28A : (zdd Z 20 a1 a2 0 0 0 0) 68 0 0 0 = 20 ∧ (zdd Z 20 a1 a2 0 0 0 0) 68 0 0 1 = a1 ∧ (zdd Z 20 a1 a2 0 0 0 0) 68 0 0 2 = a2 ∧ (zdd Z 20 a1 a2 0 0 0 0) 68 0 0 3 = 0 ∧ (zdd Z 20 a1 a2 0 0 0 0) 68 0 0 4 = 0 ∧ (zdd Z 20 a1 a2 0 0 0 0) 68 0 0 5 = 0 ∧ (zdd Z 20 a1 a2 0 0 0 0) 68 0 0 6 = 0 := ⟨zdd_68, zdd_68, zdd_68, zdd_68, zdd_68, zdd_68, zdd_68⟩
                      obtain ⟨Z28, hZ28⟩ := zx (zdd Z 20 a1 a2 0 0 0 0)
                      have dZ28 : ∀ {k : Nat} {i j : Int}, zhall k = true → ¬ (k = 11 ∧ (j = 15 ∨ j = 16)) → Z28 k 0 i j = Z k 0 i j := fun hk hj => by rw [hZ28]; exact zdd_h (hZ).1 hk hj
                      have jZ28 : zU [0, 2, 3, 4, 5, 6, 7, 8, 9] Z (zdd Z 20 a1 a2 0 0 0 0) := zU_dd (hZ).1
                      rw [← hZ28] at hZ28I kZ28 jZ28 hZ28A ⊢
                      have hZ28U : zU [0, 2, 3, 4, 5, 6, 7, 8, 9] Z Z28 := zU_t zU_r jZ28 (zU_b1 (List.Mem.head _) (zU_b1 (List.Mem.tail _ (List.Mem.head _)) (zU_b1 (List.Mem.tail _ (List.Mem.tail _ (List.Mem.head _))) (zU_b1 (List.Mem.tail _ (List.Mem.tail _ (List.Mem.tail _ (List.Mem.head _)))) (zU_b1 (List.Mem.tail _ (List.Mem.tail _ (List.Mem.tail _ (List.Mem.tail _ (List.Mem.head _))))) (zU_b1 (List.Mem.tail _ (List.Mem.tail _ (List.Mem.tail _ (List.Mem.tail _ (List.Mem.tail _ (List.Mem.head _)))))) (zU_b1 (List.Mem.tail _ (List.Mem.tail _ (List.Mem.tail _ (List.Mem.tail _ (List.Mem.tail _ (List.Mem.tail _ (List.Mem.head _))))))) (zU_b1 (List.Mem.tail _ (List.Mem.tail _ (List.Mem.tail _ (List.Mem.tail _ (List.Mem.tail _ (List.Mem.tail _ (List.Mem.tail _ (List.Mem.head _)))))))) (zU_b1 (List.Mem.tail _ (List.Mem.tail _ (List.Mem.tail _ (List.Mem.tail _ (List.Mem.tail _ (List.Mem.tail _ (List.Mem.tail _ (List.Mem.tail _ (List.Mem.head _))))))))) zU_b0)))))))))
                      replace hP := zl_e hP hZ28
                      have hZ28K : zC [3, 12, 13, 14, 40, 41, 42, 43, 44, 45, 46, 47, 48, 49, 50, 51, 52, 53, 54, 61, 68, 1099, 1100, 1101, 1102, 1103, 1104, 1105, 1106, 1107, 1108, 1109, 1110, 1111, 1112, 1113, 1114, 1115, 1116] Z Z28 := zC_t zC_r kZ28 (by decide)
                      clear kZ28 hZ28
                      refine fw_121 _ _ _ _ ?_
                      refine wz_i1 rfl ?_
                      refine wz_i0 (i3O (n := 7) (show (0 : Int32) = i3 0 from rfl) (by omega) (by omega) (by omega)) ?_
                      refine wz_i0 (Eq.trans (i3To (Eq.trans (zm_rd (Z := Z28) (ν := ν) (k := 68) (show ((0 : Nat) : Int) = 0 from rfl) (show ((0 : Nat) : Int) = 0 from rfl) (show ((0 : Nat) : Int) = 0 from rfl)) (congrArg i3 ((hZ28A.1)))) (by omega) (by omega)) (decide_eq_false (by omega))) ?_
                      refine wz_i0 (Eq.trans (i3T (Eq.trans (zm_rd (Z := Z28) (ν := ν) (k := 68) (show ((0 : Nat) : Int) = 0 from rfl) (show ((0 : Nat) : Int) = 0 from rfl) (show ((0 : Nat) : Int) = 0 from rfl)) (congrArg i3 ((hZ28A.1)))) (by omega) (by omega)) (decide_eq_false (by omega))) ?_
                      refine wz_i0 (Eq.trans (i3T (Eq.trans (zm_rd (Z := Z28) (ν := ν) (k := 68) (show ((0 : Nat) : Int) = 0 from rfl) (show ((0 : Nat) : Int) = 0 from rfl) (show ((0 : Nat) : Int) = 0 from rfl)) (congrArg i3 ((hZ28A.1)))) (by omega) (by omega)) (decide_eq_false (by omega))) ?_
                      refine wz_i0 (Eq.trans (i3T (Eq.trans (zm_rd (Z := Z28) (ν := ν) (k := 68) (show ((0 : Nat) : Int) = 0 from rfl) (show ((0 : Nat) : Int) = 0 from rfl) (show ((0 : Nat) : Int) = 0 from rfl)) (congrArg i3 ((hZ28A.1)))) (by omega) (by omega)) (decide_eq_false (by omega))) ?_
                      refine wz_i0 (Eq.trans (i3T (Eq.trans (zm_rd (Z := Z28) (ν := ν) (k := 68) (show ((0 : Nat) : Int) = 0 from rfl) (show ((0 : Nat) : Int) = 0 from rfl) (show ((0 : Nat) : Int) = 0 from rfl)) (congrArg i3 ((hZ28A.1)))) (by omega) (by omega)) (decide_eq_false (by omega))) ?_
                      refine wz_i0 (Eq.trans (i3T (Eq.trans (zm_rd (Z := Z28) (ν := ν) (k := 68) (show ((0 : Nat) : Int) = 0 from rfl) (show ((0 : Nat) : Int) = 0 from rfl) (show ((0 : Nat) : Int) = 0 from rfl)) (congrArg i3 ((hZ28A.1)))) (by omega) (by omega)) (decide_eq_false (by omega))) ?_
                      refine wz_i0 (Eq.trans (i3T (Eq.trans (zm_rd (Z := Z28) (ν := ν) (k := 68) (show ((0 : Nat) : Int) = 0 from rfl) (show ((0 : Nat) : Int) = 0 from rfl) (show ((0 : Nat) : Int) = 0 from rfl)) (congrArg i3 ((hZ28A.1)))) (by omega) (by omega)) (decide_eq_false (by omega))) ?_
                      refine wz_i0 (Eq.trans (i3T (Eq.trans (zm_rd (Z := Z28) (ν := ν) (k := 68) (show ((0 : Nat) : Int) = 0 from rfl) (show ((0 : Nat) : Int) = 0 from rfl) (show ((0 : Nat) : Int) = 0 from rfl)) (congrArg i3 ((hZ28A.1)))) (by omega) (by omega)) (decide_eq_false (by omega))) ?_
                      refine wz_i0 (Eq.trans (i3T (Eq.trans (zm_rd (Z := Z28) (ν := ν) (k := 68) (show ((0 : Nat) : Int) = 0 from rfl) (show ((0 : Nat) : Int) = 0 from rfl) (show ((0 : Nat) : Int) = 0 from rfl)) (congrArg i3 ((hZ28A.1)))) (by omega) (by omega)) (decide_eq_false (by omega))) ?_
                      refine wz_i0 (Eq.trans (i3T (Eq.trans (zm_rd (Z := Z28) (ν := ν) (k := 68) (show ((0 : Nat) : Int) = 0 from rfl) (show ((0 : Nat) : Int) = 0 from rfl) (show ((0 : Nat) : Int) = 0 from rfl)) (congrArg i3 ((hZ28A.1)))) (by omega) (by omega)) (decide_eq_false (by omega))) ?_
                      refine wz_i0 (Eq.trans (i3T (Eq.trans (zm_rd (Z := Z28) (ν := ν) (k := 68) (show ((0 : Nat) : Int) = 0 from rfl) (show ((0 : Nat) : Int) = 0 from rfl) (show ((0 : Nat) : Int) = 0 from rfl)) (congrArg i3 ((hZ28A.1)))) (by omega) (by omega)) (decide_eq_false (by omega))) ?_
                      refine wz_i0 (Eq.trans (i3T (Eq.trans (zm_rd (Z := Z28) (ν := ν) (k := 68) (show ((0 : Nat) : Int) = 0 from rfl) (show ((0 : Nat) : Int) = 0 from rfl) (show ((0 : Nat) : Int) = 0 from rfl)) (congrArg i3 ((hZ28A.1)))) (by omega) (by omega)) (decide_eq_false (by omega))) ?_
                      refine wz_i0 (Eq.trans (i3T (Eq.trans (zm_rd (Z := Z28) (ν := ν) (k := 68) (show ((0 : Nat) : Int) = 0 from rfl) (show ((0 : Nat) : Int) = 0 from rfl) (show ((0 : Nat) : Int) = 0 from rfl)) (congrArg i3 ((hZ28A.1)))) (by omega) (by omega)) (decide_eq_false (by omega))) ?_
                      refine wz_i0 (Eq.trans (i3T (Eq.trans (zm_rd (Z := Z28) (ν := ν) (k := 68) (show ((0 : Nat) : Int) = 0 from rfl) (show ((0 : Nat) : Int) = 0 from rfl) (show ((0 : Nat) : Int) = 0 from rfl)) (congrArg i3 ((hZ28A.1)))) (by omega) (by omega)) (decide_eq_false (by omega))) ?_
                      refine wz_i0 (Eq.trans (i3T (Eq.trans (zm_rd (Z := Z28) (ν := ν) (k := 68) (show ((0 : Nat) : Int) = 0 from rfl) (show ((0 : Nat) : Int) = 0 from rfl) (show ((0 : Nat) : Int) = 0 from rfl)) (congrArg i3 ((hZ28A.1)))) (by omega) (by omega)) (decide_eq_false (by omega))) ?_
                      refine wz_i0 (Eq.trans (i3T (Eq.trans (zm_rd (Z := Z28) (ν := ν) (k := 68) (show ((0 : Nat) : Int) = 0 from rfl) (show ((0 : Nat) : Int) = 0 from rfl) (show ((0 : Nat) : Int) = 0 from rfl)) (congrArg i3 ((hZ28A.1)))) (by omega) (by omega)) (decide_eq_false (by omega))) ?_
                      refine wz_i0 (Eq.trans (i3T (Eq.trans (zm_rd (Z := Z28) (ν := ν) (k := 68) (show ((0 : Nat) : Int) = 0 from rfl) (show ((0 : Nat) : Int) = 0 from rfl) (show ((0 : Nat) : Int) = 0 from rfl)) (congrArg i3 ((hZ28A.1)))) (by omega) (by omega)) (decide_eq_false (by omega))) ?_
                      refine wz_i0 (Eq.trans (i3T (Eq.trans (zm_rd (Z := Z28) (ν := ν) (k := 68) (show ((0 : Nat) : Int) = 0 from rfl) (show ((0 : Nat) : Int) = 0 from rfl) (show ((0 : Nat) : Int) = 0 from rfl)) (congrArg i3 ((hZ28A.1)))) (by omega) (by omega)) (decide_eq_false (by omega))) ?_
                      refine wz_i0 (Eq.trans (i3T (Eq.trans (zm_rd (Z := Z28) (ν := ν) (k := 68) (show ((0 : Nat) : Int) = 0 from rfl) (show ((0 : Nat) : Int) = 0 from rfl) (show ((0 : Nat) : Int) = 0 from rfl)) (congrArg i3 ((hZ28A.1)))) (by omega) (by omega)) (decide_eq_false (by omega))) ?_
                      refine wz_i0 (Eq.trans (i3T (Eq.trans (zm_rd (Z := Z28) (ν := ν) (k := 68) (show ((0 : Nat) : Int) = 0 from rfl) (show ((0 : Nat) : Int) = 0 from rfl) (show ((0 : Nat) : Int) = 0 from rfl)) (congrArg i3 ((hZ28A.1)))) (by omega) (by omega)) (decide_eq_false (by omega))) ?_
                      refine wz_i0 (Eq.trans (i3T (Eq.trans (zm_rd (Z := Z28) (ν := ν) (k := 68) (show ((0 : Nat) : Int) = 0 from rfl) (show ((0 : Nat) : Int) = 0 from rfl) (show ((0 : Nat) : Int) = 0 from rfl)) (congrArg i3 ((hZ28A.1)))) (by omega) (by omega)) (decide_eq_false (by omega))) ?_
                      refine wz_i1 (Eq.trans (i3T (Eq.trans (zm_rd (Z := Z28) (ν := ν) (k := 68) (show ((0 : Nat) : Int) = 0 from rfl) (show ((0 : Nat) : Int) = 0 from rfl) (show ((0 : Nat) : Int) = 0 from rfl)) (congrArg i3 ((hZ28A.1)))) (by omega) (by omega)) (decide_eq_true (by omega))) ?_
                      refine wz_i1 rfl ?_
                      refine wz_i0 (i3O (n := 7) (show (1 : Int32) = i3 1 from rfl) (by omega) (by omega) (by omega)) ?_
                      refine wz_i1 rfl ?_
                      refine wz_i0 (i3O (n := 7) (show (2 : Int32) = i3 2 from rfl) (by omega) (by omega) (by omega)) ?_
                      obtain ⟨Z29, v30, hv30, c9, hZ29I, kZ29, jZ29, lv30, uv30⟩ := sp_50 (ν := ν) hZ28I 0 (a1 := a1) (by omega) (a2 := a2) (by omega) (zbh (c := 0) (k := 2) hM (Nat.le_of_ble_eq_true rfl))
                      have hZ29U : zU [0, 2, 3, 4, 5, 6, 7, 8, 9] Z Z29 := zU_t hZ28U jZ29 (zU_b1 (List.Mem.head _) zU_b0)
                      have hZ29K : zC [3, 12, 13, 14, 40, 41, 42, 43, 44, 45, 46, 47, 48, 49, 50, 51, 52, 53, 54, 61, 68, 1099, 1100, 1101, 1102, 1103, 1104, 1105, 1106, 1107, 1108, 1109, 1110, 1111, 1112, 1113, 1114, 1115, 1116] Z Z29 := zC_t hZ28K kZ29 (by decide)
                      replace hP := zl_e2 hP hv30
                      refine wz_cI_of (zas (zcons rfl (zcons (zvi (Eq.trans (zm_rd (Z := Z28) (ν := ν) (k := 68) (show ((0 : Nat) : Int) = 0 from rfl) (show ((0 : Nat) : Int) = 0 from rfl) (show ((1 : Nat) : Int) = 1 from rfl)) (congrArg i3 ((hZ28A.2.1))))) (zcons (zvi (Eq.trans (zm_rd (Z := Z28) (ν := ν) (k := 68) (show ((0 : Nat) : Int) = 0 from rfl) (show ((0 : Nat) : Int) = 0 from rfl) (show ((2 : Nat) : Int) = 2 from rfl)) (congrArg i3 ((hZ28A.2.2.1))))) rfl))) c9) ?_
                      clear c9 hv30
                      exact zlG hP (rfl : i3 v30 = i3 v30) ⟨hZ29I, hZ29K, hZ29U, zG_w zG_r (Nat.le_of_ble_eq_true rfl) (Nat.le_of_ble_eq_true rfl)⟩
            · replace hP := zE_n hP h12
              have r31 := zH_k hZ 11 0 0 2 (lo := 0) (hi := 6) (by decide) rfl
              refine wz_br (i3Le (zm_rd (Z := Z) (ν := ν) (k := 11) (show ((0 : Nat) : Int) = 0 from rfl) (show ((0 : Nat) : Int) = 0 from rfl) (show ((2 : Nat) : Int) = 2 from rfl)) (zm_rd (Z := Z) (ν := ν) (k := 44) (show ((0 : Nat) : Int) = 0 from rfl) (i3I (y := (Z 47 0 a1 0)) (zm_rd (Z := Z) (ν := ν) (k := 47) (show ((0 : Nat) : Int) = 0 from rfl) (i3I (y := a1) (rfl : i3 a1 = i3 a1) (by omega) (by omega) (by omega)) (show ((0 : Nat) : Int) = 0 from rfl)) (by omega) (by omega) (by omega)) (show ((12 : Nat) : Int) = 12 from rfl)) (by omega) (by omega) (by omega) (by omega)) (fun h32 => ?_) (fun h32 => ?_)
              · replace hP := zE_p hP h32
                have r33 := zH_k hZ 50 0 a2 2 (lo := 0) (hi := 1) (by decide) rfl
                refine wz_br (i3NE (zm_rd (Z := Z) (ν := ν) (k := 50) (show ((0 : Nat) : Int) = 0 from rfl) (i3I (y := a2) (rfl : i3 a2 = i3 a2) (by omega) (by omega) (by omega)) (show ((2 : Nat) : Int) = 2 from rfl)) (show (0 : Int32) = i3 0 from rfl) (by omega) (by omega) (by omega) (by omega)) (fun h34 => ?_) (fun h34 => ?_)
                · replace hP := zE_p hP h34
                  refine wz_i1 (Eq.trans (i3NE (show (3 : Int32) = i3 3 from rfl) (show (1 : Int32) = i3 1 from rfl) (by omega) (by omega) (by omega) (by omega)) (decide_eq_true (by omega))) ?_
                  refine wz_i1 (Eq.trans (i3NE (show (3 : Int32) = i3 3 from rfl) (show (2 : Int32) = i3 2 from rfl) (by omega) (by omega) (by omega) (by omega)) (decide_eq_true (by omega))) ?_
                  refine wz_i0 (Eq.trans (i3NE (show (3 : Int32) = i3 3 from rfl) (show (3 : Int32) = i3 3 from rfl) (by omega) (by omega) (by omega) (by omega)) (decide_eq_false (by omega))) ?_
                  exact zlGe (E := 14) hP ⟨(zbw (a := 0) (c := 2) hZ (Nat.le_of_ble_eq_true rfl)), zC_r, zU_r, zG_w (zG_k rfl) (Nat.le_of_ble_eq_true rfl) (Nat.le_of_ble_eq_true rfl)⟩
                · replace hP := zE_n hP h34
                  obtain ⟨v35, hv35, c9, lv35, uv35⟩ := sp_43 (ν := ν) hZ 0 (a1 := a2) (by omega) (zbh (c := 0) (k := 0) hM (Nat.le_of_ble_eq_true rfl))
                  replace hP := zl_e hP hv35
                  refine wz_cI_of (zas (zcons rfl (zcons (zvi (rfl : i3 a2 = i3 a2)) rfl)) c9) ?_
                  clear c9
                  have r36 := zH_k hZ 50 0 a2 0 (lo := 0) (hi := 99) (by decide) rfl
                  have r37 := zH_k hZ 47 0 a1 3 (lo := 0) (hi := 40) (by decide) rfl
                  have r38 := w3_r (v35 + (Z 47 0 a1 3))
                  refine wz_br (i3L (zm_rd (Z := Z) (ν := ν) (k := 50) (show ((0 : Nat) : Int) = 0 from rfl) (i3I (y := a2) (rfl : i3 a2 = i3 a2) (by omega) (by omega) (by omega)) (show ((0 : Nat) : Int) = 0 from rfl)) (i3W (i3A (rfl : i3 v35 = i3 v35) (zm_rd (Z := Z) (ν := ν) (k := 47) (show ((0 : Nat) : Int) = 0 from rfl) (i3I (y := a1) (rfl : i3 a1 = i3 a1) (by omega) (by omega) (by omega)) (show ((3 : Nat) : Int) = 3 from rfl)))) (by omega) (by omega) (by omega) (by omega)) (fun h39 => ?_) (fun h39 => ?_)
                  · replace hP := zE_p hP h39
                    refine wz_i1 (Eq.trans (i3NE (show (3 : Int32) = i3 3 from rfl) (show (1 : Int32) = i3 1 from rfl) (by omega) (by omega) (by omega) (by omega)) (decide_eq_true (by omega))) ?_
                    refine wz_i1 (Eq.trans (i3NE (show (3 : Int32) = i3 3 from rfl) (show (2 : Int32) = i3 2 from rfl) (by omega) (by omega) (by omega) (by omega)) (decide_eq_true (by omega))) ?_
                    refine wz_i0 (Eq.trans (i3NE (show (3 : Int32) = i3 3 from rfl) (show (3 : Int32) = i3 3 from rfl) (by omega) (by omega) (by omega) (by omega)) (decide_eq_false (by omega))) ?_
                    exact zlGe (E := 14) hP ⟨(zbw (a := 0) (c := 2) hZ (Nat.le_of_ble_eq_true rfl)), zC_r, zU_r, zG_w (zG_k rfl) (Nat.le_of_ble_eq_true rfl) (Nat.le_of_ble_eq_true rfl)⟩
                  · replace hP := zE_n hP h39
                    obtain ⟨v40, hv40, c9, lv40, uv40⟩ := sp_53 (ν := ν) hZ 0 (a1 := a2) (by omega) (zbh (c := 0) (k := 0) hM (Nat.le_of_ble_eq_true rfl))
                    replace hP := zl_e hP hv40
                    refine wz_cI_of (zas (zcons rfl (zcons (zvi (rfl : i3 a2 = i3 a2)) rfl)) c9) ?_
                    clear c9
                    refine wz_br (i3L (show (0 : Int32) = i3 0 from rfl) (rfl : i3 v40 = i3 v40) (by omega) (by omega) (by omega) (by omega)) (fun h41 => ?_) (fun h41 => ?_)
                    · replace hP := zE_p hP h41
                      refine wz_i1 (Eq.trans (i3NE (show (0 : Int32) = i3 0 from rfl) (show (1 : Int32) = i3 1 from rfl) (by omega) (by omega) (by omega) (by omega)) (decide_eq_true (by omega))) ?_
                      refine wz_i1 (Eq.trans (i3NE (show (0 : Int32) = i3 0 from rfl) (show (2 : Int32) = i3 2 from rfl) (by omega) (by omega) (by omega) (by omega)) (decide_eq_true (by omega))) ?_
                      refine wz_i1 (Eq.trans (i3NE (show (0 : Int32) = i3 0 from rfl) (show (3 : Int32) = i3 3 from rfl) (by omega) (by omega) (by omega) (by omega)) (decide_eq_true (by omega))) ?_
                      refine dc_J (zcons rfl (zcons (zvi (show (20 : Int32) = i3 20 from rfl)) (zcons (zvi (rfl : i3 a1 = i3 a1)) (zcons (zvi (rfl : i3 a2 = i3 a2)) (zcons (zvi (show (0 : Int32) = i3 0 from rfl)) (zcons (zvi (show (0 : Int32) = i3 0 from rfl)) (zcons (zvi (show (0 : Int32) = i3 0 from rfl)) (zcons (zvi (show (0 : Int32) = i3 0 from rfl)) rfl)))))))) (dg (hZ).1 (by omega) (by omega) (by omega) (by omega) (by omega) (by omega) (by omega) ?_)
                      have hZ42I := zH_dd hZ (a1 := 20) (a2 := a1) (a3 := a2) (a4 := 0) (a5 := 0) (a6 := 0) (a7 := 0) (by omega) (by omega) (by omega) (by omega) (by omega) (by omega) (by omega)
                      have kZ42 : zC [3, 12, 13, 14, 40, 41, 42, 43, 44, 45, 46, 47, 48, 49, 50, 51, 52, 53, 54, 61, 68, 1099, 1100, 1101, 1102, 1103, 1104, 1105, 1106, 1107, 1108, 1109, 1110, 1111, 1112, 1113, 1114, 1115, 1116] Z (zdd Z 20 a1 a2 0 0 0 0) := zC_k zdd_K (by decide) (by decide)
                      have hZ42A : (zdd Z 20 a1 a2 0 0 0 0) 68 0 0 0 = 20 ∧ (zdd Z 20 a1 a2 0 0 0 0) 68 0 0 1 = a1 ∧ (zdd Z 20 a1 a2 0 0 0 0) 68 0 0 2 = a2 ∧ (zdd Z 20 a1 a2 0 0 0 0) 68 0 0 3 = 0 ∧ (zdd Z 20 a1 a2 0 0 0 0) 68 0 0 4 = 0 ∧ (zdd Z 20 a1 a2 0 0 0 0) 68 0 0 5 = 0 ∧ (zdd Z 20 a1 a2 0 0 0 0) 68 0 0 6 = 0 := ⟨zdd_68, zdd_68, zdd_68, zdd_68, zdd_68, zdd_68, zdd_68⟩
                      obtain ⟨Z42, hZ42⟩ := zx (zdd Z 20 a1 a2 0 0 0 0)
                      have dZ42 : ∀ {k : Nat} {i j : Int}, zhall k = true → ¬ (k = 11 ∧ (j = 15 ∨ j = 16)) → Z42 k 0 i j = Z k 0 i j := fun hk hj => by rw [hZ42]; exact zdd_h (hZ).1 hk hj
                      have jZ42 : zU [0, 2, 3, 4, 5, 6, 7, 8, 9] Z (zdd Z 20 a1 a2 0 0 0 0) := zU_dd (hZ).1
                      rw [← hZ42] at hZ42I kZ42 jZ42 hZ42A ⊢
                      have hZ42U : zU [0, 2, 3, 4, 5, 6, 7, 8, 9] Z Z42 := zU_t zU_r jZ42 (zU_b1 (List.Mem.head _) (zU_b1 (List.Mem.tail _ (List.Mem.head _)) (zU_b1 (List.Mem.tail _ (List.Mem.tail _ (List.Mem.head _))) (zU_b1 (List.Mem.tail _ (List.Mem.tail _ (List.Mem.tail _ (List.Mem.head _)))) (zU_b1 (List.Mem.tail _ (List.Mem.tail _ (List.Mem.tail _ (List.Mem.tail _ (List.Mem.head _))))) (zU_b1 (List.Mem.tail _ (List.Mem.tail _ (List.Mem.tail _ (List.Mem.tail _ (List.Mem.tail _ (List.Mem.head _)))))) (zU_b1 (List.Mem.tail _ (List.Mem.tail _ (List.Mem.tail _ (List.Mem.tail _ (List.Mem.tail _ (List.Mem.tail _ (List.Mem.head _))))))) (zU_b1 (List.Mem.tail _ (List.Mem.tail _ (List.Mem.tail _ (List.Mem.tail _ (List.Mem.tail _ (List.Mem.tail _ (List.Mem.tail _ (List.Mem.head _)))))))) (zU_b1 (List.Mem.tail _ (List.Mem.tail _ (List.Mem.tail _ (List.Mem.tail _ (List.Mem.tail _ (List.Mem.tail _ (List.Mem.tail _ (List.Mem.tail _ (List.Mem.head _))))))))) zU_b0)))))))))
                      replace hP := zl_e hP hZ42
                      have hZ42K : zC [3, 12, 13, 14, 40, 41, 42, 43, 44, 45, 46, 47, 48, 49, 50, 51, 52, 53, 54, 61, 68, 1099, 1100, 1101, 1102, 1103, 1104, 1105, 1106, 1107, 1108, 1109, 1110, 1111, 1112, 1113, 1114, 1115, 1116] Z Z42 := zC_t zC_r kZ42 (by decide)
                      clear kZ42 hZ42
                      refine fw_121 _ _ _ _ ?_
                      refine wz_i1 rfl ?_
                      refine wz_i0 (i3O (n := 7) (show (0 : Int32) = i3 0 from rfl) (by omega) (by omega) (by omega)) ?_
                      refine wz_i0 (Eq.trans (i3To (Eq.trans (zm_rd (Z := Z42) (ν := ν) (k := 68) (show ((0 : Nat) : Int) = 0 from rfl) (show ((0 : Nat) : Int) = 0 from rfl) (show ((0 : Nat) : Int) = 0 from rfl)) (congrArg i3 ((hZ42A.1)))) (by omega) (by omega)) (decide_eq_false (by omega))) ?_
                      refine wz_i0 (Eq.trans (i3T (Eq.trans (zm_rd (Z := Z42) (ν := ν) (k := 68) (show ((0 : Nat) : Int) = 0 from rfl) (show ((0 : Nat) : Int) = 0 from rfl) (show ((0 : Nat) : Int) = 0 from rfl)) (congrArg i3 ((hZ42A.1)))) (by omega) (by omega)) (decide_eq_false (by omega))) ?_
                      refine wz_i0 (Eq.trans (i3T (Eq.trans (zm_rd (Z := Z42) (ν := ν) (k := 68) (show ((0 : Nat) : Int) = 0 from rfl) (show ((0 : Nat) : Int) = 0 from rfl) (show ((0 : Nat) : Int) = 0 from rfl)) (congrArg i3 ((hZ42A.1)))) (by omega) (by omega)) (decide_eq_false (by omega))) ?_
                      refine wz_i0 (Eq.trans (i3T (Eq.trans (zm_rd (Z := Z42) (ν := ν) (k := 68) (show ((0 : Nat) : Int) = 0 from rfl) (show ((0 : Nat) : Int) = 0 from rfl) (show ((0 : Nat) : Int) = 0 from rfl)) (congrArg i3 ((hZ42A.1)))) (by omega) (by omega)) (decide_eq_false (by omega))) ?_
                      refine wz_i0 (Eq.trans (i3T (Eq.trans (zm_rd (Z := Z42) (ν := ν) (k := 68) (show ((0 : Nat) : Int) = 0 from rfl) (show ((0 : Nat) : Int) = 0 from rfl) (show ((0 : Nat) : Int) = 0 from rfl)) (congrArg i3 ((hZ42A.1)))) (by omega) (by omega)) (decide_eq_false (by omega))) ?_
                      refine wz_i0 (Eq.trans (i3T (Eq.trans (zm_rd (Z := Z42) (ν := ν) (k := 68) (show ((0 : Nat) : Int) = 0 from rfl) (show ((0 : Nat) : Int) = 0 from rfl) (show ((0 : Nat) : Int) = 0 from rfl)) (congrArg i3 ((hZ42A.1)))) (by omega) (by omega)) (decide_eq_false (by omega))) ?_
                      refine wz_i0 (Eq.trans (i3T (Eq.trans (zm_rd (Z := Z42) (ν := ν) (k := 68) (show ((0 : Nat) : Int) = 0 from rfl) (show ((0 : Nat) : Int) = 0 from rfl) (show ((0 : Nat) : Int) = 0 from rfl)) (congrArg i3 ((hZ42A.1)))) (by omega) (by omega)) (decide_eq_false (by omega))) ?_
                      refine wz_i0 (Eq.trans (i3T (Eq.trans (zm_rd (Z := Z42) (ν := ν) (k := 68) (show ((0 : Nat) : Int) = 0 from rfl) (show ((0 : Nat) : Int) = 0 from rfl) (show ((0 : Nat) : Int) = 0 from rfl)) (congrArg i3 ((hZ42A.1)))) (by omega) (by omega)) (decide_eq_false (by omega))) ?_
                      refine wz_i0 (Eq.trans (i3T (Eq.trans (zm_rd (Z := Z42) (ν := ν) (k := 68) (show ((0 : Nat) : Int) = 0 from rfl) (show ((0 : Nat) : Int) = 0 from rfl) (show ((0 : Nat) : Int) = 0 from rfl)) (congrArg i3 ((hZ42A.1)))) (by omega) (by omega)) (decide_eq_false (by omega))) ?_
                      refine wz_i0 (Eq.trans (i3T (Eq.trans (zm_rd (Z := Z42) (ν := ν) (k := 68) (show ((0 : Nat) : Int) = 0 from rfl) (show ((0 : Nat) : Int) = 0 from rfl) (show ((0 : Nat) : Int) = 0 from rfl)) (congrArg i3 ((hZ42A.1)))) (by omega) (by omega)) (decide_eq_false (by omega))) ?_
                      refine wz_i0 (Eq.trans (i3T (Eq.trans (zm_rd (Z := Z42) (ν := ν) (k := 68) (show ((0 : Nat) : Int) = 0 from rfl) (show ((0 : Nat) : Int) = 0 from rfl) (show ((0 : Nat) : Int) = 0 from rfl)) (congrArg i3 ((hZ42A.1)))) (by omega) (by omega)) (decide_eq_false (by omega))) ?_
                      refine wz_i0 (Eq.trans (i3T (Eq.trans (zm_rd (Z := Z42) (ν := ν) (k := 68) (show ((0 : Nat) : Int) = 0 from rfl) (show ((0 : Nat) : Int) = 0 from rfl) (show ((0 : Nat) : Int) = 0 from rfl)) (congrArg i3 ((hZ42A.1)))) (by omega) (by omega)) (decide_eq_false (by omega))) ?_
                      refine wz_i0 (Eq.trans (i3T (Eq.trans (zm_rd (Z := Z42) (ν := ν) (k := 68) (show ((0 : Nat) : Int) = 0 from rfl) (show ((0 : Nat) : Int) = 0 from rfl) (show ((0 : Nat) : Int) = 0 from rfl)) (congrArg i3 ((hZ42A.1)))) (by omega) (by omega)) (decide_eq_false (by omega))) ?_
                      refine wz_i0 (Eq.trans (i3T (Eq.trans (zm_rd (Z := Z42) (ν := ν) (k := 68) (show ((0 : Nat) : Int) = 0 from rfl) (show ((0 : Nat) : Int) = 0 from rfl) (show ((0 : Nat) : Int) = 0 from rfl)) (congrArg i3 ((hZ42A.1)))) (by omega) (by omega)) (decide_eq_false (by omega))) ?_
                      refine wz_i0 (Eq.trans (i3T (Eq.trans (zm_rd (Z := Z42) (ν := ν) (k := 68) (show ((0 : Nat) : Int) = 0 from rfl) (show ((0 : Nat) : Int) = 0 from rfl) (show ((0 : Nat) : Int) = 0 from rfl)) (congrArg i3 ((hZ42A.1)))) (by omega) (by omega)) (decide_eq_false (by omega))) ?_
                      refine wz_i0 (Eq.trans (i3T (Eq.trans (zm_rd (Z := Z42) (ν := ν) (k := 68) (show ((0 : Nat) : Int) = 0 from rfl) (show ((0 : Nat) : Int) = 0 from rfl) (show ((0 : Nat) : Int) = 0 from rfl)) (congrArg i3 ((hZ42A.1)))) (by omega) (by omega)) (decide_eq_false (by omega))) ?_
                      refine wz_i0 (Eq.trans (i3T (Eq.trans (zm_rd (Z := Z42) (ν := ν) (k := 68) (show ((0 : Nat) : Int) = 0 from rfl) (show ((0 : Nat) : Int) = 0 from rfl) (show ((0 : Nat) : Int) = 0 from rfl)) (congrArg i3 ((hZ42A.1)))) (by omega) (by omega)) (decide_eq_false (by omega))) ?_
                      refine wz_i0 (Eq.trans (i3T (Eq.trans (zm_rd (Z := Z42) (ν := ν) (k := 68) (show ((0 : Nat) : Int) = 0 from rfl) (show ((0 : Nat) : Int) = 0 from rfl) (show ((0 : Nat) : Int) = 0 from rfl)) (congrArg i3 ((hZ42A.1)))) (by omega) (by omega)) (decide_eq_false (by omega))) ?_
                      refine wz_i0 (Eq.trans (i3T (Eq.trans (zm_rd (Z := Z42) (ν := ν) (k := 68) (show ((0 : Nat) : Int) = 0 from rfl) (show ((0 : Nat) : Int) = 0 from rfl) (show ((0 : Nat) : Int) = 0 from rfl)) (congrArg i3 ((hZ42A.1)))) (by omega) (by omega)) (decide_eq_false (by omega))) ?_
                      refine wz_i0 (Eq.trans (i3T (Eq.trans (zm_rd (Z := Z42) (ν := ν) (k := 68) (show ((0 : Nat) : Int) = 0 from rfl) (show ((0 : Nat) : Int) = 0 from rfl) (show ((0 : Nat) : Int) = 0 from rfl)) (congrArg i3 ((hZ42A.1)))) (by omega) (by omega)) (decide_eq_false (by omega))) ?_
                      refine wz_i0 (Eq.trans (i3T (Eq.trans (zm_rd (Z := Z42) (ν := ν) (k := 68) (show ((0 : Nat) : Int) = 0 from rfl) (show ((0 : Nat) : Int) = 0 from rfl) (show ((0 : Nat) : Int) = 0 from rfl)) (congrArg i3 ((hZ42A.1)))) (by omega) (by omega)) (decide_eq_false (by omega))) ?_
                      refine wz_i1 (Eq.trans (i3T (Eq.trans (zm_rd (Z := Z42) (ν := ν) (k := 68) (show ((0 : Nat) : Int) = 0 from rfl) (show ((0 : Nat) : Int) = 0 from rfl) (show ((0 : Nat) : Int) = 0 from rfl)) (congrArg i3 ((hZ42A.1)))) (by omega) (by omega)) (decide_eq_true (by omega))) ?_
                      refine wz_i1 rfl ?_
                      refine wz_i0 (i3O (n := 7) (show (1 : Int32) = i3 1 from rfl) (by omega) (by omega) (by omega)) ?_
                      refine wz_i1 rfl ?_
                      refine wz_i0 (i3O (n := 7) (show (2 : Int32) = i3 2 from rfl) (by omega) (by omega) (by omega)) ?_
                      obtain ⟨Z43, v44, hv44, c9, hZ43I, kZ43, jZ43, lv44, uv44⟩ := sp_50 (ν := ν) hZ42I 0 (a1 := a1) (by omega) (a2 := a2) (by omega) (zbh (c := 0) (k := 2) hM (Nat.le_of_ble_eq_true rfl))
                      have hZ43U : zU [0, 2, 3, 4, 5, 6, 7, 8, 9] Z Z43 := zU_t hZ42U jZ43 (zU_b1 (List.Mem.head _) zU_b0)
                      have hZ43K : zC [3, 12, 13, 14, 40, 41, 42, 43, 44, 45, 46, 47, 48, 49, 50, 51, 52, 53, 54, 61, 68, 1099, 1100, 1101, 1102, 1103, 1104, 1105, 1106, 1107, 1108, 1109, 1110, 1111, 1112, 1113, 1114, 1115, 1116] Z Z43 := zC_t hZ42K kZ43 (by decide)
                      replace hP := zl_e2 hP hv44
                      refine wz_cI_of (zas (zcons rfl (zcons (zvi (Eq.trans (zm_rd (Z := Z42) (ν := ν) (k := 68) (show ((0 : Nat) : Int) = 0 from rfl) (show ((0 : Nat) : Int) = 0 from rfl) (show ((1 : Nat) : Int) = 1 from rfl)) (congrArg i3 ((hZ42A.2.1))))) (zcons (zvi (Eq.trans (zm_rd (Z := Z42) (ν := ν) (k := 68) (show ((0 : Nat) : Int) = 0 from rfl) (show ((0 : Nat) : Int) = 0 from rfl) (show ((2 : Nat) : Int) = 2 from rfl)) (congrArg i3 ((hZ42A.2.2.1))))) rfl))) c9) ?_
                      clear c9 hv44
                      exact zlG hP (rfl : i3 v44 = i3 v44) ⟨hZ43I, hZ43K, hZ43U, zG_w zG_r (Nat.le_of_ble_eq_true rfl) (Nat.le_of_ble_eq_true rfl)⟩
                    · replace hP := zE_n hP h41
                      obtain ⟨v45, hv45, c9, lv45, uv45⟩ := sp_40 (ν := ν) hZ 0 (zbh (c := 0) (k := 0) hM (Nat.le_of_ble_eq_true rfl))
                      replace hP := zl_e hP hv45
                      refine wz_cI_of (zas (zcons rfl rfl) c9) ?_
                      clear c9
                      have r46 := zH_k hZ 11 0 0 14 (lo := 0) (hi := 4) (by decide) rfl
                      refine wz_br (i3Le (zm_rd (Z := Z) (ν := ν) (k := 11) (show ((0 : Nat) : Int) = 0 from rfl) (show ((0 : Nat) : Int) = 0 from rfl) (show ((14 : Nat) : Int) = 14 from rfl)) (rfl : i3 v45 = i3 v45) (by omega) (by omega) (by omega) (by omega)) (fun h47 => ?_) (fun h47 => ?_)
                      · replace hP := zE_p hP h47
                        refine wz_i1 (Eq.trans (i3NE (show (3 : Int32) = i3 3 from rfl) (show (1 : Int32) = i3 1 from rfl) (by omega) (by omega) (by omega) (by omega)) (decide_eq_true (by omega))) ?_
                        refine wz_i1 (Eq.trans (i3NE (show (3 : Int32) = i3 3 from rfl) (show (2 : Int32) = i3 2 from rfl) (by omega) (by omega) (by omega) (by omega)) (decide_eq_true (by omega))) ?_
                        refine wz_i0 (Eq.trans (i3NE (show (3 : Int32) = i3 3 from rfl) (show (3 : Int32) = i3 3 from rfl) (by omega) (by omega) (by omega) (by omega)) (decide_eq_false (by omega))) ?_
                        exact zlGe (E := 14) hP ⟨(zbw (a := 0) (c := 2) hZ (Nat.le_of_ble_eq_true rfl)), zC_r, zU_r, zG_w (zG_k rfl) (Nat.le_of_ble_eq_true rfl) (Nat.le_of_ble_eq_true rfl)⟩
                      · replace hP := zE_n hP h47
                        refine wz_i1 (Eq.trans (i3NE (show (0 : Int32) = i3 0 from rfl) (show (1 : Int32) = i3 1 from rfl) (by omega) (by omega) (by omega) (by omega)) (decide_eq_true (by omega))) ?_
                        refine wz_i1 (Eq.trans (i3NE (show (0 : Int32) = i3 0 from rfl) (show (2 : Int32) = i3 2 from rfl) (by omega) (by omega) (by omega) (by omega)) (decide_eq_true (by omega))) ?_
                        refine wz_i1 (Eq.trans (i3NE (show (0 : Int32) = i3 0 from rfl) (show (3 : Int32) = i3 3 from rfl) (by omega) (by omega) (by omega) (by omega)) (decide_eq_true (by omega))) ?_
                        refine dc_J (zcons rfl (zcons (zvi (show (20 : Int32) = i3 20 from rfl)) (zcons (zvi (rfl : i3 a1 = i3 a1)) (zcons (zvi (rfl : i3 a2 = i3 a2)) (zcons (zvi (show (0 : Int32) = i3 0 from rfl)) (zcons (zvi (show (0 : Int32) = i3 0 from rfl)) (zcons (zvi (show (0 : Int32) = i3 0 from rfl)) (zcons (zvi (show (0 : Int32) = i3 0 from rfl)) rfl)))))))) (dg (hZ).1 (by omega) (by omega) (by omega) (by omega) (by omega) (by omega) (by omega) ?_)
                        have hZ48I := zH_dd hZ (a1 := 20) (a2 := a1) (a3 := a2) (a4 := 0) (a5 := 0) (a6 := 0) (a7 := 0) (by omega) (by omega) (by omega) (by omega) (by omega) (by omega) (by omega)
                        have kZ48 : zC [3, 12, 13, 14, 40, 41, 42, 43, 44, 45, 46, 47, 48, 49, 50, 51, 52, 53, 54, 61, 68, 1099, 1100, 1101, 1102, 1103, 1104, 1105, 1106, 1107, 1108, 1109, 1110, 1111, 1112, 1113, 1114, 1115, 1116] Z (zdd Z 20 a1 a2 0 0 0 0) := zC_k zdd_K (by decide) (by decide)
                        have hZ48A : (zdd Z 20 a1 a2 0 0 0 0) 68 0 0 0 = 20 ∧ (zdd Z 20 a1 a2 0 0 0 0) 68 0 0 1 = a1 ∧ (zdd Z 20 a1 a2 0 0 0 0) 68 0 0 2 = a2 ∧ (zdd Z 20 a1 a2 0 0 0 0) 68 0 0 3 = 0 ∧ (zdd Z 20 a1 a2 0 0 0 0) 68 0 0 4 = 0 ∧ (zdd Z 20 a1 a2 0 0 0 0) 68 0 0 5 = 0 ∧ (zdd Z 20 a1 a2 0 0 0 0) 68 0 0 6 = 0 := ⟨zdd_68, zdd_68, zdd_68, zdd_68, zdd_68, zdd_68, zdd_68⟩
                        obtain ⟨Z48, hZ48⟩ := zx (zdd Z 20 a1 a2 0 0 0 0)
                        have dZ48 : ∀ {k : Nat} {i j : Int}, zhall k = true → ¬ (k = 11 ∧ (j = 15 ∨ j = 16)) → Z48 k 0 i j = Z k 0 i j := fun hk hj => by rw [hZ48]; exact zdd_h (hZ).1 hk hj
                        have jZ48 : zU [0, 2, 3, 4, 5, 6, 7, 8, 9] Z (zdd Z 20 a1 a2 0 0 0 0) := zU_dd (hZ).1
                        rw [← hZ48] at hZ48I kZ48 jZ48 hZ48A ⊢
                        have hZ48U : zU [0, 2, 3, 4, 5, 6, 7, 8, 9] Z Z48 := zU_t zU_r jZ48 (zU_b1 (List.Mem.head _) (zU_b1 (List.Mem.tail _ (List.Mem.head _)) (zU_b1 (List.Mem.tail _ (List.Mem.tail _ (List.Mem.head _))) (zU_b1 (List.Mem.tail _ (List.Mem.tail _ (List.Mem.tail _ (List.Mem.head _)))) (zU_b1 (List.Mem.tail _ (List.Mem.tail _ (List.Mem.tail _ (List.Mem.tail _ (List.Mem.head _))))) (zU_b1 (List.Mem.tail _ (List.Mem.tail _ (List.Mem.tail _ (List.Mem.tail _ (List.Mem.tail _ (List.Mem.head _)))))) (zU_b1 (List.Mem.tail _ (List.Mem.tail _ (List.Mem.tail _ (List.Mem.tail _ (List.Mem.tail _ (List.Mem.tail _ (List.Mem.head _))))))) (zU_b1 (List.Mem.tail _ (List.Mem.tail _ (List.Mem.tail _ (List.Mem.tail _ (List.Mem.tail _ (List.Mem.tail _ (List.Mem.tail _ (List.Mem.head _)))))))) (zU_b1 (List.Mem.tail _ (List.Mem.tail _ (List.Mem.tail _ (List.Mem.tail _ (List.Mem.tail _ (List.Mem.tail _ (List.Mem.tail _ (List.Mem.tail _ (List.Mem.head _))))))))) zU_b0)))))))))
                        replace hP := zl_e hP hZ48
                        have hZ48K : zC [3, 12, 13, 14, 40, 41, 42, 43, 44, 45, 46, 47, 48, 49, 50, 51, 52, 53, 54, 61, 68, 1099, 1100, 1101, 1102, 1103, 1104, 1105, 1106, 1107, 1108, 1109, 1110, 1111, 1112, 1113, 1114, 1115, 1116] Z Z48 := zC_t zC_r kZ48 (by decide)
                        clear kZ48 hZ48
                        refine fw_121 _ _ _ _ ?_
                        refine wz_i1 rfl ?_
                        refine wz_i0 (i3O (n := 7) (show (0 : Int32) = i3 0 from rfl) (by omega) (by omega) (by omega)) ?_
                        refine wz_i0 (Eq.trans (i3To (Eq.trans (zm_rd (Z := Z48) (ν := ν) (k := 68) (show ((0 : Nat) : Int) = 0 from rfl) (show ((0 : Nat) : Int) = 0 from rfl) (show ((0 : Nat) : Int) = 0 from rfl)) (congrArg i3 ((hZ48A.1)))) (by omega) (by omega)) (decide_eq_false (by omega))) ?_
                        refine wz_i0 (Eq.trans (i3T (Eq.trans (zm_rd (Z := Z48) (ν := ν) (k := 68) (show ((0 : Nat) : Int) = 0 from rfl) (show ((0 : Nat) : Int) = 0 from rfl) (show ((0 : Nat) : Int) = 0 from rfl)) (congrArg i3 ((hZ48A.1)))) (by omega) (by omega)) (decide_eq_false (by omega))) ?_
                        refine wz_i0 (Eq.trans (i3T (Eq.trans (zm_rd (Z := Z48) (ν := ν) (k := 68) (show ((0 : Nat) : Int) = 0 from rfl) (show ((0 : Nat) : Int) = 0 from rfl) (show ((0 : Nat) : Int) = 0 from rfl)) (congrArg i3 ((hZ48A.1)))) (by omega) (by omega)) (decide_eq_false (by omega))) ?_
                        refine wz_i0 (Eq.trans (i3T (Eq.trans (zm_rd (Z := Z48) (ν := ν) (k := 68) (show ((0 : Nat) : Int) = 0 from rfl) (show ((0 : Nat) : Int) = 0 from rfl) (show ((0 : Nat) : Int) = 0 from rfl)) (congrArg i3 ((hZ48A.1)))) (by omega) (by omega)) (decide_eq_false (by omega))) ?_
                        refine wz_i0 (Eq.trans (i3T (Eq.trans (zm_rd (Z := Z48) (ν := ν) (k := 68) (show ((0 : Nat) : Int) = 0 from rfl) (show ((0 : Nat) : Int) = 0 from rfl) (show ((0 : Nat) : Int) = 0 from rfl)) (congrArg i3 ((hZ48A.1)))) (by omega) (by omega)) (decide_eq_false (by omega))) ?_
                        refine wz_i0 (Eq.trans (i3T (Eq.trans (zm_rd (Z := Z48) (ν := ν) (k := 68) (show ((0 : Nat) : Int) = 0 from rfl) (show ((0 : Nat) : Int) = 0 from rfl) (show ((0 : Nat) : Int) = 0 from rfl)) (congrArg i3 ((hZ48A.1)))) (by omega) (by omega)) (decide_eq_false (by omega))) ?_
                        refine wz_i0 (Eq.trans (i3T (Eq.trans (zm_rd (Z := Z48) (ν := ν) (k := 68) (show ((0 : Nat) : Int) = 0 from rfl) (show ((0 : Nat) : Int) = 0 from rfl) (show ((0 : Nat) : Int) = 0 from rfl)) (congrArg i3 ((hZ48A.1)))) (by omega) (by omega)) (decide_eq_false (by omega))) ?_
                        refine wz_i0 (Eq.trans (i3T (Eq.trans (zm_rd (Z := Z48) (ν := ν) (k := 68) (show ((0 : Nat) : Int) = 0 from rfl) (show ((0 : Nat) : Int) = 0 from rfl) (show ((0 : Nat) : Int) = 0 from rfl)) (congrArg i3 ((hZ48A.1)))) (by omega) (by omega)) (decide_eq_false (by omega))) ?_
                        refine wz_i0 (Eq.trans (i3T (Eq.trans (zm_rd (Z := Z48) (ν := ν) (k := 68) (show ((0 : Nat) : Int) = 0 from rfl) (show ((0 : Nat) : Int) = 0 from rfl) (show ((0 : Nat) : Int) = 0 from rfl)) (congrArg i3 ((hZ48A.1)))) (by omega) (by omega)) (decide_eq_false (by omega))) ?_
                        refine wz_i0 (Eq.trans (i3T (Eq.trans (zm_rd (Z := Z48) (ν := ν) (k := 68) (show ((0 : Nat) : Int) = 0 from rfl) (show ((0 : Nat) : Int) = 0 from rfl) (show ((0 : Nat) : Int) = 0 from rfl)) (congrArg i3 ((hZ48A.1)))) (by omega) (by omega)) (decide_eq_false (by omega))) ?_
                        refine wz_i0 (Eq.trans (i3T (Eq.trans (zm_rd (Z := Z48) (ν := ν) (k := 68) (show ((0 : Nat) : Int) = 0 from rfl) (show ((0 : Nat) : Int) = 0 from rfl) (show ((0 : Nat) : Int) = 0 from rfl)) (congrArg i3 ((hZ48A.1)))) (by omega) (by omega)) (decide_eq_false (by omega))) ?_
                        refine wz_i0 (Eq.trans (i3T (Eq.trans (zm_rd (Z := Z48) (ν := ν) (k := 68) (show ((0 : Nat) : Int) = 0 from rfl) (show ((0 : Nat) : Int) = 0 from rfl) (show ((0 : Nat) : Int) = 0 from rfl)) (congrArg i3 ((hZ48A.1)))) (by omega) (by omega)) (decide_eq_false (by omega))) ?_
                        refine wz_i0 (Eq.trans (i3T (Eq.trans (zm_rd (Z := Z48) (ν := ν) (k := 68) (show ((0 : Nat) : Int) = 0 from rfl) (show ((0 : Nat) : Int) = 0 from rfl) (show ((0 : Nat) : Int) = 0 from rfl)) (congrArg i3 ((hZ48A.1)))) (by omega) (by omega)) (decide_eq_false (by omega))) ?_
                        refine wz_i0 (Eq.trans (i3T (Eq.trans (zm_rd (Z := Z48) (ν := ν) (k := 68) (show ((0 : Nat) : Int) = 0 from rfl) (show ((0 : Nat) : Int) = 0 from rfl) (show ((0 : Nat) : Int) = 0 from rfl)) (congrArg i3 ((hZ48A.1)))) (by omega) (by omega)) (decide_eq_false (by omega))) ?_
                        refine wz_i0 (Eq.trans (i3T (Eq.trans (zm_rd (Z := Z48) (ν := ν) (k := 68) (show ((0 : Nat) : Int) = 0 from rfl) (show ((0 : Nat) : Int) = 0 from rfl) (show ((0 : Nat) : Int) = 0 from rfl)) (congrArg i3 ((hZ48A.1)))) (by omega) (by omega)) (decide_eq_false (by omega))) ?_
                        refine wz_i0 (Eq.trans (i3T (Eq.trans (zm_rd (Z := Z48) (ν := ν) (k := 68) (show ((0 : Nat) : Int) = 0 from rfl) (show ((0 : Nat) : Int) = 0 from rfl) (show ((0 : Nat) : Int) = 0 from rfl)) (congrArg i3 ((hZ48A.1)))) (by omega) (by omega)) (decide_eq_false (by omega))) ?_
                        refine wz_i0 (Eq.trans (i3T (Eq.trans (zm_rd (Z := Z48) (ν := ν) (k := 68) (show ((0 : Nat) : Int) = 0 from rfl) (show ((0 : Nat) : Int) = 0 from rfl) (show ((0 : Nat) : Int) = 0 from rfl)) (congrArg i3 ((hZ48A.1)))) (by omega) (by omega)) (decide_eq_false (by omega))) ?_
                        refine wz_i0 (Eq.trans (i3T (Eq.trans (zm_rd (Z := Z48) (ν := ν) (k := 68) (show ((0 : Nat) : Int) = 0 from rfl) (show ((0 : Nat) : Int) = 0 from rfl) (show ((0 : Nat) : Int) = 0 from rfl)) (congrArg i3 ((hZ48A.1)))) (by omega) (by omega)) (decide_eq_false (by omega))) ?_
                        refine wz_i0 (Eq.trans (i3T (Eq.trans (zm_rd (Z := Z48) (ν := ν) (k := 68) (show ((0 : Nat) : Int) = 0 from rfl) (show ((0 : Nat) : Int) = 0 from rfl) (show ((0 : Nat) : Int) = 0 from rfl)) (congrArg i3 ((hZ48A.1)))) (by omega) (by omega)) (decide_eq_false (by omega))) ?_
                        refine wz_i0 (Eq.trans (i3T (Eq.trans (zm_rd (Z := Z48) (ν := ν) (k := 68) (show ((0 : Nat) : Int) = 0 from rfl) (show ((0 : Nat) : Int) = 0 from rfl) (show ((0 : Nat) : Int) = 0 from rfl)) (congrArg i3 ((hZ48A.1)))) (by omega) (by omega)) (decide_eq_false (by omega))) ?_
                        refine wz_i0 (Eq.trans (i3T (Eq.trans (zm_rd (Z := Z48) (ν := ν) (k := 68) (show ((0 : Nat) : Int) = 0 from rfl) (show ((0 : Nat) : Int) = 0 from rfl) (show ((0 : Nat) : Int) = 0 from rfl)) (congrArg i3 ((hZ48A.1)))) (by omega) (by omega)) (decide_eq_false (by omega))) ?_
                        refine wz_i1 (Eq.trans (i3T (Eq.trans (zm_rd (Z := Z48) (ν := ν) (k := 68) (show ((0 : Nat) : Int) = 0 from rfl) (show ((0 : Nat) : Int) = 0 from rfl) (show ((0 : Nat) : Int) = 0 from rfl)) (congrArg i3 ((hZ48A.1)))) (by omega) (by omega)) (decide_eq_true (by omega))) ?_
                        refine wz_i1 rfl ?_
                        refine wz_i0 (i3O (n := 7) (show (1 : Int32) = i3 1 from rfl) (by omega) (by omega) (by omega)) ?_
                        refine wz_i1 rfl ?_
                        refine wz_i0 (i3O (n := 7) (show (2 : Int32) = i3 2 from rfl) (by omega) (by omega) (by omega)) ?_
                        obtain ⟨Z49, v50, hv50, c9, hZ49I, kZ49, jZ49, lv50, uv50⟩ := sp_50 (ν := ν) hZ48I 0 (a1 := a1) (by omega) (a2 := a2) (by omega) (zbh (c := 0) (k := 2) hM (Nat.le_of_ble_eq_true rfl))
                        have hZ49U : zU [0, 2, 3, 4, 5, 6, 7, 8, 9] Z Z49 := zU_t hZ48U jZ49 (zU_b1 (List.Mem.head _) zU_b0)
                        have hZ49K : zC [3, 12, 13, 14, 40, 41, 42, 43, 44, 45, 46, 47, 48, 49, 50, 51, 52, 53, 54, 61, 68, 1099, 1100, 1101, 1102, 1103, 1104, 1105, 1106, 1107, 1108, 1109, 1110, 1111, 1112, 1113, 1114, 1115, 1116] Z Z49 := zC_t hZ48K kZ49 (by decide)
                        replace hP := zl_e2 hP hv50
                        refine wz_cI_of (zas (zcons rfl (zcons (zvi (Eq.trans (zm_rd (Z := Z48) (ν := ν) (k := 68) (show ((0 : Nat) : Int) = 0 from rfl) (show ((0 : Nat) : Int) = 0 from rfl) (show ((1 : Nat) : Int) = 1 from rfl)) (congrArg i3 ((hZ48A.2.1))))) (zcons (zvi (Eq.trans (zm_rd (Z := Z48) (ν := ν) (k := 68) (show ((0 : Nat) : Int) = 0 from rfl) (show ((0 : Nat) : Int) = 0 from rfl) (show ((2 : Nat) : Int) = 2 from rfl)) (congrArg i3 ((hZ48A.2.2.1))))) rfl))) c9) ?_
                        clear c9 hv50
                        exact zlG hP (rfl : i3 v50 = i3 v50) ⟨hZ49I, hZ49K, hZ49U, zG_w zG_r (Nat.le_of_ble_eq_true rfl) (Nat.le_of_ble_eq_true rfl)⟩
              · replace hP := zE_n hP h32
                refine wz_i0 (i3O (n := 6) (zm_rd (Z := Z) (ν := ν) (k := 44) (show ((0 : Nat) : Int) = 0 from rfl) (i3I (y := (Z 47 0 a1 0)) (zm_rd (Z := Z) (ν := ν) (k := 47) (show ((0 : Nat) : Int) = 0 from rfl) (i3I (y := a1) (rfl : i3 a1 = i3 a1) (by omega) (by omega) (by omega)) (show ((0 : Nat) : Int) = 0 from rfl)) (by omega) (by omega) (by omega)) (show ((12 : Nat) : Int) = 12 from rfl)) (by omega) (by omega) (by omega)) ?_
                have r51 := zH_k hZ 43 0 (Z 44 0 (Z 47 0 a1 0) 12) 10 (lo := -1) (hi := 695) (by decide) rfl
                have r52 := zH_k hZ 11 0 0 13 (lo := 0) (hi := 671) (by decide) rfl
                refine wz_br (i3Le (zm_rd (Z := Z) (ν := ν) (k := 43) (show ((0 : Nat) : Int) = 0 from rfl) (i3I (y := (Z 44 0 (Z 47 0 a1 0) 12)) (zm_rd (Z := Z) (ν := ν) (k := 44) (show ((0 : Nat) : Int) = 0 from rfl) (i3I (y := (Z 47 0 a1 0)) (zm_rd (Z := Z) (ν := ν) (k := 47) (show ((0 : Nat) : Int) = 0 from rfl) (i3I (y := a1) (rfl : i3 a1 = i3 a1) (by omega) (by omega) (by omega)) (show ((0 : Nat) : Int) = 0 from rfl)) (by omega) (by omega) (by omega)) (show ((12 : Nat) : Int) = 12 from rfl)) (by omega) (by omega) (by omega)) (show ((10 : Nat) : Int) = 10 from rfl)) (zm_rd (Z := Z) (ν := ν) (k := 11) (show ((0 : Nat) : Int) = 0 from rfl) (show ((0 : Nat) : Int) = 0 from rfl) (show ((13 : Nat) : Int) = 13 from rfl)) (by omega) (by omega) (by omega) (by omega)) (fun h53 => ?_) (fun h53 => ?_)
                · replace hP := zE_p hP h53
                  have r54 := zH_k hZ 50 0 a2 2 (lo := 0) (hi := 1) (by decide) rfl
                  refine wz_br (i3NE (zm_rd (Z := Z) (ν := ν) (k := 50) (show ((0 : Nat) : Int) = 0 from rfl) (i3I (y := a2) (rfl : i3 a2 = i3 a2) (by omega) (by omega) (by omega)) (show ((2 : Nat) : Int) = 2 from rfl)) (show (0 : Int32) = i3 0 from rfl) (by omega) (by omega) (by omega) (by omega)) (fun h55 => ?_) (fun h55 => ?_)
                  · replace hP := zE_p hP h55
                    refine wz_i1 (Eq.trans (i3NE (show (3 : Int32) = i3 3 from rfl) (show (1 : Int32) = i3 1 from rfl) (by omega) (by omega) (by omega) (by omega)) (decide_eq_true (by omega))) ?_
                    refine wz_i1 (Eq.trans (i3NE (show (3 : Int32) = i3 3 from rfl) (show (2 : Int32) = i3 2 from rfl) (by omega) (by omega) (by omega) (by omega)) (decide_eq_true (by omega))) ?_
                    refine wz_i0 (Eq.trans (i3NE (show (3 : Int32) = i3 3 from rfl) (show (3 : Int32) = i3 3 from rfl) (by omega) (by omega) (by omega) (by omega)) (decide_eq_false (by omega))) ?_
                    exact zlGe (E := 14) hP ⟨(zbw (a := 0) (c := 2) hZ (Nat.le_of_ble_eq_true rfl)), zC_r, zU_r, zG_w (zG_k rfl) (Nat.le_of_ble_eq_true rfl) (Nat.le_of_ble_eq_true rfl)⟩
                  · replace hP := zE_n hP h55
                    obtain ⟨v56, hv56, c9, lv56, uv56⟩ := sp_43 (ν := ν) hZ 0 (a1 := a2) (by omega) (zbh (c := 0) (k := 0) hM (Nat.le_of_ble_eq_true rfl))
                    replace hP := zl_e hP hv56
                    refine wz_cI_of (zas (zcons rfl (zcons (zvi (rfl : i3 a2 = i3 a2)) rfl)) c9) ?_
                    clear c9
                    have r57 := zH_k hZ 50 0 a2 0 (lo := 0) (hi := 99) (by decide) rfl
                    have r58 := zH_k hZ 47 0 a1 3 (lo := 0) (hi := 40) (by decide) rfl
                    have r59 := w3_r (v56 + (Z 47 0 a1 3))
                    refine wz_br (i3L (zm_rd (Z := Z) (ν := ν) (k := 50) (show ((0 : Nat) : Int) = 0 from rfl) (i3I (y := a2) (rfl : i3 a2 = i3 a2) (by omega) (by omega) (by omega)) (show ((0 : Nat) : Int) = 0 from rfl)) (i3W (i3A (rfl : i3 v56 = i3 v56) (zm_rd (Z := Z) (ν := ν) (k := 47) (show ((0 : Nat) : Int) = 0 from rfl) (i3I (y := a1) (rfl : i3 a1 = i3 a1) (by omega) (by omega) (by omega)) (show ((3 : Nat) : Int) = 3 from rfl)))) (by omega) (by omega) (by omega) (by omega)) (fun h60 => ?_) (fun h60 => ?_)
                    · replace hP := zE_p hP h60
                      refine wz_i1 (Eq.trans (i3NE (show (3 : Int32) = i3 3 from rfl) (show (1 : Int32) = i3 1 from rfl) (by omega) (by omega) (by omega) (by omega)) (decide_eq_true (by omega))) ?_
                      refine wz_i1 (Eq.trans (i3NE (show (3 : Int32) = i3 3 from rfl) (show (2 : Int32) = i3 2 from rfl) (by omega) (by omega) (by omega) (by omega)) (decide_eq_true (by omega))) ?_
                      refine wz_i0 (Eq.trans (i3NE (show (3 : Int32) = i3 3 from rfl) (show (3 : Int32) = i3 3 from rfl) (by omega) (by omega) (by omega) (by omega)) (decide_eq_false (by omega))) ?_
                      exact zlGe (E := 14) hP ⟨(zbw (a := 0) (c := 2) hZ (Nat.le_of_ble_eq_true rfl)), zC_r, zU_r, zG_w (zG_k rfl) (Nat.le_of_ble_eq_true rfl) (Nat.le_of_ble_eq_true rfl)⟩
                    · replace hP := zE_n hP h60
                      obtain ⟨v61, hv61, c9, lv61, uv61⟩ := sp_53 (ν := ν) hZ 0 (a1 := a2) (by omega) (zbh (c := 0) (k := 0) hM (Nat.le_of_ble_eq_true rfl))
                      replace hP := zl_e hP hv61
                      refine wz_cI_of (zas (zcons rfl (zcons (zvi (rfl : i3 a2 = i3 a2)) rfl)) c9) ?_
                      clear c9
                      refine wz_br (i3L (show (0 : Int32) = i3 0 from rfl) (rfl : i3 v61 = i3 v61) (by omega) (by omega) (by omega) (by omega)) (fun h62 => ?_) (fun h62 => ?_)
                      · replace hP := zE_p hP h62
                        refine wz_i1 (Eq.trans (i3NE (show (0 : Int32) = i3 0 from rfl) (show (1 : Int32) = i3 1 from rfl) (by omega) (by omega) (by omega) (by omega)) (decide_eq_true (by omega))) ?_
                        refine wz_i1 (Eq.trans (i3NE (show (0 : Int32) = i3 0 from rfl) (show (2 : Int32) = i3 2 from rfl) (by omega) (by omega) (by omega) (by omega)) (decide_eq_true (by omega))) ?_
                        refine wz_i1 (Eq.trans (i3NE (show (0 : Int32) = i3 0 from rfl) (show (3 : Int32) = i3 3 from rfl) (by omega) (by omega) (by omega) (by omega)) (decide_eq_true (by omega))) ?_
                        refine dc_J (zcons rfl (zcons (zvi (show (20 : Int32) = i3 20 from rfl)) (zcons (zvi (rfl : i3 a1 = i3 a1)) (zcons (zvi (rfl : i3 a2 = i3 a2)) (zcons (zvi (show (0 : Int32) = i3 0 from rfl)) (zcons (zvi (show (0 : Int32) = i3 0 from rfl)) (zcons (zvi (show (0 : Int32) = i3 0 from rfl)) (zcons (zvi (show (0 : Int32) = i3 0 from rfl)) rfl)))))))) (dg (hZ).1 (by omega) (by omega) (by omega) (by omega) (by omega) (by omega) (by omega) ?_)
                        have hZ63I := zH_dd hZ (a1 := 20) (a2 := a1) (a3 := a2) (a4 := 0) (a5 := 0) (a6 := 0) (a7 := 0) (by omega) (by omega) (by omega) (by omega) (by omega) (by omega) (by omega)
                        have kZ63 : zC [3, 12, 13, 14, 40, 41, 42, 43, 44, 45, 46, 47, 48, 49, 50, 51, 52, 53, 54, 61, 68, 1099, 1100, 1101, 1102, 1103, 1104, 1105, 1106, 1107, 1108, 1109, 1110, 1111, 1112, 1113, 1114, 1115, 1116] Z (zdd Z 20 a1 a2 0 0 0 0) := zC_k zdd_K (by decide) (by decide)
                        have hZ63A : (zdd Z 20 a1 a2 0 0 0 0) 68 0 0 0 = 20 ∧ (zdd Z 20 a1 a2 0 0 0 0) 68 0 0 1 = a1 ∧ (zdd Z 20 a1 a2 0 0 0 0) 68 0 0 2 = a2 ∧ (zdd Z 20 a1 a2 0 0 0 0) 68 0 0 3 = 0 ∧ (zdd Z 20 a1 a2 0 0 0 0) 68 0 0 4 = 0 ∧ (zdd Z 20 a1 a2 0 0 0 0) 68 0 0 5 = 0 ∧ (zdd Z 20 a1 a2 0 0 0 0) 68 0 0 6 = 0 := ⟨zdd_68, zdd_68, zdd_68, zdd_68, zdd_68, zdd_68, zdd_68⟩
                        obtain ⟨Z63, hZ63⟩ := zx (zdd Z 20 a1 a2 0 0 0 0)
                        have dZ63 : ∀ {k : Nat} {i j : Int}, zhall k = true → ¬ (k = 11 ∧ (j = 15 ∨ j = 16)) → Z63 k 0 i j = Z k 0 i j := fun hk hj => by rw [hZ63]; exact zdd_h (hZ).1 hk hj
                        have jZ63 : zU [0, 2, 3, 4, 5, 6, 7, 8, 9] Z (zdd Z 20 a1 a2 0 0 0 0) := zU_dd (hZ).1
                        rw [← hZ63] at hZ63I kZ63 jZ63 hZ63A ⊢
                        have hZ63U : zU [0, 2, 3, 4, 5, 6, 7, 8, 9] Z Z63 := zU_t zU_r jZ63 (zU_b1 (List.Mem.head _) (zU_b1 (List.Mem.tail _ (List.Mem.head _)) (zU_b1 (List.Mem.tail _ (List.Mem.tail _ (List.Mem.head _))) (zU_b1 (List.Mem.tail _ (List.Mem.tail _ (List.Mem.tail _ (List.Mem.head _)))) (zU_b1 (List.Mem.tail _ (List.Mem.tail _ (List.Mem.tail _ (List.Mem.tail _ (List.Mem.head _))))) (zU_b1 (List.Mem.tail _ (List.Mem.tail _ (List.Mem.tail _ (List.Mem.tail _ (List.Mem.tail _ (List.Mem.head _)))))) (zU_b1 (List.Mem.tail _ (List.Mem.tail _ (List.Mem.tail _ (List.Mem.tail _ (List.Mem.tail _ (List.Mem.tail _ (List.Mem.head _))))))) (zU_b1 (List.Mem.tail _ (List.Mem.tail _ (List.Mem.tail _ (List.Mem.tail _ (List.Mem.tail _ (List.Mem.tail _ (List.Mem.tail _ (List.Mem.head _)))))))) (zU_b1 (List.Mem.tail _ (List.Mem.tail _ (List.Mem.tail _ (List.Mem.tail _ (List.Mem.tail _ (List.Mem.tail _ (List.Mem.tail _ (List.Mem.tail _ (List.Mem.head _))))))))) zU_b0)))))))))
                        replace hP := zl_e hP hZ63
                        have hZ63K : zC [3, 12, 13, 14, 40, 41, 42, 43, 44, 45, 46, 47, 48, 49, 50, 51, 52, 53, 54, 61, 68, 1099, 1100, 1101, 1102, 1103, 1104, 1105, 1106, 1107, 1108, 1109, 1110, 1111, 1112, 1113, 1114, 1115, 1116] Z Z63 := zC_t zC_r kZ63 (by decide)
                        clear kZ63 hZ63
                        refine fw_121 _ _ _ _ ?_
                        refine wz_i1 rfl ?_
                        refine wz_i0 (i3O (n := 7) (show (0 : Int32) = i3 0 from rfl) (by omega) (by omega) (by omega)) ?_
                        refine wz_i0 (Eq.trans (i3To (Eq.trans (zm_rd (Z := Z63) (ν := ν) (k := 68) (show ((0 : Nat) : Int) = 0 from rfl) (show ((0 : Nat) : Int) = 0 from rfl) (show ((0 : Nat) : Int) = 0 from rfl)) (congrArg i3 ((hZ63A.1)))) (by omega) (by omega)) (decide_eq_false (by omega))) ?_
                        refine wz_i0 (Eq.trans (i3T (Eq.trans (zm_rd (Z := Z63) (ν := ν) (k := 68) (show ((0 : Nat) : Int) = 0 from rfl) (show ((0 : Nat) : Int) = 0 from rfl) (show ((0 : Nat) : Int) = 0 from rfl)) (congrArg i3 ((hZ63A.1)))) (by omega) (by omega)) (decide_eq_false (by omega))) ?_
                        refine wz_i0 (Eq.trans (i3T (Eq.trans (zm_rd (Z := Z63) (ν := ν) (k := 68) (show ((0 : Nat) : Int) = 0 from rfl) (show ((0 : Nat) : Int) = 0 from rfl) (show ((0 : Nat) : Int) = 0 from rfl)) (congrArg i3 ((hZ63A.1)))) (by omega) (by omega)) (decide_eq_false (by omega))) ?_
                        refine wz_i0 (Eq.trans (i3T (Eq.trans (zm_rd (Z := Z63) (ν := ν) (k := 68) (show ((0 : Nat) : Int) = 0 from rfl) (show ((0 : Nat) : Int) = 0 from rfl) (show ((0 : Nat) : Int) = 0 from rfl)) (congrArg i3 ((hZ63A.1)))) (by omega) (by omega)) (decide_eq_false (by omega))) ?_
                        refine wz_i0 (Eq.trans (i3T (Eq.trans (zm_rd (Z := Z63) (ν := ν) (k := 68) (show ((0 : Nat) : Int) = 0 from rfl) (show ((0 : Nat) : Int) = 0 from rfl) (show ((0 : Nat) : Int) = 0 from rfl)) (congrArg i3 ((hZ63A.1)))) (by omega) (by omega)) (decide_eq_false (by omega))) ?_
                        refine wz_i0 (Eq.trans (i3T (Eq.trans (zm_rd (Z := Z63) (ν := ν) (k := 68) (show ((0 : Nat) : Int) = 0 from rfl) (show ((0 : Nat) : Int) = 0 from rfl) (show ((0 : Nat) : Int) = 0 from rfl)) (congrArg i3 ((hZ63A.1)))) (by omega) (by omega)) (decide_eq_false (by omega))) ?_
                        refine wz_i0 (Eq.trans (i3T (Eq.trans (zm_rd (Z := Z63) (ν := ν) (k := 68) (show ((0 : Nat) : Int) = 0 from rfl) (show ((0 : Nat) : Int) = 0 from rfl) (show ((0 : Nat) : Int) = 0 from rfl)) (congrArg i3 ((hZ63A.1)))) (by omega) (by omega)) (decide_eq_false (by omega))) ?_
                        refine wz_i0 (Eq.trans (i3T (Eq.trans (zm_rd (Z := Z63) (ν := ν) (k := 68) (show ((0 : Nat) : Int) = 0 from rfl) (show ((0 : Nat) : Int) = 0 from rfl) (show ((0 : Nat) : Int) = 0 from rfl)) (congrArg i3 ((hZ63A.1)))) (by omega) (by omega)) (decide_eq_false (by omega))) ?_
                        refine wz_i0 (Eq.trans (i3T (Eq.trans (zm_rd (Z := Z63) (ν := ν) (k := 68) (show ((0 : Nat) : Int) = 0 from rfl) (show ((0 : Nat) : Int) = 0 from rfl) (show ((0 : Nat) : Int) = 0 from rfl)) (congrArg i3 ((hZ63A.1)))) (by omega) (by omega)) (decide_eq_false (by omega))) ?_
                        refine wz_i0 (Eq.trans (i3T (Eq.trans (zm_rd (Z := Z63) (ν := ν) (k := 68) (show ((0 : Nat) : Int) = 0 from rfl) (show ((0 : Nat) : Int) = 0 from rfl) (show ((0 : Nat) : Int) = 0 from rfl)) (congrArg i3 ((hZ63A.1)))) (by omega) (by omega)) (decide_eq_false (by omega))) ?_
                        refine wz_i0 (Eq.trans (i3T (Eq.trans (zm_rd (Z := Z63) (ν := ν) (k := 68) (show ((0 : Nat) : Int) = 0 from rfl) (show ((0 : Nat) : Int) = 0 from rfl) (show ((0 : Nat) : Int) = 0 from rfl)) (congrArg i3 ((hZ63A.1)))) (by omega) (by omega)) (decide_eq_false (by omega))) ?_
                        refine wz_i0 (Eq.trans (i3T (Eq.trans (zm_rd (Z := Z63) (ν := ν) (k := 68) (show ((0 : Nat) : Int) = 0 from rfl) (show ((0 : Nat) : Int) = 0 from rfl) (show ((0 : Nat) : Int) = 0 from rfl)) (congrArg i3 ((hZ63A.1)))) (by omega) (by omega)) (decide_eq_false (by omega))) ?_
                        refine wz_i0 (Eq.trans (i3T (Eq.trans (zm_rd (Z := Z63) (ν := ν) (k := 68) (show ((0 : Nat) : Int) = 0 from rfl) (show ((0 : Nat) : Int) = 0 from rfl) (show ((0 : Nat) : Int) = 0 from rfl)) (congrArg i3 ((hZ63A.1)))) (by omega) (by omega)) (decide_eq_false (by omega))) ?_
                        refine wz_i0 (Eq.trans (i3T (Eq.trans (zm_rd (Z := Z63) (ν := ν) (k := 68) (show ((0 : Nat) : Int) = 0 from rfl) (show ((0 : Nat) : Int) = 0 from rfl) (show ((0 : Nat) : Int) = 0 from rfl)) (congrArg i3 ((hZ63A.1)))) (by omega) (by omega)) (decide_eq_false (by omega))) ?_
                        refine wz_i0 (Eq.trans (i3T (Eq.trans (zm_rd (Z := Z63) (ν := ν) (k := 68) (show ((0 : Nat) : Int) = 0 from rfl) (show ((0 : Nat) : Int) = 0 from rfl) (show ((0 : Nat) : Int) = 0 from rfl)) (congrArg i3 ((hZ63A.1)))) (by omega) (by omega)) (decide_eq_false (by omega))) ?_
                        refine wz_i0 (Eq.trans (i3T (Eq.trans (zm_rd (Z := Z63) (ν := ν) (k := 68) (show ((0 : Nat) : Int) = 0 from rfl) (show ((0 : Nat) : Int) = 0 from rfl) (show ((0 : Nat) : Int) = 0 from rfl)) (congrArg i3 ((hZ63A.1)))) (by omega) (by omega)) (decide_eq_false (by omega))) ?_
                        refine wz_i0 (Eq.trans (i3T (Eq.trans (zm_rd (Z := Z63) (ν := ν) (k := 68) (show ((0 : Nat) : Int) = 0 from rfl) (show ((0 : Nat) : Int) = 0 from rfl) (show ((0 : Nat) : Int) = 0 from rfl)) (congrArg i3 ((hZ63A.1)))) (by omega) (by omega)) (decide_eq_false (by omega))) ?_
                        refine wz_i0 (Eq.trans (i3T (Eq.trans (zm_rd (Z := Z63) (ν := ν) (k := 68) (show ((0 : Nat) : Int) = 0 from rfl) (show ((0 : Nat) : Int) = 0 from rfl) (show ((0 : Nat) : Int) = 0 from rfl)) (congrArg i3 ((hZ63A.1)))) (by omega) (by omega)) (decide_eq_false (by omega))) ?_
                        refine wz_i0 (Eq.trans (i3T (Eq.trans (zm_rd (Z := Z63) (ν := ν) (k := 68) (show ((0 : Nat) : Int) = 0 from rfl) (show ((0 : Nat) : Int) = 0 from rfl) (show ((0 : Nat) : Int) = 0 from rfl)) (congrArg i3 ((hZ63A.1)))) (by omega) (by omega)) (decide_eq_false (by omega))) ?_
                        refine wz_i0 (Eq.trans (i3T (Eq.trans (zm_rd (Z := Z63) (ν := ν) (k := 68) (show ((0 : Nat) : Int) = 0 from rfl) (show ((0 : Nat) : Int) = 0 from rfl) (show ((0 : Nat) : Int) = 0 from rfl)) (congrArg i3 ((hZ63A.1)))) (by omega) (by omega)) (decide_eq_false (by omega))) ?_
                        refine wz_i0 (Eq.trans (i3T (Eq.trans (zm_rd (Z := Z63) (ν := ν) (k := 68) (show ((0 : Nat) : Int) = 0 from rfl) (show ((0 : Nat) : Int) = 0 from rfl) (show ((0 : Nat) : Int) = 0 from rfl)) (congrArg i3 ((hZ63A.1)))) (by omega) (by omega)) (decide_eq_false (by omega))) ?_
                        refine wz_i1 (Eq.trans (i3T (Eq.trans (zm_rd (Z := Z63) (ν := ν) (k := 68) (show ((0 : Nat) : Int) = 0 from rfl) (show ((0 : Nat) : Int) = 0 from rfl) (show ((0 : Nat) : Int) = 0 from rfl)) (congrArg i3 ((hZ63A.1)))) (by omega) (by omega)) (decide_eq_true (by omega))) ?_
                        refine wz_i1 rfl ?_
                        refine wz_i0 (i3O (n := 7) (show (1 : Int32) = i3 1 from rfl) (by omega) (by omega) (by omega)) ?_
                        refine wz_i1 rfl ?_
                        refine wz_i0 (i3O (n := 7) (show (2 : Int32) = i3 2 from rfl) (by omega) (by omega) (by omega)) ?_
                        obtain ⟨Z64, v65, hv65, c9, hZ64I, kZ64, jZ64, lv65, uv65⟩ := sp_50 (ν := ν) hZ63I 0 (a1 := a1) (by omega) (a2 := a2) (by omega) (zbh (c := 0) (k := 2) hM (Nat.le_of_ble_eq_true rfl))
                        have hZ64U : zU [0, 2, 3, 4, 5, 6, 7, 8, 9] Z Z64 := zU_t hZ63U jZ64 (zU_b1 (List.Mem.head _) zU_b0)
                        have hZ64K : zC [3, 12, 13, 14, 40, 41, 42, 43, 44, 45, 46, 47, 48, 49, 50, 51, 52, 53, 54, 61, 68, 1099, 1100, 1101, 1102, 1103, 1104, 1105, 1106, 1107, 1108, 1109, 1110, 1111, 1112, 1113, 1114, 1115, 1116] Z Z64 := zC_t hZ63K kZ64 (by decide)
                        replace hP := zl_e2 hP hv65
                        refine wz_cI_of (zas (zcons rfl (zcons (zvi (Eq.trans (zm_rd (Z := Z63) (ν := ν) (k := 68) (show ((0 : Nat) : Int) = 0 from rfl) (show ((0 : Nat) : Int) = 0 from rfl) (show ((1 : Nat) : Int) = 1 from rfl)) (congrArg i3 ((hZ63A.2.1))))) (zcons (zvi (Eq.trans (zm_rd (Z := Z63) (ν := ν) (k := 68) (show ((0 : Nat) : Int) = 0 from rfl) (show ((0 : Nat) : Int) = 0 from rfl) (show ((2 : Nat) : Int) = 2 from rfl)) (congrArg i3 ((hZ63A.2.2.1))))) rfl))) c9) ?_
                        clear c9 hv65
                        exact zlG hP (rfl : i3 v65 = i3 v65) ⟨hZ64I, hZ64K, hZ64U, zG_w zG_r (Nat.le_of_ble_eq_true rfl) (Nat.le_of_ble_eq_true rfl)⟩
                      · replace hP := zE_n hP h62
                        obtain ⟨v66, hv66, c9, lv66, uv66⟩ := sp_40 (ν := ν) hZ 0 (zbh (c := 0) (k := 0) hM (Nat.le_of_ble_eq_true rfl))
                        replace hP := zl_e hP hv66
                        refine wz_cI_of (zas (zcons rfl rfl) c9) ?_
                        clear c9
                        have r67 := zH_k hZ 11 0 0 14 (lo := 0) (hi := 4) (by decide) rfl
                        refine wz_br (i3Le (zm_rd (Z := Z) (ν := ν) (k := 11) (show ((0 : Nat) : Int) = 0 from rfl) (show ((0 : Nat) : Int) = 0 from rfl) (show ((14 : Nat) : Int) = 14 from rfl)) (rfl : i3 v66 = i3 v66) (by omega) (by omega) (by omega) (by omega)) (fun h68 => ?_) (fun h68 => ?_)
                        · replace hP := zE_p hP h68
                          refine wz_i1 (Eq.trans (i3NE (show (3 : Int32) = i3 3 from rfl) (show (1 : Int32) = i3 1 from rfl) (by omega) (by omega) (by omega) (by omega)) (decide_eq_true (by omega))) ?_
                          refine wz_i1 (Eq.trans (i3NE (show (3 : Int32) = i3 3 from rfl) (show (2 : Int32) = i3 2 from rfl) (by omega) (by omega) (by omega) (by omega)) (decide_eq_true (by omega))) ?_
                          refine wz_i0 (Eq.trans (i3NE (show (3 : Int32) = i3 3 from rfl) (show (3 : Int32) = i3 3 from rfl) (by omega) (by omega) (by omega) (by omega)) (decide_eq_false (by omega))) ?_
                          exact zlGe (E := 14) hP ⟨(zbw (a := 0) (c := 2) hZ (Nat.le_of_ble_eq_true rfl)), zC_r, zU_r, zG_w (zG_k rfl) (Nat.le_of_ble_eq_true rfl) (Nat.le_of_ble_eq_true rfl)⟩
                        · replace hP := zE_n hP h68
                          refine wz_i1 (Eq.trans (i3NE (show (0 : Int32) = i3 0 from rfl) (show (1 : Int32) = i3 1 from rfl) (by omega) (by omega) (by omega) (by omega)) (decide_eq_true (by omega))) ?_
                          refine wz_i1 (Eq.trans (i3NE (show (0 : Int32) = i3 0 from rfl) (show (2 : Int32) = i3 2 from rfl) (by omega) (by omega) (by omega) (by omega)) (decide_eq_true (by omega))) ?_
                          refine wz_i1 (Eq.trans (i3NE (show (0 : Int32) = i3 0 from rfl) (show (3 : Int32) = i3 3 from rfl) (by omega) (by omega) (by omega) (by omega)) (decide_eq_true (by omega))) ?_
                          refine dc_J (zcons rfl (zcons (zvi (show (20 : Int32) = i3 20 from rfl)) (zcons (zvi (rfl : i3 a1 = i3 a1)) (zcons (zvi (rfl : i3 a2 = i3 a2)) (zcons (zvi (show (0 : Int32) = i3 0 from rfl)) (zcons (zvi (show (0 : Int32) = i3 0 from rfl)) (zcons (zvi (show (0 : Int32) = i3 0 from rfl)) (zcons (zvi (show (0 : Int32) = i3 0 from rfl)) rfl)))))))) (dg (hZ).1 (by omega) (by omega) (by omega) (by omega) (by omega) (by omega) (by omega) ?_)
                          have hZ69I := zH_dd hZ (a1 := 20) (a2 := a1) (a3 := a2) (a4 := 0) (a5 := 0) (a6 := 0) (a7 := 0) (by omega) (by omega) (by omega) (by omega) (by omega) (by omega) (by omega)
                          have kZ69 : zC [3, 12, 13, 14, 40, 41, 42, 43, 44, 45, 46, 47, 48, 49, 50, 51, 52, 53, 54, 61, 68, 1099, 1100, 1101, 1102, 1103, 1104, 1105, 1106, 1107, 1108, 1109, 1110, 1111, 1112, 1113, 1114, 1115, 1116] Z (zdd Z 20 a1 a2 0 0 0 0) := zC_k zdd_K (by decide) (by decide)
                          have hZ69A : (zdd Z 20 a1 a2 0 0 0 0) 68 0 0 0 = 20 ∧ (zdd Z 20 a1 a2 0 0 0 0) 68 0 0 1 = a1 ∧ (zdd Z 20 a1 a2 0 0 0 0) 68 0 0 2 = a2 ∧ (zdd Z 20 a1 a2 0 0 0 0) 68 0 0 3 = 0 ∧ (zdd Z 20 a1 a2 0 0 0 0) 68 0 0 4 = 0 ∧ (zdd Z 20 a1 a2 0 0 0 0) 68 0 0 5 = 0 ∧ (zdd Z 20 a1 a2 0 0 0 0) 68 0 0 6 = 0 := ⟨zdd_68, zdd_68, zdd_68, zdd_68, zdd_68, zdd_68, zdd_68⟩
                          obtain ⟨Z69, hZ69⟩ := zx (zdd Z 20 a1 a2 0 0 0 0)
                          have dZ69 : ∀ {k : Nat} {i j : Int}, zhall k = true → ¬ (k = 11 ∧ (j = 15 ∨ j = 16)) → Z69 k 0 i j = Z k 0 i j := fun hk hj => by rw [hZ69]; exact zdd_h (hZ).1 hk hj
                          have jZ69 : zU [0, 2, 3, 4, 5, 6, 7, 8, 9] Z (zdd Z 20 a1 a2 0 0 0 0) := zU_dd (hZ).1
                          rw [← hZ69] at hZ69I kZ69 jZ69 hZ69A ⊢
                          have hZ69U : zU [0, 2, 3, 4, 5, 6, 7, 8, 9] Z Z69 := zU_t zU_r jZ69 (zU_b1 (List.Mem.head _) (zU_b1 (List.Mem.tail _ (List.Mem.head _)) (zU_b1 (List.Mem.tail _ (List.Mem.tail _ (List.Mem.head _))) (zU_b1 (List.Mem.tail _ (List.Mem.tail _ (List.Mem.tail _ (List.Mem.head _)))) (zU_b1 (List.Mem.tail _ (List.Mem.tail _ (List.Mem.tail _ (List.Mem.tail _ (List.Mem.head _))))) (zU_b1 (List.Mem.tail _ (List.Mem.tail _ (List.Mem.tail _ (List.Mem.tail _ (List.Mem.tail _ (List.Mem.head _)))))) (zU_b1 (List.Mem.tail _ (List.Mem.tail _ (List.Mem.tail _ (List.Mem.tail _ (List.Mem.tail _ (List.Mem.tail _ (List.Mem.head _))))))) (zU_b1 (List.Mem.tail _ (List.Mem.tail _ (List.Mem.tail _ (List.Mem.tail _ (List.Mem.tail _ (List.Mem.tail _ (List.Mem.tail _ (List.Mem.head _)))))))) (zU_b1 (List.Mem.tail _ (List.Mem.tail _ (List.Mem.tail _ (List.Mem.tail _ (List.Mem.tail _ (List.Mem.tail _ (List.Mem.tail _ (List.Mem.tail _ (List.Mem.head _))))))))) zU_b0)))))))))
                          replace hP := zl_e hP hZ69
                          have hZ69K : zC [3, 12, 13, 14, 40, 41, 42, 43, 44, 45, 46, 47, 48, 49, 50, 51, 52, 53, 54, 61, 68, 1099, 1100, 1101, 1102, 1103, 1104, 1105, 1106, 1107, 1108, 1109, 1110, 1111, 1112, 1113, 1114, 1115, 1116] Z Z69 := zC_t zC_r kZ69 (by decide)
                          clear kZ69 hZ69
                          refine fw_121 _ _ _ _ ?_
                          refine wz_i1 rfl ?_
                          refine wz_i0 (i3O (n := 7) (show (0 : Int32) = i3 0 from rfl) (by omega) (by omega) (by omega)) ?_
                          refine wz_i0 (Eq.trans (i3To (Eq.trans (zm_rd (Z := Z69) (ν := ν) (k := 68) (show ((0 : Nat) : Int) = 0 from rfl) (show ((0 : Nat) : Int) = 0 from rfl) (show ((0 : Nat) : Int) = 0 from rfl)) (congrArg i3 ((hZ69A.1)))) (by omega) (by omega)) (decide_eq_false (by omega))) ?_
                          refine wz_i0 (Eq.trans (i3T (Eq.trans (zm_rd (Z := Z69) (ν := ν) (k := 68) (show ((0 : Nat) : Int) = 0 from rfl) (show ((0 : Nat) : Int) = 0 from rfl) (show ((0 : Nat) : Int) = 0 from rfl)) (congrArg i3 ((hZ69A.1)))) (by omega) (by omega)) (decide_eq_false (by omega))) ?_
                          refine wz_i0 (Eq.trans (i3T (Eq.trans (zm_rd (Z := Z69) (ν := ν) (k := 68) (show ((0 : Nat) : Int) = 0 from rfl) (show ((0 : Nat) : Int) = 0 from rfl) (show ((0 : Nat) : Int) = 0 from rfl)) (congrArg i3 ((hZ69A.1)))) (by omega) (by omega)) (decide_eq_false (by omega))) ?_
                          refine wz_i0 (Eq.trans (i3T (Eq.trans (zm_rd (Z := Z69) (ν := ν) (k := 68) (show ((0 : Nat) : Int) = 0 from rfl) (show ((0 : Nat) : Int) = 0 from rfl) (show ((0 : Nat) : Int) = 0 from rfl)) (congrArg i3 ((hZ69A.1)))) (by omega) (by omega)) (decide_eq_false (by omega))) ?_
                          refine wz_i0 (Eq.trans (i3T (Eq.trans (zm_rd (Z := Z69) (ν := ν) (k := 68) (show ((0 : Nat) : Int) = 0 from rfl) (show ((0 : Nat) : Int) = 0 from rfl) (show ((0 : Nat) : Int) = 0 from rfl)) (congrArg i3 ((hZ69A.1)))) (by omega) (by omega)) (decide_eq_false (by omega))) ?_
                          refine wz_i0 (Eq.trans (i3T (Eq.trans (zm_rd (Z := Z69) (ν := ν) (k := 68) (show ((0 : Nat) : Int) = 0 from rfl) (show ((0 : Nat) : Int) = 0 from rfl) (show ((0 : Nat) : Int) = 0 from rfl)) (congrArg i3 ((hZ69A.1)))) (by omega) (by omega)) (decide_eq_false (by omega))) ?_
                          refine wz_i0 (Eq.trans (i3T (Eq.trans (zm_rd (Z := Z69) (ν := ν) (k := 68) (show ((0 : Nat) : Int) = 0 from rfl) (show ((0 : Nat) : Int) = 0 from rfl) (show ((0 : Nat) : Int) = 0 from rfl)) (congrArg i3 ((hZ69A.1)))) (by omega) (by omega)) (decide_eq_false (by omega))) ?_
                          refine wz_i0 (Eq.trans (i3T (Eq.trans (zm_rd (Z := Z69) (ν := ν) (k := 68) (show ((0 : Nat) : Int) = 0 from rfl) (show ((0 : Nat) : Int) = 0 from rfl) (show ((0 : Nat) : Int) = 0 from rfl)) (congrArg i3 ((hZ69A.1)))) (by omega) (by omega)) (decide_eq_false (by omega))) ?_
                          refine wz_i0 (Eq.trans (i3T (Eq.trans (zm_rd (Z := Z69) (ν := ν) (k := 68) (show ((0 : Nat) : Int) = 0 from rfl) (show ((0 : Nat) : Int) = 0 from rfl) (show ((0 : Nat) : Int) = 0 from rfl)) (congrArg i3 ((hZ69A.1)))) (by omega) (by omega)) (decide_eq_false (by omega))) ?_
                          refine wz_i0 (Eq.trans (i3T (Eq.trans (zm_rd (Z := Z69) (ν := ν) (k := 68) (show ((0 : Nat) : Int) = 0 from rfl) (show ((0 : Nat) : Int) = 0 from rfl) (show ((0 : Nat) : Int) = 0 from rfl)) (congrArg i3 ((hZ69A.1)))) (by omega) (by omega)) (decide_eq_false (by omega))) ?_
                          refine wz_i0 (Eq.trans (i3T (Eq.trans (zm_rd (Z := Z69) (ν := ν) (k := 68) (show ((0 : Nat) : Int) = 0 from rfl) (show ((0 : Nat) : Int) = 0 from rfl) (show ((0 : Nat) : Int) = 0 from rfl)) (congrArg i3 ((hZ69A.1)))) (by omega) (by omega)) (decide_eq_false (by omega))) ?_
                          refine wz_i0 (Eq.trans (i3T (Eq.trans (zm_rd (Z := Z69) (ν := ν) (k := 68) (show ((0 : Nat) : Int) = 0 from rfl) (show ((0 : Nat) : Int) = 0 from rfl) (show ((0 : Nat) : Int) = 0 from rfl)) (congrArg i3 ((hZ69A.1)))) (by omega) (by omega)) (decide_eq_false (by omega))) ?_
                          refine wz_i0 (Eq.trans (i3T (Eq.trans (zm_rd (Z := Z69) (ν := ν) (k := 68) (show ((0 : Nat) : Int) = 0 from rfl) (show ((0 : Nat) : Int) = 0 from rfl) (show ((0 : Nat) : Int) = 0 from rfl)) (congrArg i3 ((hZ69A.1)))) (by omega) (by omega)) (decide_eq_false (by omega))) ?_
                          refine wz_i0 (Eq.trans (i3T (Eq.trans (zm_rd (Z := Z69) (ν := ν) (k := 68) (show ((0 : Nat) : Int) = 0 from rfl) (show ((0 : Nat) : Int) = 0 from rfl) (show ((0 : Nat) : Int) = 0 from rfl)) (congrArg i3 ((hZ69A.1)))) (by omega) (by omega)) (decide_eq_false (by omega))) ?_
                          refine wz_i0 (Eq.trans (i3T (Eq.trans (zm_rd (Z := Z69) (ν := ν) (k := 68) (show ((0 : Nat) : Int) = 0 from rfl) (show ((0 : Nat) : Int) = 0 from rfl) (show ((0 : Nat) : Int) = 0 from rfl)) (congrArg i3 ((hZ69A.1)))) (by omega) (by omega)) (decide_eq_false (by omega))) ?_
                          refine wz_i0 (Eq.trans (i3T (Eq.trans (zm_rd (Z := Z69) (ν := ν) (k := 68) (show ((0 : Nat) : Int) = 0 from rfl) (show ((0 : Nat) : Int) = 0 from rfl) (show ((0 : Nat) : Int) = 0 from rfl)) (congrArg i3 ((hZ69A.1)))) (by omega) (by omega)) (decide_eq_false (by omega))) ?_
                          refine wz_i0 (Eq.trans (i3T (Eq.trans (zm_rd (Z := Z69) (ν := ν) (k := 68) (show ((0 : Nat) : Int) = 0 from rfl) (show ((0 : Nat) : Int) = 0 from rfl) (show ((0 : Nat) : Int) = 0 from rfl)) (congrArg i3 ((hZ69A.1)))) (by omega) (by omega)) (decide_eq_false (by omega))) ?_
                          refine wz_i0 (Eq.trans (i3T (Eq.trans (zm_rd (Z := Z69) (ν := ν) (k := 68) (show ((0 : Nat) : Int) = 0 from rfl) (show ((0 : Nat) : Int) = 0 from rfl) (show ((0 : Nat) : Int) = 0 from rfl)) (congrArg i3 ((hZ69A.1)))) (by omega) (by omega)) (decide_eq_false (by omega))) ?_
                          refine wz_i0 (Eq.trans (i3T (Eq.trans (zm_rd (Z := Z69) (ν := ν) (k := 68) (show ((0 : Nat) : Int) = 0 from rfl) (show ((0 : Nat) : Int) = 0 from rfl) (show ((0 : Nat) : Int) = 0 from rfl)) (congrArg i3 ((hZ69A.1)))) (by omega) (by omega)) (decide_eq_false (by omega))) ?_
                          refine wz_i0 (Eq.trans (i3T (Eq.trans (zm_rd (Z := Z69) (ν := ν) (k := 68) (show ((0 : Nat) : Int) = 0 from rfl) (show ((0 : Nat) : Int) = 0 from rfl) (show ((0 : Nat) : Int) = 0 from rfl)) (congrArg i3 ((hZ69A.1)))) (by omega) (by omega)) (decide_eq_false (by omega))) ?_
                          refine wz_i0 (Eq.trans (i3T (Eq.trans (zm_rd (Z := Z69) (ν := ν) (k := 68) (show ((0 : Nat) : Int) = 0 from rfl) (show ((0 : Nat) : Int) = 0 from rfl) (show ((0 : Nat) : Int) = 0 from rfl)) (congrArg i3 ((hZ69A.1)))) (by omega) (by omega)) (decide_eq_false (by omega))) ?_
                          refine wz_i1 (Eq.trans (i3T (Eq.trans (zm_rd (Z := Z69) (ν := ν) (k := 68) (show ((0 : Nat) : Int) = 0 from rfl) (show ((0 : Nat) : Int) = 0 from rfl) (show ((0 : Nat) : Int) = 0 from rfl)) (congrArg i3 ((hZ69A.1)))) (by omega) (by omega)) (decide_eq_true (by omega))) ?_
                          refine wz_i1 rfl ?_
                          refine wz_i0 (i3O (n := 7) (show (1 : Int32) = i3 1 from rfl) (by omega) (by omega) (by omega)) ?_
                          refine wz_i1 rfl ?_
                          refine wz_i0 (i3O (n := 7) (show (2 : Int32) = i3 2 from rfl) (by omega) (by omega) (by omega)) ?_
                          obtain ⟨Z70, v71, hv71, c9, hZ70I, kZ70, jZ70, lv71, uv71⟩ := sp_50 (ν := ν) hZ69I 0 (a1 := a1) (by omega) (a2 := a2) (by omega) (zbh (c := 0) (k := 2) hM (Nat.le_of_ble_eq_true rfl))
                          have hZ70U : zU [0, 2, 3, 4, 5, 6, 7, 8, 9] Z Z70 := zU_t hZ69U jZ70 (zU_b1 (List.Mem.head _) zU_b0)
                          have hZ70K : zC [3, 12, 13, 14, 40, 41, 42, 43, 44, 45, 46, 47, 48, 49, 50, 51, 52, 53, 54, 61, 68, 1099, 1100, 1101, 1102, 1103, 1104, 1105, 1106, 1107, 1108, 1109, 1110, 1111, 1112, 1113, 1114, 1115, 1116] Z Z70 := zC_t hZ69K kZ70 (by decide)
                          replace hP := zl_e2 hP hv71
                          refine wz_cI_of (zas (zcons rfl (zcons (zvi (Eq.trans (zm_rd (Z := Z69) (ν := ν) (k := 68) (show ((0 : Nat) : Int) = 0 from rfl) (show ((0 : Nat) : Int) = 0 from rfl) (show ((1 : Nat) : Int) = 1 from rfl)) (congrArg i3 ((hZ69A.2.1))))) (zcons (zvi (Eq.trans (zm_rd (Z := Z69) (ν := ν) (k := 68) (show ((0 : Nat) : Int) = 0 from rfl) (show ((0 : Nat) : Int) = 0 from rfl) (show ((2 : Nat) : Int) = 2 from rfl)) (congrArg i3 ((hZ69A.2.2.1))))) rfl))) c9) ?_
                          clear c9 hv71
                          exact zlG hP (rfl : i3 v71 = i3 v71) ⟨hZ70I, hZ70K, hZ70U, zG_w zG_r (Nat.le_of_ble_eq_true rfl) (Nat.le_of_ble_eq_true rfl)⟩
                · replace hP := zE_n hP h53
                  refine wz_i1 (Eq.trans (i3NE (show (3 : Int32) = i3 3 from rfl) (show (1 : Int32) = i3 1 from rfl) (by omega) (by omega) (by omega) (by omega)) (decide_eq_true (by omega))) ?_
                  refine wz_i1 (Eq.trans (i3NE (show (3 : Int32) = i3 3 from rfl) (show (2 : Int32) = i3 2 from rfl) (by omega) (by omega) (by omega) (by omega)) (decide_eq_true (by omega))) ?_
                  refine wz_i0 (Eq.trans (i3NE (show (3 : Int32) = i3 3 from rfl) (show (3 : Int32) = i3 3 from rfl) (by omega) (by omega) (by omega) (by omega)) (decide_eq_false (by omega))) ?_
                  exact zlGe (E := 14) hP ⟨(zbw (a := 0) (c := 2) hZ (Nat.le_of_ble_eq_true rfl)), zC_r, zU_r, zG_w (zG_k rfl) (Nat.le_of_ble_eq_true rfl) (Nat.le_of_ble_eq_true rfl)⟩
        · replace hP := zE_n hP h6
          refine wz_i0 (Eq.trans (i3NE (show (1 : Int32) = i3 1 from rfl) (show (1 : Int32) = i3 1 from rfl) (by omega) (by omega) (by omega) (by omega)) (decide_eq_false (by omega))) ?_
          exact zlGe (E := 23) hP ⟨(zbw (a := 0) (c := 2) hZ (Nat.le_of_ble_eq_true rfl)), zC_r, zU_r, zG_w (zG_k rfl) (Nat.le_of_ble_eq_true rfl) (Nat.le_of_ble_eq_true rfl)⟩
/- yX7_tellInspector -/
def zl_140_1 (x1b : Int) (x1ij : Int) (x2 : Int) : Nat → qz_Z → Int → (Int) ⊕ (Int)
  | 0, Z, x3 => (.inl x3)
  | m + 1, Z, x3 => (if 671 < x3 then (.inl x3) else (zlet (zf_139 Z x1b x1ij x3) (fun v2 => (if v2 = (-1) then zl_140_1 x1b x1ij x2 m Z (x3 + 1) else (if x2 ≠ 8 then (.inr v2) else (.inr x3))))))
theorem sl_140_1 {s : zSM} {Z : qz_Z} {ν : qz_N} (hZ : zH s Z) (hM : s.2 + 0 ≤ 1000000000) (x1b : Nat) (x1i : Nat) {x1ij : Int} (ex1i : (x1i : Int) = x1ij) (gx1ij : 0 ≤ x1ij ∧ x1ij ≤ 1) {x2 : Int} (gx2 : 8 ≤ x2 ∧ x2 ≤ 9) {x3 : Int} (gx3 : 1 ≤ x3 ∧ x3 ≤ 672) {k : wz_K} {R : wz_R} {L : qz_L} (hL : qz_fg [false, true, true, true, false] L = [none, some (.inr (.inr (some (51, x1b, x1i)))), some (.inl (i3 x2)), some (.inl (i3 x3)), none]) {T : (Int) ⊕ (Int)} (hP : zE T (zl_140_1 x1b x1ij x2 ((672 - x3).toNat + 1) Z x3)) (hk : ∀ (L9 : qz_L) (yx3 : Int), qz_fg [false, false, false, false, false] L9 = [none, none, none, none, none] → (1 ≤ yx3 ∧ yx3 ≤ 672) → zE T (.inl yx3) → k 0 (L9, [], zm Z ν)) (hr : ∀ (v8 : Int), -2147483648 ≤ v8 → v8 ≤ 2147483647 → zE T (.inr v8) → R (zm Z ν) (.inl (some (.inl (i3 v8))))) : wz_loop qb_140_1 65536 k R (L, [], zm Z ν) := by
  refine wz_lp sb_140_1 (fun m x => ∃ x3 : Int, qz_fg [false, true, true, true, false] x.1 = [none, some (.inr (.inr (some (51, x1b, x1i)))), some (.inl (i3 x2)), some (.inl (i3 x3)), none] ∧ x.2 = ([], zm Z ν) ∧ m = (672 - x3).toNat ∧ (1 ≤ x3 ∧ x3 ≤ 672) ∧ zE T (zl_140_1 x1b x1ij x2 (m + 1) Z x3)) ?_ 65536 ((672 - x3).toNat) _ (by omega) ⟨x3, hL, rfl, rfl, gx3, hP⟩
  clear hP gx3 hL
  clear x3
  rintro m ⟨L, st, μ⟩ ⟨x3, hL, hx, hm, gx3, hP⟩
  cases hx
  refine fb_140_1 x1b x1i (i3 x2) (i3 x3) _ _ _ _ hL ?_
  refine wz_br (i3L (show (671 : Int32) = i3 671 from rfl) (rfl : i3 x3 = i3 x3) (by omega) (by omega) (by omega) (by omega)) (fun h1 => ?_) (fun h1 => ?_)
  · replace hP := zE_p hP h1
    exact hk _ _ (zconso rfl (zconso rfl (zconso rfl (zconso rfl (zconso rfl rfl)))))  (by omega)  hP
  · replace hP := zE_n hP h1
    obtain ⟨v2, hv2, c9, lv2, uv2⟩ := sp_139 (ν := ν) hZ x1b _ ex1i (by omega) (a1 := x3) (by omega) (zbh (c := 0) (k := 0) hM (Nat.le_of_ble_eq_true rfl))
    replace hP := zl_e hP hv2
    refine wz_cI_of (zas (zcons rfl (zcons (zvi (rfl : i3 x3 = i3 x3)) rfl)) c9) ?_
    clear c9
    refine wz_br (i3E (rfl : i3 v2 = i3 v2) (show (-1 : Int32) = i3 (-1) from rfl) (by omega) (by omega) (by omega) (by omega)) (fun h3 => ?_) (fun h3 => ?_)
    · replace hP := zE_p hP h3
      obtain ⟨m2, rfl⟩ : ∃ m2, m = m2 + 1 := ⟨m - 1, by omega⟩
      exact wz_k1 ⟨m2, by omega, (x3 + 1), (zconso rfl (zconso rfl (zconso (zvo (rfl : i3 x2 = i3 x2)) (zconso (zvo (i3A (rfl : i3 x3 = i3 x3) (show (1 : Int32) = i3 1 from rfl))) (zconso rfl rfl))))), rfl,  by omega, by omega,  hP⟩
    · replace hP := zE_n hP h3
      refine wz_br (i3NE (rfl : i3 x2 = i3 x2) (show (8 : Int32) = i3 8 from rfl) (by omega) (by omega) (by omega) (by omega)) (fun h4 => ?_) (fun h4 => ?_)
      · replace hP := zE_p hP h4
        rw [(rfl : i3 v2 = i3 v2)]
        exact hr _ (by omega) (by omega) hP
      · replace hP := zE_n hP h4
        rw [(rfl : i3 x3 = i3 x3)]
        exact hr _ (by omega) (by omega) hP
/- yX7_tellInspector -/
def zf_140 (Z : qz_Z) (a0b : Int) (a1b : Int) (a1ij : Int) (a2 : Int) : Int := (if 8 ≤ a2 then (zsum (zl_140_1 a1b a1ij a2 ((672 - ((Z 11 a0b 0 13) + 1)).toNat + 1) Z ((Z 11 a0b 0 13) + 1)) (fun q => zlet q (fun y3 => (-1))) (fun r => r)) else (Z 51 a1b a1ij a2))
theorem sp_140 {s : zSM} {Z : qz_Z} {ν : qz_N} (hZ : zH s Z) (a0b : Nat) (a1b : Nat) (a1i : Nat) {a1ij : Int} (ea1i : (a1i : Int) = a1ij) (ga1i : 0 ≤ a1ij ∧ a1ij ≤ 1) {a2 : Int} (ga2 : 0 ≤ a2 ∧ a2 ≤ 9) (hM : s.2 + 0 ≤ 1000000000) : ∃ P : Int, P = zf_140 Z a0b a1b a1ij a2 ∧ (qf_140 [.inr (.inr (some (10, a0b, 0))), .inr (.inr (some (51, a1b, a1i))), .inl (i3 a2)] (zm Z ν) = some (zm Z ν, .inl (some (.inl (i3 P)))) ∧ -2147483648 ≤ P ∧ P ≤ 2147483647) := by
  obtain ⟨P, hP⟩ := zx (zf_140 Z a0b a1b a1ij a2)
  refine zc_R (Q := fun P => -2147483648 ≤ P ∧ P ≤ 2147483647) hP (fw_140 a0b a1b a1i (i3 a2) _ _ ?_)
  replace hP : zE P (zf_140 Z a0b a1b a1ij a2) := hP
  unfold zf_140 at hP
  refine wz_br (i3Le (show (8 : Int32) = i3 8 from rfl) (rfl : i3 a2 = i3 a2) (by omega) (by omega) (by omega) (by omega)) (fun h1 => ?_) (fun h1 => ?_)
  · replace hP := zE_p hP h1
    have r2 := zH_k hZ 11 a0b 0 13 (lo := 0) (hi := 671) (by decide) rfl
    refine sl_140_1 (ν := ν) hZ (zbh (c := 0) (k := 0) hM (Nat.le_of_ble_eq_true rfl)) a1b _ ea1i (by omega) (x2 := a2) (by omega) (x3 := ((Z 11 a0b 0 13) + 1)) (by omega)  (zconso rfl (zconso rfl (zconso (zvo (rfl : i3 a2 = i3 a2)) (zconso (zvo (i3A (zm_rd (Z := Z) (ν := ν) (k := 11) (rfl : ((a0b : Nat) : Int) = a0b) (show ((0 : Nat) : Int) = 0 from rfl) (show ((13 : Nat) : Int) = 13 from rfl)) (show (1 : Int32) = i3 1 from rfl))) (zconso rfl rfl))))) rfl ?_ ?_
    · intro L4 y3 hL4 gy3 q9
      replace hP := zl_sl1 hP (Eq.symm q9)
      clear q9
      refine fc_140_2  _ _ _ _ hL4 ?_
      exact zlR hP (show (-1 : Int32) = i3 (-1) from rfl) ⟨by omega, by omega⟩
    · intro v8 l8 u8 q8
      replace hP := zl_sr hP (Eq.symm q8)
      exact zlR hP rfl ⟨by omega, by omega⟩
  · replace hP := zE_n hP h1
    refine wz_i0 (i3O (n := 8) (rfl : i3 a2 = i3 a2) (by omega) (by omega) (by omega)) ?_
    have r5 := zH_f hZ 51 a1b a1ij a2
    exact zlR hP (zm_rd (Z := Z) (ν := ν) (k := 51) (rfl : ((a1b : Nat) : Int) = a1b) ea1i (i3I (y := a2) (rfl : i3 a2 = i3 a2) (by omega) (by omega) (by omega))) ⟨by omega, by omega⟩
/- yX11_looked -/
def zx_216 (Z : qz_Z) (a1 : Int) (a2 : Int) : qz_Z × Int × Int := (if 0 ≤ a1 ∧ a1 < (Z 11 0 0 9) then (if 0 ≤ a2 ∧ a2 ≤ 9 then (zlet (zf_140 Z 0 0 a1 a2) (fun v4 => (Z, v4, 0))) else (Z, 0, 13)) else (Z, 0, 24))
theorem sx_216 {M : Nat} {Z : qz_Z} {ν : qz_N} (hZ : zH ((none, M) : zSM) Z) (hM : ((none, M) : zSM).2 + 0 ≤ 1000000000) {a1 : Int} (ga1 : -2147483648 ≤ a1 ∧ a1 ≤ 2147483647) {a2 : Int} (ga2 : -2147483648 ≤ a2 ∧ a2 ≤ 2147483647) : ∃ (Z1 : qz_Z) (ν1 : qz_N) (v E : Int), (Z1, v, E) = zx_216 Z a1 a2 ∧ qf_216 [.inr (.inr (some (0, 0, 0))), .inl (i3 a1), .inl (i3 a2)] (zm Z ν) = some (zm Z1 ν1, zoX v E) ∧ (fun Z1 ν1 => zH ((none, M) : zSM) Z1 ∧ zC [] Z Z1 ∧ zU [] Z Z1 ∧ zG 1 6 ν ν1) Z1 ν1 := by
  obtain ⟨P, hP⟩ := zx (zx_216 Z a1 a2)
  refine zc_G (Q := fun Z1 ν1 => zH ((none, M) : zSM) Z1 ∧ zC [] Z Z1 ∧ zU [] Z Z1 ∧ zG 1 6 ν ν1) hP (fw_216 (i3 a1) (i3 a2) _ _ ?_)
  replace hP : zE P (zx_216 Z a1 a2) := hP
  unfold zx_216 at hP
  have r1 := zH_k hZ 11 0 0 9 (lo := 0) (hi := 2) (by decide) rfl
  refine wz_thing (rfl : i3 a1 = i3 a1) (zm_rd (Z := Z) (ν := ν) (k := 11) (show ((0 : Nat) : Int) = 0 from rfl) (show ((0 : Nat) : Int) = 0 from rfl) (show ((9 : Nat) : Int) = 9 from rfl)) (by omega) (by omega) (by omega) (by omega) (fun h2 => ?_) (fun h2 => ?_)
  · replace hP := zE_p hP h2
    refine wz_inR (rfl : i3 a2 = i3 a2) (show (0 : Int32) = i3 0 from rfl) (show (9 : Int32) = i3 9 from rfl) (by omega) (by omega) (by omega) (by omega) (by omega) (by omega) (fun h3 => ?_) (fun h3 => ?_)
    · replace hP := zE_p hP h3
      refine wz_i0 (i3O (n := 2) (rfl : i3 a1 = i3 a1) (by omega) (by omega) (by omega)) ?_
      obtain ⟨v4, hv4, c9, lv4, uv4⟩ := sp_140 (ν := ν) hZ 0 0 _ (i3I (y := a1) (rfl : i3 a1 = i3 a1) (by omega) (by omega) (by omega)) (by omega) (a2 := a2) (by omega) (zbh (c := 0) (k := 0) hM (Nat.le_of_ble_eq_true rfl))
      replace hP := zl_e hP hv4
      refine wz_cI_of (zas (zcons rfl (zcons rfl (zcons (zvi (rfl : i3 a2 = i3 a2)) rfl))) c9) ?_
      clear c9
      exact zlG hP (rfl : i3 v4 = i3 v4) ⟨hZ, zC_r, zU_r, zG_w zG_r (Nat.le_of_ble_eq_true rfl) (Nat.le_of_ble_eq_true rfl)⟩
    · replace hP := zE_n hP h3
      exact zlGe (E := 12) hP ⟨hZ, zC_r, zU_r, zG_w (zG_k rfl) (Nat.le_of_ble_eq_true rfl) (Nat.le_of_ble_eq_true rfl)⟩
  · replace hP := zE_n hP h2
    exact zlGe (E := 23) hP ⟨hZ, zC_r, zU_r, zG_w (zG_k rfl) (Nat.le_of_ble_eq_true rfl) (Nat.le_of_ble_eq_true rfl)⟩
/- yX11_lot -/
def zx_217 (Z : qz_Z) (a1 : Int) (a2 : Int) (a3 : Int) : qz_Z × Int × Int := (if 0 ≤ a1 ∧ a1 < (Z 11 0 0 7) then (if 0 ≤ a2 ∧ a2 < (Z 48 0 a1 5) then (if 0 ≤ a3 ∧ a3 ≤ 2 then (Z, (Z 49 0 (12 * a1 + a2) a3), 0) else (Z, 0, 13)) else (Z, 0, 24)) else (Z, 0, 24))
theorem sx_217 {M : Nat} {Z : qz_Z} {ν : qz_N} (hZ : zH ((none, M) : zSM) Z) (hM : ((none, M) : zSM).2 + 0 ≤ 1000000000) {a1 : Int} (ga1 : -2147483648 ≤ a1 ∧ a1 ≤ 2147483647) {a2 : Int} (ga2 : -2147483648 ≤ a2 ∧ a2 ≤ 2147483647) {a3 : Int} (ga3 : -2147483648 ≤ a3 ∧ a3 ≤ 2147483647) : ∃ (Z1 : qz_Z) (ν1 : qz_N) (v E : Int), (Z1, v, E) = zx_217 Z a1 a2 a3 ∧ qf_217 [.inr (.inr (some (0, 0, 0))), .inl (i3 a1), .inl (i3 a2), .inl (i3 a3)] (zm Z ν) = some (zm Z1 ν1, zoX v E) ∧ (fun Z1 ν1 => zH ((none, M) : zSM) Z1 ∧ zC [] Z Z1 ∧ zU [] Z Z1 ∧ zG 1 6 ν ν1) Z1 ν1 := by
  obtain ⟨P, hP⟩ := zx (zx_217 Z a1 a2 a3)
  refine zc_G (Q := fun Z1 ν1 => zH ((none, M) : zSM) Z1 ∧ zC [] Z Z1 ∧ zU [] Z Z1 ∧ zG 1 6 ν ν1) hP (fw_217 (i3 a1) (i3 a2) (i3 a3) _ _ ?_)
  replace hP : zE P (zx_217 Z a1 a2 a3) := hP
  unfold zx_217 at hP
  have r1 := zH_k hZ 11 0 0 7 (lo := 0) (hi := 2) (by decide) rfl
  refine wz_thing (rfl : i3 a1 = i3 a1) (zm_rd (Z := Z) (ν := ν) (k := 11) (show ((0 : Nat) : Int) = 0 from rfl) (show ((0 : Nat) : Int) = 0 from rfl) (show ((7 : Nat) : Int) = 7 from rfl)) (by omega) (by omega) (by omega) (by omega) (fun h2 => ?_) (fun h2 => ?_)
  · replace hP := zE_p hP h2
    refine wz_i0 (i3O (n := 2) (rfl : i3 a1 = i3 a1) (by omega) (by omega) (by omega)) ?_
    have r3 := zH_k hZ 48 0 a1 5 (lo := 0) (hi := 12) (by decide) rfl
    refine wz_thing (rfl : i3 a2 = i3 a2) (zm_rd (Z := Z) (ν := ν) (k := 48) (show ((0 : Nat) : Int) = 0 from rfl) (i3I (y := a1) (rfl : i3 a1 = i3 a1) (by omega) (by omega) (by omega)) (show ((5 : Nat) : Int) = 5 from rfl)) (by omega) (by omega) (by omega) (by omega) (fun h4 => ?_) (fun h4 => ?_)
    · replace hP := zE_p hP h4
      refine wz_inR (rfl : i3 a3 = i3 a3) (show (0 : Int32) = i3 0 from rfl) (show (2 : Int32) = i3 2 from rfl) (by omega) (by omega) (by omega) (by omega) (by omega) (by omega) (fun h5 => ?_) (fun h5 => ?_)
      · replace hP := zE_p hP h5
        refine wz_i0 (i3O (n := 24) (i3A (i3M (rfl : i3 a1 = i3 a1) (show (12 : Int32) = i3 12 from rfl)) (rfl : i3 a2 = i3 a2)) (by omega) (by omega) (by omega)) ?_
        refine wz_i0 (i3O (n := 3) (rfl : i3 a3 = i3 a3) (by omega) (by omega) (by omega)) ?_
        have r6 := zH_f hZ 49 0 (12 * a1 + a2) a3
        exact zlG hP (zm_rd (Z := Z) (ν := ν) (k := 49) (show ((0 : Nat) : Int) = 0 from rfl) (i3I (y := (12 * a1 + a2)) (i3A (i3M (rfl : i3 a1 = i3 a1) (show (12 : Int32) = i3 12 from rfl)) (rfl : i3 a2 = i3 a2)) (by omega) (by omega) (by omega)) (i3I (y := a3) (rfl : i3 a3 = i3 a3) (by omega) (by omega) (by omega))) ⟨hZ, zC_r, zU_r, zG_w zG_r (Nat.le_of_ble_eq_true rfl) (Nat.le_of_ble_eq_true rfl)⟩
      · replace hP := zE_n hP h5
        exact zlGe (E := 12) hP ⟨hZ, zC_r, zU_r, zG_w (zG_k rfl) (Nat.le_of_ble_eq_true rfl) (Nat.le_of_ble_eq_true rfl)⟩
    · replace hP := zE_n hP h4
      exact zlGe (E := 23) hP ⟨hZ, zC_r, zU_r, zG_w (zG_k rfl) (Nat.le_of_ble_eq_true rfl) (Nat.le_of_ble_eq_true rfl)⟩
  · replace hP := zE_n hP h2
    exact zlGe (E := 23) hP ⟨hZ, zC_r, zU_r, zG_w (zG_k rfl) (Nat.le_of_ble_eq_true rfl) (Nat.le_of_ble_eq_true rfl)⟩
/- yX1_cratesGiven -/
def zl_19_1 (x0b : Int) : Nat → qz_Z → Int → Int → Int × Int
  | 0, Z, x2, x3 => (x2, x3)
  | m + 1, Z, x2, x3 => (if (Z 11 x0b 0 5) ≤ x3 then (x2, x3) else zl_19_1 x0b m Z (w3 (x2 + (Z 69 0 0 x3))) (x3 + 1))
theorem sl_19_1 {s : zSM} {Z : qz_Z} {ν : qz_N} (hZ : zH s Z) (hM : s.2 + 0 ≤ 1000000000) (x0b : Nat) {x2 : Int} (gx2 : -2147483648 ≤ x2 ∧ x2 ≤ 2147483647) {x3 : Int} (gx3 : 0 ≤ x3 ∧ x3 ≤ 24) {k : wz_K} {R : wz_R} {L : qz_L} (hL : qz_fg [true, true, true, true] L = [some (.inr (.inr (some (10, x0b, 0)))), some (.inr (.inr (some (69, 0, 0)))), some (.inl (i3 x2)), some (.inl (i3 x3))]) {T : Int × Int} (hP : zE T (zl_19_1 x0b ((24 - x3).toNat + 1) Z x2 x3)) (hk : ∀ (L9 : qz_L) (yx2 yx3 : Int), qz_fg [false, false, true, false] L9 = [none, none, some (.inl (i3 yx2)), none] → (-2147483648 ≤ yx2 ∧ yx2 ≤ 2147483647) → (0 ≤ yx3 ∧ yx3 ≤ 24) → zE T ((yx2, yx3)) → k 0 (L9, [], zm Z ν)) : wz_loop qb_19_1 65536 k R (L, [], zm Z ν) := by
  refine wz_lp sb_19_1 (fun m x => ∃ x2 : Int, ∃ x3 : Int, qz_fg [true, true, true, true] x.1 = [some (.inr (.inr (some (10, x0b, 0)))), some (.inr (.inr (some (69, 0, 0)))), some (.inl (i3 x2)), some (.inl (i3 x3))] ∧ x.2 = ([], zm Z ν) ∧ m = (24 - x3).toNat ∧ (-2147483648 ≤ x2 ∧ x2 ≤ 2147483647) ∧ (0 ≤ x3 ∧ x3 ≤ 24) ∧ zE T (zl_19_1 x0b (m + 1) Z x2 x3)) ?_ 65536 ((24 - x3).toNat) _ (by omega) ⟨x2, x3, hL, rfl, rfl, gx2, gx3, hP⟩
  clear hP gx2 gx3 hL
  clear x2 x3
  rintro m ⟨L, st, μ⟩ ⟨x2, x3, hL, hx, hm, gx2, gx3, hP⟩
  cases hx
  refine fb_19_1 x0b (i3 x2) (i3 x3) _ _ _ _ hL ?_
  have r1 := zH_k hZ 11 x0b 0 5 (lo := 0) (hi := 24) (by decide) rfl
  refine wz_br (i3Le (zm_rd (Z := Z) (ν := ν) (k := 11) (rfl : ((x0b : Nat) : Int) = x0b) (show ((0 : Nat) : Int) = 0 from rfl) (show ((5 : Nat) : Int) = 5 from rfl)) (rfl : i3 x3 = i3 x3) (by omega) (by omega) (by omega) (by omega)) (fun h2 => ?_) (fun h2 => ?_)
  · replace hP := zE_p hP h2
    exact hk _ _ _ (zconso rfl (zconso rfl (zconso (zvo (rfl : i3 x2 = i3 x2)) (zconso rfl rfl))))  (by omega) (by omega)  hP
  · replace hP := zE_n hP h2
    refine wz_i0 (i3O (n := 24) (rfl : i3 x3 = i3 x3) (by omega) (by omega) (by omega)) ?_
    have r3 := zH_f hZ 69 0 0 x3
    have r4 := w3_r (x2 + (Z 69 0 0 x3))
    obtain ⟨m2, rfl⟩ : ∃ m2, m = m2 + 1 := ⟨m - 1, by omega⟩
    exact wz_k1 ⟨m2, by omega, (w3 (x2 + (Z 69 0 0 x3))), (x3 + 1), (zconso rfl (zconso rfl (zconso (zvo (i3W (i3A (rfl : i3 x2 = i3 x2) (zm_rd (Z := Z) (ν := ν) (k := 69) (show ((0 : Nat) : Int) = 0 from rfl) (show ((0 : Nat) : Int) = 0 from rfl) (i3I (y := x3) (rfl : i3 x3 = i3 x3) (by omega) (by omega) (by omega)))))) (zconso (zvo (i3A (rfl : i3 x3 = i3 x3) (show (1 : Int32) = i3 1 from rfl))) rfl)))), rfl,  by omega, by omega, by omega,  hP⟩
/- yX1_cratesGiven -/
def zf_19 (Z : qz_Z) (a0b : Int) : Int := (zlet2 (zl_19_1 a0b 25 Z 0 0) (fun y1 y2 => y1))
theorem sp_19 {s : zSM} {Z : qz_Z} {ν : qz_N} (hZ : zH s Z) (a0b : Nat) (hM : s.2 + 0 ≤ 1000000000) : ∃ P : Int, P = zf_19 Z a0b ∧ (qf_19 [.inr (.inr (some (10, a0b, 0))), .inr (.inr (some (69, 0, 0)))] (zm Z ν) = some (zm Z ν, .inl (some (.inl (i3 P)))) ∧ -2147483648 ≤ P ∧ P ≤ 2147483647) := by
  obtain ⟨P, hP⟩ := zx (zf_19 Z a0b)
  refine zc_R (Q := fun P => -2147483648 ≤ P ∧ P ≤ 2147483647) hP (fw_19 a0b _ _ ?_)
  replace hP : zE P (zf_19 Z a0b) := hP
  unfold zf_19 at hP
  refine sl_19_1 (ν := ν) hZ (zbh (c := 0) (k := 0) hM (Nat.le_of_ble_eq_true rfl)) a0b (x2 := 0) (by omega) (x3 := 0) (by omega)  (zconso rfl (zconso rfl (zconso (zvo (show (0 : Int32) = i3 0 from rfl)) (zconso (zvo (show (0 : Int32) = i3 0 from rfl)) rfl)))) rfl ?_
  intro L3 y1 y2 hL3 gy1 gy2 q9
  replace hP := zl_e2 hP (Eq.symm q9)
  clear q9
  refine fc_19_2 (i3 y1) _ _ _ _ hL3 ?_
  exact zlR hP (rfl : i3 y1 = i3 y1) ⟨by omega, by omega⟩
/- yX1_howManyAsk -/
def zl_27_1 (x0b : Int) : Nat → qz_Z → Int → Int → Int × Int
  | 0, Z, x1, x2 => (x1, x2)
  | m + 1, Z, x1, x2 => (if (Z 11 x0b 0 5) ≤ x2 then (x1, x2) else (zlet (zf_14 Z x0b x0b x2) (fun v3 => (if v3 = 0 then zl_27_1 x0b m Z (x1 + 0) (x2 + 1) else zl_27_1 x0b m Z (x1 + 1) (x2 + 1)))))
theorem sl_27_1 {s : zSM} {Z : qz_Z} {ν : qz_N} (hZ : zH s Z) (hM : s.2 + 0 ≤ 1000000000) (x0b : Nat) {x1 : Int} (gx1 : 0 ≤ x1 ∧ x1 ≤ 24) {x2 : Int} (gx2 : 0 ≤ x2 ∧ x2 ≤ 24) (gr0 : x1 ≤ x2) {k : wz_K} {R : wz_R} {L : qz_L} (hL : qz_fg [true, true, true] L = [some (.inr (.inr (some (10, x0b, 0)))), some (.inl (i3 x1)), some (.inl (i3 x2))]) {T : Int × Int} (hP : zE T (zl_27_1 x0b ((24 - x2).toNat + 1) Z x1 x2)) (hk : ∀ (L9 : qz_L) (yx1 yx2 : Int), qz_fg [false, true, false] L9 = [none, some (.inl (i3 yx1)), none] → (0 ≤ yx1 ∧ yx1 ≤ 24) → (0 ≤ yx2 ∧ yx2 ≤ 24) → (yx1 ≤ yx2) → zE T ((yx1, yx2)) → k 0 (L9, [], zm Z ν)) : wz_loop qb_27_1 65536 k R (L, [], zm Z ν) := by
  refine wz_lp sb_27_1 (fun m x => ∃ x1 : Int, ∃ x2 : Int, qz_fg [true, true, true] x.1 = [some (.inr (.inr (some (10, x0b, 0)))), some (.inl (i3 x1)), some (.inl (i3 x2))] ∧ x.2 = ([], zm Z ν) ∧ m = (24 - x2).toNat ∧ (0 ≤ x1 ∧ x1 ≤ 24) ∧ (0 ≤ x2 ∧ x2 ≤ 24) ∧ (x1 ≤ x2) ∧ zE T (zl_27_1 x0b (m + 1) Z x1 x2)) ?_ 65536 ((24 - x2).toNat) _ (by omega) ⟨x1, x2, hL, rfl, rfl, gx1, gx2, gr0, hP⟩
  clear hP gr0 gx1 gx2 hL
  clear x1 x2
  rintro m ⟨L, st, μ⟩ ⟨x1, x2, hL, hx, hm, gx1, gx2, gr0, hP⟩
  cases hx
  refine fb_27_1 x0b (i3 x1) (i3 x2) _ _ _ _ hL ?_
  have r1 := zH_k hZ 11 x0b 0 5 (lo := 0) (hi := 24) (by decide) rfl
  refine wz_br (i3Le (zm_rd (Z := Z) (ν := ν) (k := 11) (rfl : ((x0b : Nat) : Int) = x0b) (show ((0 : Nat) : Int) = 0 from rfl) (show ((5 : Nat) : Int) = 5 from rfl)) (rfl : i3 x2 = i3 x2) (by omega) (by omega) (by omega) (by omega)) (fun h2 => ?_) (fun h2 => ?_)
  · replace hP := zE_p hP h2
    exact hk _ _ _ (zconso rfl (zconso (zvo (rfl : i3 x1 = i3 x1)) (zconso rfl rfl)))  (by omega) (by omega) (by omega) hP
  · replace hP := zE_n hP h2
    refine wz_i0 (i3O (n := 24) (rfl : i3 x2 = i3 x2) (by omega) (by omega) (by omega)) ?_
    obtain ⟨v3, hv3, c9, lv3, uv3⟩ := sp_14 (ν := ν) hZ x0b x0b _ (i3I (y := x2) (rfl : i3 x2 = i3 x2) (by omega) (by omega) (by omega)) (by omega) (zbh (c := 0) (k := 0) hM (Nat.le_of_ble_eq_true rfl))
    replace hP := zl_e hP hv3
    refine wz_cI_of (zas (zcons rfl (zcons rfl rfl)) c9) ?_
    clear c9
    refine wz_br (i3E (rfl : i3 v3 = i3 v3) (show (0 : Int32) = i3 0 from rfl) (by omega) (by omega) (by omega) (by omega)) (fun h4 => ?_) (fun h4 => ?_)
    · replace hP := zE_p hP h4
      obtain ⟨m2, rfl⟩ : ∃ m2, m = m2 + 1 := ⟨m - 1, by omega⟩
      exact wz_k1 ⟨m2, by omega, (x1 + 0), (x2 + 1), (zconso rfl (zconso (zvo (i3A (rfl : i3 x1 = i3 x1) (show (0 : Int32) = i3 0 from rfl))) (zconso (zvo (i3A (rfl : i3 x2 = i3 x2) (show (1 : Int32) = i3 1 from rfl))) rfl))), rfl,  by omega, by omega, by omega, by omega,  hP⟩
    · replace hP := zE_n hP h4
      obtain ⟨m2, rfl⟩ : ∃ m2, m = m2 + 1 := ⟨m - 1, by omega⟩
      exact wz_k1 ⟨m2, by omega, (x1 + 1), (x2 + 1), (zconso rfl (zconso (zvo (i3A (rfl : i3 x1 = i3 x1) (show (1 : Int32) = i3 1 from rfl))) (zconso (zvo (i3A (rfl : i3 x2 = i3 x2) (show (1 : Int32) = i3 1 from rfl))) rfl))), rfl,  by omega, by omega, by omega, by omega,  hP⟩
/- yX1_howManyAsk -/
def zf_27 (Z : qz_Z) (a0b : Int) : Int := (zlet2 (zl_27_1 a0b 25 Z 0 0) (fun y1 y2 => y1))
theorem sp_27 {s : zSM} {Z : qz_Z} {ν : qz_N} (hZ : zH s Z) (a0b : Nat) (hM : s.2 + 0 ≤ 1000000000) : ∃ P : Int, P = zf_27 Z a0b ∧ (qf_27 [.inr (.inr (some (10, a0b, 0)))] (zm Z ν) = some (zm Z ν, .inl (some (.inl (i3 P)))) ∧ 0 ≤ P ∧ P ≤ 24) := by
  obtain ⟨P, hP⟩ := zx (zf_27 Z a0b)
  refine zc_R (Q := fun P => 0 ≤ P ∧ P ≤ 24) hP (fw_27 a0b _ _ ?_)
  replace hP : zE P (zf_27 Z a0b) := hP
  unfold zf_27 at hP
  refine sl_27_1 (ν := ν) hZ (zbh (c := 0) (k := 0) hM (Nat.le_of_ble_eq_true rfl)) a0b (x1 := 0) (by omega) (x2 := 0) (by omega) (by omega) (zconso rfl (zconso (zvo (show (0 : Int32) = i3 0 from rfl)) (zconso (zvo (show (0 : Int32) = i3 0 from rfl)) rfl))) rfl ?_
  intro L3 y1 y2 hL3 gy1 gy2 gL3_0 q9
  replace hP := zl_e2 hP (Eq.symm q9)
  clear q9
  refine fc_27_2 (i3 y1) _ _ _ _ hL3 ?_
  exact zlR hP (rfl : i3 y1 = i3 y1) ⟨by omega, by omega⟩
/- yX11_match -/
def zx_218 (Z : qz_Z) (n9 : Int) (a1 : Int) : qz_Z × Int × Int := (if a1 < 0 then (Z, 0, 13) else (if a1 ≤ 2 then (zlet3 (zf_21 Z n9 0) (fun Z5 n8 v6 => (if a1 ≠ 0 then (if a1 ≠ 1 then (zlet (zf_27 Z5 0) (fun v11 => (Z5, v11, 0))) else (zlet (zf_19 Z5 0) (fun v12 => (Z5, v12, 0)))) else (Z5, v6, 0)))) else (if 10 ≤ a1 ∧ a1 ≤ (9 + (Z 11 0 0 5)) then (zlet3 (zf_21 Z n9 0) (fun Z15 n18 v16 => (Z15, (Z15 69 0 0 ((-10) + a1)), 0))) else (Z, 0, 13))))
theorem sx_218 {M : Nat} {Z : qz_Z} {ν : qz_N} (hZ : zH ((none, M) : zSM) Z) (hM : ((none, M) : zSM).2 + 0 ≤ 1000000000) {n9 : Nat} (hn : ν.2.2.2.1 = n9) {a1 : Int} (ga1 : -2147483648 ≤ a1 ∧ a1 ≤ 2147483647) : ∃ (Z1 : qz_Z) (ν1 : qz_N) (v E : Int), (Z1, v, E) = zx_218 Z n9 a1 ∧ qf_218 [.inr (.inr (some (0, 0, 0))), .inl (i3 a1)] (zm Z ν) = some (zm Z1 ν1, zoX v E) ∧ (fun Z1 ν1 => zH ((none, M) : zSM) Z1 ∧ zL [69] [] n9 Z Z1 ∧ zU [] Z Z1 ∧ zG 1 20 ν ν1) Z1 ν1 := by
  obtain ⟨P, hP⟩ := zx (zx_218 Z n9 a1)
  refine zc_G (Q := fun Z1 ν1 => zH ((none, M) : zSM) Z1 ∧ zL [69] [] n9 Z Z1 ∧ zU [] Z Z1 ∧ zG 1 20 ν ν1) hP (fw_218 (i3 a1) _ _ ?_)
  replace hP : zE P (zx_218 Z n9 a1) := hP
  unfold zx_218 at hP
  have hs : ((none, M) : zSM).1 = none := rfl
  refine wz_br (i3L (rfl : i3 a1 = i3 a1) (show (0 : Int32) = i3 0 from rfl) (by omega) (by omega) (by omega) (by omega)) (fun h1 => ?_) (fun h1 => ?_)
  · replace hP := zE_p hP h1
    have r2 := zH_k hZ 11 0 0 5 (lo := 0) (hi := 24) (by decide) rfl
    refine wz_inR_n (rfl : i3 a1 = i3 a1) (show (10 : Int32) = i3 10 from rfl) (i3A (show (9 : Int32) = i3 9 from rfl) (zm_rd (Z := Z) (ν := ν) (k := 11) (show ((0 : Nat) : Int) = 0 from rfl) (show ((0 : Nat) : Int) = 0 from rfl) (show ((5 : Nat) : Int) = 5 from rfl))) (by omega) (by omega) (by omega) (by omega) (by omega) (by omega) (by omega) ?_
    exact zlGe (E := 12) hP ⟨hZ, zL_r, zU_r, zG_w (zG_k rfl) (Nat.le_of_ble_eq_true rfl) (Nat.le_of_ble_eq_true rfl)⟩
  · replace hP := zE_n hP h1
    refine wz_br (i3Le (rfl : i3 a1 = i3 a1) (show (2 : Int32) = i3 2 from rfl) (by omega) (by omega) (by omega) (by omega)) (fun h4 => ?_) (fun h4 => ?_)
    · replace hP := zE_p hP h4
      obtain ⟨Z5, ν7, n8, v6, hv6, c9, hZ5I, kZ5, jZ5, hnν7, gν7, lv6, uv6⟩ := sp_21 (ν := ν) hZ hs hn 0 (zbh (c := 0) (k := 0) hM (Nat.le_of_ble_eq_true rfl))
      have hZ5U : zU [] Z Z5 := zU_t zU_r jZ5 zU_b0
      have hZ5K : zL [69] [] n9 Z Z5 := zL_t zL_r kZ5 (by decide) zL_b0 (by omega)
      replace hP := zl_e3 hP hv6
      refine wz_cI_of (zas (zcons rfl (zcons rfl rfl)) c9) ?_
      clear c9 hv6
      have hGν7 := zG_t zG_r gν7
      refine wz_br (i3NE (rfl : i3 a1 = i3 a1) (show (0 : Int32) = i3 0 from rfl) (by omega) (by omega) (by omega) (by omega)) (fun h9 => ?_) (fun h9 => ?_)
      · replace hP := zE_p hP h9
        refine wz_br (i3NE (rfl : i3 a1 = i3 a1) (show (1 : Int32) = i3 1 from rfl) (by omega) (by omega) (by omega) (by omega)) (fun h10 => ?_) (fun h10 => ?_)
        · replace hP := zE_p hP h10
          refine wz_i0 (Eq.trans (i3NE (rfl : i3 a1 = i3 a1) (show (2 : Int32) = i3 2 from rfl) (by omega) (by omega) (by omega) (by omega)) (decide_eq_false (by omega))) ?_
          obtain ⟨v11, hv11, c9, lv11, uv11⟩ := sp_27 (ν := ν7) hZ5I 0 (zbh (c := 0) (k := 0) hM (Nat.le_of_ble_eq_true rfl))
          replace hP := zl_e hP hv11
          refine wz_cI_of (zas (zcons rfl rfl) c9) ?_
          clear c9
          exact zlG hP (rfl : i3 v11 = i3 v11) ⟨hZ5I, hZ5K, hZ5U, zG_w hGν7 (Nat.le_of_ble_eq_true rfl) (Nat.le_of_ble_eq_true rfl)⟩
        · replace hP := zE_n hP h10
          obtain ⟨v12, hv12, c9, lv12, uv12⟩ := sp_19 (ν := ν7) hZ5I 0 (zbh (c := 0) (k := 0) hM (Nat.le_of_ble_eq_true rfl))
          replace hP := zl_e hP hv12
          refine wz_cI_of (zas (zcons rfl (zcons rfl rfl)) c9) ?_
          clear c9
          exact zlG hP (rfl : i3 v12 = i3 v12) ⟨hZ5I, hZ5K, hZ5U, zG_w hGν7 (Nat.le_of_ble_eq_true rfl) (Nat.le_of_ble_eq_true rfl)⟩
      · replace hP := zE_n hP h9
        exact zlG hP (rfl : i3 v6 = i3 v6) ⟨hZ5I, hZ5K, hZ5U, zG_w hGν7 (Nat.le_of_ble_eq_true rfl) (Nat.le_of_ble_eq_true rfl)⟩
    · replace hP := zE_n hP h4
      have r13 := zH_k hZ 11 0 0 5 (lo := 0) (hi := 24) (by decide) rfl
      refine wz_inR (rfl : i3 a1 = i3 a1) (show (10 : Int32) = i3 10 from rfl) (i3A (show (9 : Int32) = i3 9 from rfl) (zm_rd (Z := Z) (ν := ν) (k := 11) (show ((0 : Nat) : Int) = 0 from rfl) (show ((0 : Nat) : Int) = 0 from rfl) (show ((5 : Nat) : Int) = 5 from rfl))) (by omega) (by omega) (by omega) (by omega) (by omega) (by omega) (fun h14 => ?_) (fun h14 => ?_)
      · replace hP := zE_p hP h14
        obtain ⟨Z15, ν17, n18, v16, hv16, c9, hZ15I, kZ15, jZ15, hnν17, gν17, lv16, uv16⟩ := sp_21 (ν := ν) hZ hs hn 0 (zbh (c := 0) (k := 0) hM (Nat.le_of_ble_eq_true rfl))
        have hZ15U : zU [] Z Z15 := zU_t zU_r jZ15 zU_b0
        have hZ15K : zL [69] [] n9 Z Z15 := zL_t zL_r kZ15 (by decide) zL_b0 (by omega)
        replace hP := zl_e3 hP hv16
        refine wz_cI_of (zas (zcons rfl (zcons rfl rfl)) c9) ?_
        clear c9 hv16
        have hGν17 := zG_t zG_r gν17
        refine wz_i1 (Eq.trans (i3NE (rfl : i3 a1 = i3 a1) (show (0 : Int32) = i3 0 from rfl) (by omega) (by omega) (by omega) (by omega)) (decide_eq_true (by omega))) ?_
        refine wz_i1 (Eq.trans (i3NE (rfl : i3 a1 = i3 a1) (show (1 : Int32) = i3 1 from rfl) (by omega) (by omega) (by omega) (by omega)) (decide_eq_true (by omega))) ?_
        refine wz_i1 (Eq.trans (i3NE (rfl : i3 a1 = i3 a1) (show (2 : Int32) = i3 2 from rfl) (by omega) (by omega) (by omega) (by omega)) (decide_eq_true (by omega))) ?_
        refine wz_i0 (i3O (n := 24) (i3S (rfl : i3 a1 = i3 a1) (show (10 : Int32) = i3 10 from rfl)) (by omega) (by omega) (by omega)) ?_
        have r19 := zH_f hZ15I 69 0 0 ((-10) + a1)
        exact zlG hP (zm_rd (Z := Z15) (ν := ν17) (k := 69) (show ((0 : Nat) : Int) = 0 from rfl) (show ((0 : Nat) : Int) = 0 from rfl) (i3I (y := ((-10) + a1)) (i3S (rfl : i3 a1 = i3 a1) (show (10 : Int32) = i3 10 from rfl)) (by omega) (by omega) (by omega))) ⟨hZ15I, hZ15K, hZ15U, zG_w hGν17 (Nat.le_of_ble_eq_true rfl) (Nat.le_of_ble_eq_true rfl)⟩
      · replace hP := zE_n hP h14
        exact zlGe (E := 12) hP ⟨hZ, zL_r, zU_r, zG_w (zG_k rfl) (Nat.le_of_ble_eq_true rfl) (Nat.le_of_ble_eq_true rfl)⟩
/- yX11_order -/
def zx_220 (Z : qz_Z) (a1 : Int) (a2 : Int) (a3 : Int) (a4 : Int) (a5 : Int) (a6 : Int) : qz_Z × Int × Int := (if 0 ≤ a1 ∧ a1 < (Z 11 0 0 4) then (if 0 ≤ a2 ∧ a2 < (Z 11 0 0 0) then (if 0 ≤ a3 ∧ a3 ≤ 3 then (if 1 ≤ a4 ∧ a4 ≤ 99 then (if 1 ≤ a5 ∧ a5 ≤ 9999 then (if 1 ≤ a6 ∧ a6 ≤ 127 then (if 24 ≤ (Z 11 0 0 5) then (Z, 0, 15) else (zlet (zdd Z 11 a1 a2 a3 a4 a5 a6) (fun Z13 => (zlet (zu Z13 46 0 (Z13 11 0 0 5) 0 a1) (fun Z16 => (zlet (zu Z16 46 0 (Z13 11 0 0 5) 1 a2) (fun Z17 => (zlet (zu Z17 46 0 (Z13 11 0 0 5) 2 a3) (fun Z18 => (zlet (zu Z18 46 0 (Z13 11 0 0 5) 3 a4) (fun Z19 => (zlet (zu Z19 46 0 (Z13 11 0 0 5) 4 a5) (fun Z20 => (zlet (zu Z20 46 0 (Z13 11 0 0 5) 5 a6) (fun Z21 => (zlet (zu Z21 46 0 (Z13 11 0 0 5) 6 a4) (fun Z22 => (zlet (zu Z22 45 0 a1 14 (w3 ((Z22 45 0 a1 14) + 1))) (fun Z25 => (zlet (zu Z25 11 0 0 5 ((Z25 11 0 0 5) + 1)) (fun Z28 => (Z28, (Z25 11 0 0 5), 0)))))))))))))))))))))) else (Z, 0, 13)) else (Z, 0, 13)) else (Z, 0, 13)) else (Z, 0, 13)) else (Z, 0, 24)) else (Z, 0, 24))
theorem sx_220 {M : Nat} {Z : qz_Z} {ν : qz_N} (hZ : zH ((none, M) : zSM) Z) (hM : ((none, M) : zSM).2 + 0 ≤ 1000000000) {a1 : Int} (ga1 : -2147483648 ≤ a1 ∧ a1 ≤ 2147483647) {a2 : Int} (ga2 : -2147483648 ≤ a2 ∧ a2 ≤ 2147483647) {a3 : Int} (ga3 : -2147483648 ≤ a3 ∧ a3 ≤ 2147483647) {a4 : Int} (ga4 : -2147483648 ≤ a4 ∧ a4 ≤ 2147483647) {a5 : Int} (ga5 : -2147483648 ≤ a5 ∧ a5 ≤ 2147483647) {a6 : Int} (ga6 : -2147483648 ≤ a6 ∧ a6 ≤ 2147483647) : ∃ (Z1 : qz_Z) (ν1 : qz_N) (v E : Int), (Z1, v, E) = zx_220 Z a1 a2 a3 a4 a5 a6 ∧ qf_220 [.inr (.inr (some (0, 0, 0))), .inl (i3 a1), .inl (i3 a2), .inl (i3 a3), .inl (i3 a4), .inl (i3 a5), .inl (i3 a6)] (zm Z ν) = some (zm Z1 ν1, zoX v E) ∧ (fun Z1 ν1 => zH ((none, M) : zSM) Z1 ∧ zC [3, 12, 13, 14, 40, 41, 42, 43, 44, 45, 46, 47, 48, 49, 50, 51, 52, 53, 54, 61, 68, 1099, 1100, 1101, 1102, 1103, 1104, 1105, 1106, 1107, 1108, 1109, 1110, 1111, 1112, 1113, 1114, 1115, 1116] Z Z1 ∧ zU [0, 2, 3, 4, 5, 6, 7, 8, 9] Z Z1 ∧ zG 1 6 ν ν1) Z1 ν1 := by
  obtain ⟨P, hP⟩ := zx (zx_220 Z a1 a2 a3 a4 a5 a6)
  refine zc_G (Q := fun Z1 ν1 => zH ((none, M) : zSM) Z1 ∧ zC [3, 12, 13, 14, 40, 41, 42, 43, 44, 45, 46, 47, 48, 49, 50, 51, 52, 53, 54, 61, 68, 1099, 1100, 1101, 1102, 1103, 1104, 1105, 1106, 1107, 1108, 1109, 1110, 1111, 1112, 1113, 1114, 1115, 1116] Z Z1 ∧ zU [0, 2, 3, 4, 5, 6, 7, 8, 9] Z Z1 ∧ zG 1 6 ν ν1) hP (fw_220 (i3 a1) (i3 a2) (i3 a3) (i3 a4) (i3 a5) (i3 a6) _ _ ?_)
  replace hP : zE P (zx_220 Z a1 a2 a3 a4 a5 a6) := hP
  unfold zx_220 at hP
  have r1 := zH_k hZ 11 0 0 4 (lo := 0) (hi := 8) (by decide) rfl
  refine wz_thing (rfl : i3 a1 = i3 a1) (zm_rd (Z := Z) (ν := ν) (k := 11) (show ((0 : Nat) : Int) = 0 from rfl) (show ((0 : Nat) : Int) = 0 from rfl) (show ((4 : Nat) : Int) = 4 from rfl)) (by omega) (by omega) (by omega) (by omega) (fun h2 => ?_) (fun h2 => ?_)
  · replace hP := zE_p hP h2
    have r3 := zH_k hZ 11 0 0 0 (lo := 0) (hi := 5) (by decide) rfl
    refine wz_thing (rfl : i3 a2 = i3 a2) (zm_rd (Z := Z) (ν := ν) (k := 11) (show ((0 : Nat) : Int) = 0 from rfl) (show ((0 : Nat) : Int) = 0 from rfl) (show ((0 : Nat) : Int) = 0 from rfl)) (by omega) (by omega) (by omega) (by omega) (fun h4 => ?_) (fun h4 => ?_)
    · replace hP := zE_p hP h4
      refine wz_inR (rfl : i3 a3 = i3 a3) (show (0 : Int32) = i3 0 from rfl) (show (3 : Int32) = i3 3 from rfl) (by omega) (by omega) (by omega) (by omega) (by omega) (by omega) (fun h5 => ?_) (fun h5 => ?_)
      · replace hP := zE_p hP h5
        refine wz_inR (rfl : i3 a4 = i3 a4) (show (1 : Int32) = i3 1 from rfl) (show (99 : Int32) = i3 99 from rfl) (by omega) (by omega) (by omega) (by omega) (by omega) (by omega) (fun h6 => ?_) (fun h6 => ?_)
        · replace hP := zE_p hP h6
          refine wz_inR (rfl : i3 a5 = i3 a5) (show (1 : Int32) = i3 1 from rfl) (show (9999 : Int32) = i3 9999 from rfl) (by omega) (by omega) (by omega) (by omega) (by omega) (by omega) (fun h7 => ?_) (fun h7 => ?_)
          · replace hP := zE_p hP h7
            refine wz_inR (rfl : i3 a6 = i3 a6) (show (1 : Int32) = i3 1 from rfl) (show (127 : Int32) = i3 127 from rfl) (by omega) (by omega) (by omega) (by omega) (by omega) (by omega) (fun h8 => ?_) (fun h8 => ?_)
            · replace hP := zE_p hP h8
              have r9 := zH_k hZ 11 0 0 5 (lo := 0) (hi := 24) (by decide) rfl
              refine wz_br (i3Le (show (24 : Int32) = i3 24 from rfl) (zm_rd (Z := Z) (ν := ν) (k := 11) (show ((0 : Nat) : Int) = 0 from rfl) (show ((0 : Nat) : Int) = 0 from rfl) (show ((5 : Nat) : Int) = 5 from rfl)) (by omega) (by omega) (by omega) (by omega)) (fun h10 => ?_) (fun h10 => ?_)
              · replace hP := zE_p hP h10
                refine wz_inT_n (show (0 : Int32) = i3 0 from rfl) (by omega) (by omega) (by omega) ?_
                exact zlGe (E := 14) hP ⟨hZ, zC_r, zU_r, zG_w (zG_k rfl) (Nat.le_of_ble_eq_true rfl) (Nat.le_of_ble_eq_true rfl)⟩
              · replace hP := zE_n hP h10
                refine wz_inT_y (show (1 : Int32) = i3 1 from rfl) (by omega) (by omega) (by omega) ?_
                refine dc_J (zcons rfl (zcons (zvi (show (11 : Int32) = i3 11 from rfl)) (zcons (zvi (rfl : i3 a1 = i3 a1)) (zcons (zvi (rfl : i3 a2 = i3 a2)) (zcons (zvi (rfl : i3 a3 = i3 a3)) (zcons (zvi (rfl : i3 a4 = i3 a4)) (zcons (zvi (rfl : i3 a5 = i3 a5)) (zcons (zvi (rfl : i3 a6 = i3 a6)) rfl)))))))) (dg (hZ).1 (by omega) (by omega) (by omega) (by omega) (by omega) (by omega) (by omega) ?_)
                have hZ13I := zH_dd hZ (a1 := 11) (a2 := a1) (a3 := a2) (a4 := a3) (a5 := a4) (a6 := a5) (a7 := a6) (by omega) (by omega) (by omega) (by omega) (by omega) (by omega) (by omega)
                have kZ13 : zC [3, 12, 13, 14, 40, 41, 42, 43, 44, 45, 46, 47, 48, 49, 50, 51, 52, 53, 54, 61, 68, 1099, 1100, 1101, 1102, 1103, 1104, 1105, 1106, 1107, 1108, 1109, 1110, 1111, 1112, 1113, 1114, 1115, 1116] Z (zdd Z 11 a1 a2 a3 a4 a5 a6) := zC_k zdd_K (by decide) (by decide)
                have hZ13A : (zdd Z 11 a1 a2 a3 a4 a5 a6) 68 0 0 0 = 11 ∧ (zdd Z 11 a1 a2 a3 a4 a5 a6) 68 0 0 1 = a1 ∧ (zdd Z 11 a1 a2 a3 a4 a5 a6) 68 0 0 2 = a2 ∧ (zdd Z 11 a1 a2 a3 a4 a5 a6) 68 0 0 3 = a3 ∧ (zdd Z 11 a1 a2 a3 a4 a5 a6) 68 0 0 4 = a4 ∧ (zdd Z 11 a1 a2 a3 a4 a5 a6) 68 0 0 5 = a5 ∧ (zdd Z 11 a1 a2 a3 a4 a5 a6) 68 0 0 6 = a6 := ⟨zdd_68, zdd_68, zdd_68, zdd_68, zdd_68, zdd_68, zdd_68⟩
                obtain ⟨Z13, hZ13⟩ := zx (zdd Z 11 a1 a2 a3 a4 a5 a6)
                have dZ13 : ∀ {k : Nat} {i j : Int}, zhall k = true → ¬ (k = 11 ∧ (j = 15 ∨ j = 16)) → Z13 k 0 i j = Z k 0 i j := fun hk hj => by rw [hZ13]; exact zdd_h (hZ).1 hk hj
                have jZ13 : zU [0, 2, 3, 4, 5, 6, 7, 8, 9] Z (zdd Z 11 a1 a2 a3 a4 a5 a6) := zU_dd (hZ).1
                rw [← hZ13] at hZ13I kZ13 jZ13 hZ13A ⊢
                have hZ13U : zU [0, 2, 3, 4, 5, 6, 7, 8, 9] Z Z13 := zU_t zU_r jZ13 (zU_b1 (List.Mem.head _) (zU_b1 (List.Mem.tail _ (List.Mem.head _)) (zU_b1 (List.Mem.tail _ (List.Mem.tail _ (List.Mem.head _))) (zU_b1 (List.Mem.tail _ (List.Mem.tail _ (List.Mem.tail _ (List.Mem.head _)))) (zU_b1 (List.Mem.tail _ (List.Mem.tail _ (List.Mem.tail _ (List.Mem.tail _ (List.Mem.head _))))) (zU_b1 (List.Mem.tail _ (List.Mem.tail _ (List.Mem.tail _ (List.Mem.tail _ (List.Mem.tail _ (List.Mem.head _)))))) (zU_b1 (List.Mem.tail _ (List.Mem.tail _ (List.Mem.tail _ (List.Mem.tail _ (List.Mem.tail _ (List.Mem.tail _ (List.Mem.head _))))))) (zU_b1 (List.Mem.tail _ (List.Mem.tail _ (List.Mem.tail _ (List.Mem.tail _ (List.Mem.tail _ (List.Mem.tail _ (List.Mem.tail _ (List.Mem.head _)))))))) (zU_b1 (List.Mem.tail _ (List.Mem.tail _ (List.Mem.tail _ (List.Mem.tail _ (List.Mem.tail _ (List.Mem.tail _ (List.Mem.tail _ (List.Mem.tail _ (List.Mem.head _))))))))) zU_b0)))))))))
                replace hP := zl_e hP hZ13
                have hZ13K : zC [3, 12, 13, 14, 40, 41, 42, 43, 44, 45, 46, 47, 48, 49, 50, 51, 52, 53, 54, 61, 68, 1099, 1100, 1101, 1102, 1103, 1104, 1105, 1106, 1107, 1108, 1109, 1110, 1111, 1112, 1113, 1114, 1115, 1116] Z Z13 := zC_t zC_r kZ13 (by decide)
                clear kZ13 hZ13
                refine fw_121 _ _ _ _ ?_
                refine wz_i1 rfl ?_
                refine wz_i0 (i3O (n := 7) (show (0 : Int32) = i3 0 from rfl) (by omega) (by omega) (by omega)) ?_
                refine wz_i0 (Eq.trans (i3To (Eq.trans (zm_rd (Z := Z13) (ν := ν) (k := 68) (show ((0 : Nat) : Int) = 0 from rfl) (show ((0 : Nat) : Int) = 0 from rfl) (show ((0 : Nat) : Int) = 0 from rfl)) (congrArg i3 ((hZ13A.1)))) (by omega) (by omega)) (decide_eq_false (by omega))) ?_
                refine wz_i0 (Eq.trans (i3T (Eq.trans (zm_rd (Z := Z13) (ν := ν) (k := 68) (show ((0 : Nat) : Int) = 0 from rfl) (show ((0 : Nat) : Int) = 0 from rfl) (show ((0 : Nat) : Int) = 0 from rfl)) (congrArg i3 ((hZ13A.1)))) (by omega) (by omega)) (decide_eq_false (by omega))) ?_
                refine wz_i0 (Eq.trans (i3T (Eq.trans (zm_rd (Z := Z13) (ν := ν) (k := 68) (show ((0 : Nat) : Int) = 0 from rfl) (show ((0 : Nat) : Int) = 0 from rfl) (show ((0 : Nat) : Int) = 0 from rfl)) (congrArg i3 ((hZ13A.1)))) (by omega) (by omega)) (decide_eq_false (by omega))) ?_
                refine wz_i0 (Eq.trans (i3T (Eq.trans (zm_rd (Z := Z13) (ν := ν) (k := 68) (show ((0 : Nat) : Int) = 0 from rfl) (show ((0 : Nat) : Int) = 0 from rfl) (show ((0 : Nat) : Int) = 0 from rfl)) (congrArg i3 ((hZ13A.1)))) (by omega) (by omega)) (decide_eq_false (by omega))) ?_
                refine wz_i0 (Eq.trans (i3T (Eq.trans (zm_rd (Z := Z13) (ν := ν) (k := 68) (show ((0 : Nat) : Int) = 0 from rfl) (show ((0 : Nat) : Int) = 0 from rfl) (show ((0 : Nat) : Int) = 0 from rfl)) (congrArg i3 ((hZ13A.1)))) (by omega) (by omega)) (decide_eq_false (by omega))) ?_
                refine wz_i0 (Eq.trans (i3T (Eq.trans (zm_rd (Z := Z13) (ν := ν) (k := 68) (show ((0 : Nat) : Int) = 0 from rfl) (show ((0 : Nat) : Int) = 0 from rfl) (show ((0 : Nat) : Int) = 0 from rfl)) (congrArg i3 ((hZ13A.1)))) (by omega) (by omega)) (decide_eq_false (by omega))) ?_
                refine wz_i0 (Eq.trans (i3T (Eq.trans (zm_rd (Z := Z13) (ν := ν) (k := 68) (show ((0 : Nat) : Int) = 0 from rfl) (show ((0 : Nat) : Int) = 0 from rfl) (show ((0 : Nat) : Int) = 0 from rfl)) (congrArg i3 ((hZ13A.1)))) (by omega) (by omega)) (decide_eq_false (by omega))) ?_
                refine wz_i0 (Eq.trans (i3T (Eq.trans (zm_rd (Z := Z13) (ν := ν) (k := 68) (show ((0 : Nat) : Int) = 0 from rfl) (show ((0 : Nat) : Int) = 0 from rfl) (show ((0 : Nat) : Int) = 0 from rfl)) (congrArg i3 ((hZ13A.1)))) (by omega) (by omega)) (decide_eq_false (by omega))) ?_
                refine wz_i0 (Eq.trans (i3T (Eq.trans (zm_rd (Z := Z13) (ν := ν) (k := 68) (show ((0 : Nat) : Int) = 0 from rfl) (show ((0 : Nat) : Int) = 0 from rfl) (show ((0 : Nat) : Int) = 0 from rfl)) (congrArg i3 ((hZ13A.1)))) (by omega) (by omega)) (decide_eq_false (by omega))) ?_
                refine wz_i0 (Eq.trans (i3T (Eq.trans (zm_rd (Z := Z13) (ν := ν) (k := 68) (show ((0 : Nat) : Int) = 0 from rfl) (show ((0 : Nat) : Int) = 0 from rfl) (show ((0 : Nat) : Int) = 0 from rfl)) (congrArg i3 ((hZ13A.1)))) (by omega) (by omega)) (decide_eq_false (by omega))) ?_
                refine wz_i0 (Eq.trans (i3T (Eq.trans (zm_rd (Z := Z13) (ν := ν) (k := 68) (show ((0 : Nat) : Int) = 0 from rfl) (show ((0 : Nat) : Int) = 0 from rfl) (show ((0 : Nat) : Int) = 0 from rfl)) (congrArg i3 ((hZ13A.1)))) (by omega) (by omega)) (decide_eq_false (by omega))) ?_
                refine wz_i0 (Eq.trans (i3T (Eq.trans (zm_rd (Z := Z13) (ν := ν) (k := 68) (show ((0 : Nat) : Int) = 0 from rfl) (show ((0 : Nat) : Int) = 0 from rfl) (show ((0 : Nat) : Int) = 0 from rfl)) (congrArg i3 ((hZ13A.1)))) (by omega) (by omega)) (decide_eq_false (by omega))) ?_
                refine wz_i1 (Eq.trans (i3T (Eq.trans (zm_rd (Z := Z13) (ν := ν) (k := 68) (show ((0 : Nat) : Int) = 0 from rfl) (show ((0 : Nat) : Int) = 0 from rfl) (show ((0 : Nat) : Int) = 0 from rfl)) (congrArg i3 ((hZ13A.1)))) (by omega) (by omega)) (decide_eq_true (by omega))) ?_
                refine wz_i1 rfl ?_
                refine wz_i0 (i3O (n := 7) (show (1 : Int32) = i3 1 from rfl) (by omega) (by omega) (by omega)) ?_
                refine wz_i1 rfl ?_
                refine wz_i0 (i3O (n := 7) (show (2 : Int32) = i3 2 from rfl) (by omega) (by omega) (by omega)) ?_
                refine wz_i1 rfl ?_
                refine wz_i0 (i3O (n := 7) (show (3 : Int32) = i3 3 from rfl) (by omega) (by omega) (by omega)) ?_
                refine wz_i1 rfl ?_
                refine wz_i0 (i3O (n := 7) (show (4 : Int32) = i3 4 from rfl) (by omega) (by omega) (by omega)) ?_
                refine wz_i1 rfl ?_
                refine wz_i0 (i3O (n := 7) (show (5 : Int32) = i3 5 from rfl) (by omega) (by omega) (by omega)) ?_
                refine wz_i1 rfl ?_
                refine wz_i0 (i3O (n := 7) (show (6 : Int32) = i3 6 from rfl) (by omega) (by omega) (by omega)) ?_
                have r14 := zH_k hZ13I 11 0 0 5 (lo := 0) (hi := 24) (by decide) rfl
                have q15 := dZ13 (k := 11) (i := 0) (j := 5) (by decide) (by omega)
                refine wz_i0 (i3O (n := 24) (zm_rd (Z := Z13) (ν := ν) (k := 11) (show ((0 : Nat) : Int) = 0 from rfl) (show ((0 : Nat) : Int) = 0 from rfl) (show ((5 : Nat) : Int) = 5 from rfl)) (by omega) (by omega) (by omega)) ?_
                obtain ⟨Z16, hZ16⟩ := zx (zu Z13 46 0 (Z13 11 0 0 5) 0 a1)
                replace hP := zl_e hP hZ16
                have hZ16I := zH_u hZ13I hZ16 (lo := 0) (hi := 7) (by decide) rfl (by omega) ⟨by decide, by decide⟩ (Or.inl (by decide)) rfl
                have hZ16U : zU [0, 2, 3, 4, 5, 6, 7, 8, 9] Z Z16 := zU_u hZ13U hZ16 (Or.inr (List.Mem.head _))
                have hZ16K : zC [3, 12, 13, 14, 40, 41, 42, 43, 44, 45, 46, 47, 48, 49, 50, 51, 52, 53, 54, 61, 68, 1099, 1100, 1101, 1102, 1103, 1104, 1105, 1106, 1107, 1108, 1109, 1110, 1111, 1112, 1113, 1114, 1115, 1116] Z Z16 := zC_u hZ13K hZ16 (by decide)
                intro μ9 e9
                replace e9 := e9.trans (zm_wI (Z := Z13) (ν := ν) hZ16 (show ((0 : Nat) : Int) = 0 from rfl) (i3I (y := (Z13 11 0 0 5)) (zm_rd (Z := Z13) (ν := ν) (k := 11) (show ((0 : Nat) : Int) = 0 from rfl) (show ((0 : Nat) : Int) = 0 from rfl) (show ((5 : Nat) : Int) = 5 from rfl)) (by omega) (by omega) (by omega)) (show ((0 : Nat) : Int) = 0 from rfl) (Eq.trans (zm_rd (Z := Z13) (ν := ν) (k := 68) (show ((0 : Nat) : Int) = 0 from rfl) (show ((0 : Nat) : Int) = 0 from rfl) (show ((1 : Nat) : Int) = 1 from rfl)) (congrArg i3 ((hZ13A.2.1)))))
                subst e9
                obtain ⟨Z17, hZ17⟩ := zx (zu Z16 46 0 (Z13 11 0 0 5) 1 a2)
                replace hP := zl_e hP hZ17
                have hZ17I := zH_u hZ16I hZ17 (lo := 0) (hi := 4) (by decide) rfl (by omega) ⟨by decide, by decide⟩ (Or.inl (by decide)) rfl
                have hZ17U : zU [0, 2, 3, 4, 5, 6, 7, 8, 9] Z Z17 := zU_u hZ16U hZ17 (Or.inr (List.Mem.head _))
                have hZ17K : zC [3, 12, 13, 14, 40, 41, 42, 43, 44, 45, 46, 47, 48, 49, 50, 51, 52, 53, 54, 61, 68, 1099, 1100, 1101, 1102, 1103, 1104, 1105, 1106, 1107, 1108, 1109, 1110, 1111, 1112, 1113, 1114, 1115, 1116] Z Z17 := zC_u hZ16K hZ17 (by decide)
                intro μ9 e9
                replace e9 := e9.trans (zm_wI (Z := Z16) (ν := ν) hZ17 (show ((0 : Nat) : Int) = 0 from rfl) (i3I (y := (Z13 11 0 0 5)) (zm_rd (Z := Z13) (ν := ν) (k := 11) (show ((0 : Nat) : Int) = 0 from rfl) (show ((0 : Nat) : Int) = 0 from rfl) (show ((5 : Nat) : Int) = 5 from rfl)) (by omega) (by omega) (by omega)) (show ((1 : Nat) : Int) = 1 from rfl) (Eq.trans (zm_rd (Z := Z13) (ν := ν) (k := 68) (show ((0 : Nat) : Int) = 0 from rfl) (show ((0 : Nat) : Int) = 0 from rfl) (show ((2 : Nat) : Int) = 2 from rfl)) (congrArg i3 ((hZ13A.2.2.1)))))
                subst e9
                obtain ⟨Z18, hZ18⟩ := zx (zu Z17 46 0 (Z13 11 0 0 5) 2 a3)
                replace hP := zl_e hP hZ18
                have hZ18I := zH_u hZ17I hZ18 (lo := 0) (hi := 3) (by decide) rfl (by omega) ⟨by decide, by decide⟩ (Or.inl (by decide)) rfl
                have hZ18U : zU [0, 2, 3, 4, 5, 6, 7, 8, 9] Z Z18 := zU_u hZ17U hZ18 (Or.inr (List.Mem.head _))
                have hZ18K : zC [3, 12, 13, 14, 40, 41, 42, 43, 44, 45, 46, 47, 48, 49, 50, 51, 52, 53, 54, 61, 68, 1099, 1100, 1101, 1102, 1103, 1104, 1105, 1106, 1107, 1108, 1109, 1110, 1111, 1112, 1113, 1114, 1115, 1116] Z Z18 := zC_u hZ17K hZ18 (by decide)
                intro μ9 e9
                replace e9 := e9.trans (zm_wI (Z := Z17) (ν := ν) hZ18 (show ((0 : Nat) : Int) = 0 from rfl) (i3I (y := (Z13 11 0 0 5)) (zm_rd (Z := Z13) (ν := ν) (k := 11) (show ((0 : Nat) : Int) = 0 from rfl) (show ((0 : Nat) : Int) = 0 from rfl) (show ((5 : Nat) : Int) = 5 from rfl)) (by omega) (by omega) (by omega)) (show ((2 : Nat) : Int) = 2 from rfl) (Eq.trans (zm_rd (Z := Z13) (ν := ν) (k := 68) (show ((0 : Nat) : Int) = 0 from rfl) (show ((0 : Nat) : Int) = 0 from rfl) (show ((3 : Nat) : Int) = 3 from rfl)) (congrArg i3 ((hZ13A.2.2.2.1)))))
                subst e9
                obtain ⟨Z19, hZ19⟩ := zx (zu Z18 46 0 (Z13 11 0 0 5) 3 a4)
                replace hP := zl_e hP hZ19
                have hZ19I := zH_u hZ18I hZ19 (lo := 0) (hi := 99) (by decide) rfl (by omega) ⟨by decide, by decide⟩ (Or.inl (by decide)) rfl
                have hZ19U : zU [0, 2, 3, 4, 5, 6, 7, 8, 9] Z Z19 := zU_u hZ18U hZ19 (Or.inr (List.Mem.head _))
                have hZ19K : zC [3, 12, 13, 14, 40, 41, 42, 43, 44, 45, 46, 47, 48, 49, 50, 51, 52, 53, 54, 61, 68, 1099, 1100, 1101, 1102, 1103, 1104, 1105, 1106, 1107, 1108, 1109, 1110, 1111, 1112, 1113, 1114, 1115, 1116] Z Z19 := zC_u hZ18K hZ19 (by decide)
                intro μ9 e9
                replace e9 := e9.trans (zm_wI (Z := Z18) (ν := ν) hZ19 (show ((0 : Nat) : Int) = 0 from rfl) (i3I (y := (Z13 11 0 0 5)) (zm_rd (Z := Z13) (ν := ν) (k := 11) (show ((0 : Nat) : Int) = 0 from rfl) (show ((0 : Nat) : Int) = 0 from rfl) (show ((5 : Nat) : Int) = 5 from rfl)) (by omega) (by omega) (by omega)) (show ((3 : Nat) : Int) = 3 from rfl) (Eq.trans (zm_rd (Z := Z13) (ν := ν) (k := 68) (show ((0 : Nat) : Int) = 0 from rfl) (show ((0 : Nat) : Int) = 0 from rfl) (show ((4 : Nat) : Int) = 4 from rfl)) (congrArg i3 ((hZ13A.2.2.2.2.1)))))
                subst e9
                obtain ⟨Z20, hZ20⟩ := zx (zu Z19 46 0 (Z13 11 0 0 5) 4 a5)
                replace hP := zl_e hP hZ20
                have hZ20I := zH_u hZ19I hZ20 (lo := 0) (hi := 9999) (by decide) rfl (by omega) ⟨by decide, by decide⟩ (Or.inl (by decide)) rfl
                have hZ20U : zU [0, 2, 3, 4, 5, 6, 7, 8, 9] Z Z20 := zU_u hZ19U hZ20 (Or.inr (List.Mem.head _))
                have hZ20K : zC [3, 12, 13, 14, 40, 41, 42, 43, 44, 45, 46, 47, 48, 49, 50, 51, 52, 53, 54, 61, 68, 1099, 1100, 1101, 1102, 1103, 1104, 1105, 1106, 1107, 1108, 1109, 1110, 1111, 1112, 1113, 1114, 1115, 1116] Z Z20 := zC_u hZ19K hZ20 (by decide)
                intro μ9 e9
                replace e9 := e9.trans (zm_wI (Z := Z19) (ν := ν) hZ20 (show ((0 : Nat) : Int) = 0 from rfl) (i3I (y := (Z13 11 0 0 5)) (zm_rd (Z := Z13) (ν := ν) (k := 11) (show ((0 : Nat) : Int) = 0 from rfl) (show ((0 : Nat) : Int) = 0 from rfl) (show ((5 : Nat) : Int) = 5 from rfl)) (by omega) (by omega) (by omega)) (show ((4 : Nat) : Int) = 4 from rfl) (Eq.trans (zm_rd (Z := Z13) (ν := ν) (k := 68) (show ((0 : Nat) : Int) = 0 from rfl) (show ((0 : Nat) : Int) = 0 from rfl) (show ((5 : Nat) : Int) = 5 from rfl)) (congrArg i3 ((hZ13A.2.2.2.2.2.1)))))
                subst e9
                obtain ⟨Z21, hZ21⟩ := zx (zu Z20 46 0 (Z13 11 0 0 5) 5 a6)
                replace hP := zl_e hP hZ21
                have hZ21I := zH_u hZ20I hZ21 (lo := 0) (hi := 127) (by decide) rfl (by omega) ⟨by decide, by decide⟩ (Or.inl (by decide)) rfl
                have hZ21U : zU [0, 2, 3, 4, 5, 6, 7, 8, 9] Z Z21 := zU_u hZ20U hZ21 (Or.inr (List.Mem.head _))
                have hZ21K : zC [3, 12, 13, 14, 40, 41, 42, 43, 44, 45, 46, 47, 48, 49, 50, 51, 52, 53, 54, 61, 68, 1099, 1100, 1101, 1102, 1103, 1104, 1105, 1106, 1107, 1108, 1109, 1110, 1111, 1112, 1113, 1114, 1115, 1116] Z Z21 := zC_u hZ20K hZ21 (by decide)
                intro μ9 e9
                replace e9 := e9.trans (zm_wI (Z := Z20) (ν := ν) hZ21 (show ((0 : Nat) : Int) = 0 from rfl) (i3I (y := (Z13 11 0 0 5)) (zm_rd (Z := Z13) (ν := ν) (k := 11) (show ((0 : Nat) : Int) = 0 from rfl) (show ((0 : Nat) : Int) = 0 from rfl) (show ((5 : Nat) : Int) = 5 from rfl)) (by omega) (by omega) (by omega)) (show ((5 : Nat) : Int) = 5 from rfl) (Eq.trans (zm_rd (Z := Z13) (ν := ν) (k := 68) (show ((0 : Nat) : Int) = 0 from rfl) (show ((0 : Nat) : Int) = 0 from rfl) (show ((6 : Nat) : Int) = 6 from rfl)) (congrArg i3 ((hZ13A.2.2.2.2.2.2)))))
                subst e9
                obtain ⟨Z22, hZ22⟩ := zx (zu Z21 46 0 (Z13 11 0 0 5) 6 a4)
                replace hP := zl_e hP hZ22
                have hZ22I := zH_u hZ21I hZ22 (lo := 0) (hi := 99) (by decide) rfl (by omega) ⟨by decide, by decide⟩ (Or.inl (by decide)) rfl
                have hZ22U : zU [0, 2, 3, 4, 5, 6, 7, 8, 9] Z Z22 := zU_u hZ21U hZ22 (Or.inr (List.Mem.head _))
                have hZ22K : zC [3, 12, 13, 14, 40, 41, 42, 43, 44, 45, 46, 47, 48, 49, 50, 51, 52, 53, 54, 61, 68, 1099, 1100, 1101, 1102, 1103, 1104, 1105, 1106, 1107, 1108, 1109, 1110, 1111, 1112, 1113, 1114, 1115, 1116] Z Z22 := zC_u hZ21K hZ22 (by decide)
                intro μ9 e9
                replace e9 := e9.trans (zm_wI (Z := Z21) (ν := ν) hZ22 (show ((0 : Nat) : Int) = 0 from rfl) (i3I (y := (Z13 11 0 0 5)) (zm_rd (Z := Z13) (ν := ν) (k := 11) (show ((0 : Nat) : Int) = 0 from rfl) (show ((0 : Nat) : Int) = 0 from rfl) (show ((5 : Nat) : Int) = 5 from rfl)) (by omega) (by omega) (by omega)) (show ((6 : Nat) : Int) = 6 from rfl) (Eq.trans (zm_rd (Z := Z13) (ν := ν) (k := 68) (show ((0 : Nat) : Int) = 0 from rfl) (show ((0 : Nat) : Int) = 0 from rfl) (show ((4 : Nat) : Int) = 4 from rfl)) (congrArg i3 ((hZ13A.2.2.2.2.1)))))
                subst e9
                refine wz_i0 (i3O (n := 8) (Eq.trans (zm_rd (Z := Z13) (ν := ν) (k := 68) (show ((0 : Nat) : Int) = 0 from rfl) (show ((0 : Nat) : Int) = 0 from rfl) (show ((1 : Nat) : Int) = 1 from rfl)) (congrArg i3 ((hZ13A.2.1)))) (by omega) (by omega) (by omega)) ?_
                have r23 := zH_f hZ22I 45 0 a1 14
                have r24 := w3_r ((Z22 45 0 a1 14) + 1)
                obtain ⟨Z25, hZ25⟩ := zx (zu Z22 45 0 a1 14 (w3 ((Z22 45 0 a1 14) + 1)))
                replace hP := zl_e hP hZ25
                have hZ25I := zH_u hZ22I hZ25 (lo := -2147483648) (hi := 2147483647) (by decide) rfl (by omega) ⟨by decide, by decide⟩ (Or.inl (by decide)) rfl
                have hZ25U : zU [0, 2, 3, 4, 5, 6, 7, 8, 9] Z Z25 := zU_u hZ22U hZ25 (Or.inr (List.Mem.head _))
                have hZ25K : zC [3, 12, 13, 14, 40, 41, 42, 43, 44, 45, 46, 47, 48, 49, 50, 51, 52, 53, 54, 61, 68, 1099, 1100, 1101, 1102, 1103, 1104, 1105, 1106, 1107, 1108, 1109, 1110, 1111, 1112, 1113, 1114, 1115, 1116] Z Z25 := zC_u hZ22K hZ25 (by decide)
                intro μ9 e9
                replace e9 := e9.trans (zm_wI (Z := Z22) (ν := ν) hZ25 (show ((0 : Nat) : Int) = 0 from rfl) (i3I (y := a1) (Eq.trans (zm_rd (Z := Z13) (ν := ν) (k := 68) (show ((0 : Nat) : Int) = 0 from rfl) (show ((0 : Nat) : Int) = 0 from rfl) (show ((1 : Nat) : Int) = 1 from rfl)) (congrArg i3 ((hZ13A.2.1)))) (by omega) (by omega) (by omega)) (show ((14 : Nat) : Int) = 14 from rfl) (i3W (i3A (zm_rd (Z := Z22) (ν := ν) (k := 45) (show ((0 : Nat) : Int) = 0 from rfl) (i3I (y := a1) (Eq.trans (zm_rd (Z := Z13) (ν := ν) (k := 68) (show ((0 : Nat) : Int) = 0 from rfl) (show ((0 : Nat) : Int) = 0 from rfl) (show ((1 : Nat) : Int) = 1 from rfl)) (congrArg i3 ((hZ13A.2.1)))) (by omega) (by omega) (by omega)) (show ((14 : Nat) : Int) = 14 from rfl)) (show (1 : Int32) = i3 1 from rfl))))
                subst e9
                have r26 := zH_k hZ25I 11 0 0 5 (lo := 0) (hi := 24) (by decide) rfl
                have q27 := (zu_ne (k' := 11) (b' := 0) (i' := 0) (j' := 5) hZ25 (fun q => absurd q.1 (by decide))).trans ((zu_ne (k' := 11) (b' := 0) (i' := 0) (j' := 5) hZ22 (fun q => absurd q.1 (by decide))).trans ((zu_ne (k' := 11) (b' := 0) (i' := 0) (j' := 5) hZ21 (fun q => absurd q.1 (by decide))).trans ((zu_ne (k' := 11) (b' := 0) (i' := 0) (j' := 5) hZ20 (fun q => absurd q.1 (by decide))).trans ((zu_ne (k' := 11) (b' := 0) (i' := 0) (j' := 5) hZ19 (fun q => absurd q.1 (by decide))).trans ((zu_ne (k' := 11) (b' := 0) (i' := 0) (j' := 5) hZ18 (fun q => absurd q.1 (by decide))).trans ((zu_ne (k' := 11) (b' := 0) (i' := 0) (j' := 5) hZ17 (fun q => absurd q.1 (by decide))).trans (zu_ne (k' := 11) (b' := 0) (i' := 0) (j' := 5) hZ16 (fun q => absurd q.1 (by decide)))))))))
                obtain ⟨Z28, hZ28⟩ := zx (zu Z25 11 0 0 5 ((Z25 11 0 0 5) + 1))
                replace hP := zl_e hP hZ28
                have hZ28I := zH_u hZ25I hZ28 (lo := 0) (hi := 24) (by decide) rfl (by omega) ⟨by decide, by decide⟩ (Or.inl (by decide)) rfl
                have hZ28U : zU [0, 2, 3, 4, 5, 6, 7, 8, 9] Z Z28 := zU_u hZ25U hZ28 (Or.inr (List.Mem.head _))
                have hZ28K : zC [3, 12, 13, 14, 40, 41, 42, 43, 44, 45, 46, 47, 48, 49, 50, 51, 52, 53, 54, 61, 68, 1099, 1100, 1101, 1102, 1103, 1104, 1105, 1106, 1107, 1108, 1109, 1110, 1111, 1112, 1113, 1114, 1115, 1116] Z Z28 := zC_u hZ25K hZ28 (by decide)
                intro μ9 e9
                replace e9 := e9.trans (zm_wI (Z := Z25) (ν := ν) hZ28 (show ((0 : Nat) : Int) = 0 from rfl) (show ((0 : Nat) : Int) = 0 from rfl) (show ((5 : Nat) : Int) = 5 from rfl) (i3A (zm_rd (Z := Z25) (ν := ν) (k := 11) (show ((0 : Nat) : Int) = 0 from rfl) (show ((0 : Nat) : Int) = 0 from rfl) (show ((5 : Nat) : Int) = 5 from rfl)) (show (1 : Int32) = i3 1 from rfl)))
                subst e9
                exact zlG hP (zm_rd (Z := Z25) (ν := ν) (k := 11) (show ((0 : Nat) : Int) = 0 from rfl) (show ((0 : Nat) : Int) = 0 from rfl) (show ((5 : Nat) : Int) = 5 from rfl)) ⟨hZ28I, hZ28K, hZ28U, zG_w zG_r (Nat.le_of_ble_eq_true rfl) (Nat.le_of_ble_eq_true rfl)⟩
            · replace hP := zE_n hP h8
              exact zlGe (E := 12) hP ⟨hZ, zC_r, zU_r, zG_w (zG_k rfl) (Nat.le_of_ble_eq_true rfl) (Nat.le_of_ble_eq_true rfl)⟩
          · replace hP := zE_n hP h7
            exact zlGe (E := 12) hP ⟨hZ, zC_r, zU_r, zG_w (zG_k rfl) (Nat.le_of_ble_eq_true rfl) (Nat.le_of_ble_eq_true rfl)⟩
        · replace hP := zE_n hP h6
          exact zlGe (E := 12) hP ⟨hZ, zC_r, zU_r, zG_w (zG_k rfl) (Nat.le_of_ble_eq_true rfl) (Nat.le_of_ble_eq_true rfl)⟩
      · replace hP := zE_n hP h5
        exact zlGe (E := 12) hP ⟨hZ, zC_r, zU_r, zG_w (zG_k rfl) (Nat.le_of_ble_eq_true rfl) (Nat.le_of_ble_eq_true rfl)⟩
    · replace hP := zE_n hP h4
      exact zlGe (E := 23) hP ⟨hZ, zC_r, zU_r, zG_w (zG_k rfl) (Nat.le_of_ble_eq_true rfl) (Nat.le_of_ble_eq_true rfl)⟩
  · replace hP := zE_n hP h2
    exact zlGe (E := 23) hP ⟨hZ, zC_r, zU_r, zG_w (zG_k rfl) (Nat.le_of_ble_eq_true rfl) (Nat.le_of_ble_eq_true rfl)⟩
/- yX11_ordered -/
def zx_221 (Z : qz_Z) (a1 : Int) (a2 : Int) : qz_Z × Int × Int := (if 0 ≤ a1 ∧ a1 < (Z 11 0 0 5) then (if 0 ≤ a2 ∧ a2 ≤ 9 then (if a2 ≠ 9 then (Z, (Z 46 0 a1 a2), 0) else (zlet (zf_14 Z 0 0 a1) (fun v6 => (if v6 = 0 then (Z, 0, 0) else (Z, 1, 0))))) else (Z, 0, 13)) else (Z, 0, 24))
theorem sx_221 {M : Nat} {Z : qz_Z} {ν : qz_N} (hZ : zH ((none, M) : zSM) Z) (hM : ((none, M) : zSM).2 + 0 ≤ 1000000000) {a1 : Int} (ga1 : -2147483648 ≤ a1 ∧ a1 ≤ 2147483647) {a2 : Int} (ga2 : -2147483648 ≤ a2 ∧ a2 ≤ 2147483647) : ∃ (Z1 : qz_Z) (ν1 : qz_N) (v E : Int), (Z1, v, E) = zx_221 Z a1 a2 ∧ qf_221 [.inr (.inr (some (0, 0, 0))), .inl (i3 a1), .inl (i3 a2)] (zm Z ν) = some (zm Z1 ν1, zoX v E) ∧ (fun Z1 ν1 => zH ((none, M) : zSM) Z1 ∧ zC [] Z Z1 ∧ zU [] Z Z1 ∧ zG 1 6 ν ν1) Z1 ν1 := by
  obtain ⟨P, hP⟩ := zx (zx_221 Z a1 a2)
  refine zc_G (Q := fun Z1 ν1 => zH ((none, M) : zSM) Z1 ∧ zC [] Z Z1 ∧ zU [] Z Z1 ∧ zG 1 6 ν ν1) hP (fw_221 (i3 a1) (i3 a2) _ _ ?_)
  replace hP : zE P (zx_221 Z a1 a2) := hP
  unfold zx_221 at hP
  have r1 := zH_k hZ 11 0 0 5 (lo := 0) (hi := 24) (by decide) rfl
  refine wz_thing (rfl : i3 a1 = i3 a1) (zm_rd (Z := Z) (ν := ν) (k := 11) (show ((0 : Nat) : Int) = 0 from rfl) (show ((0 : Nat) : Int) = 0 from rfl) (show ((5 : Nat) : Int) = 5 from rfl)) (by omega) (by omega) (by omega) (by omega) (fun h2 => ?_) (fun h2 => ?_)
  · replace hP := zE_p hP h2
    refine wz_inR (rfl : i3 a2 = i3 a2) (show (0 : Int32) = i3 0 from rfl) (show (9 : Int32) = i3 9 from rfl) (by omega) (by omega) (by omega) (by omega) (by omega) (by omega) (fun h3 => ?_) (fun h3 => ?_)
    · replace hP := zE_p hP h3
      refine wz_br (i3NE (rfl : i3 a2 = i3 a2) (show (9 : Int32) = i3 9 from rfl) (by omega) (by omega) (by omega) (by omega)) (fun h4 => ?_) (fun h4 => ?_)
      · replace hP := zE_p hP h4
        refine wz_i0 (i3O (n := 24) (rfl : i3 a1 = i3 a1) (by omega) (by omega) (by omega)) ?_
        refine wz_i0 (i3O (n := 10) (rfl : i3 a2 = i3 a2) (by omega) (by omega) (by omega)) ?_
        have r5 := zH_f hZ 46 0 a1 a2
        exact zlG hP (zm_rd (Z := Z) (ν := ν) (k := 46) (show ((0 : Nat) : Int) = 0 from rfl) (i3I (y := a1) (rfl : i3 a1 = i3 a1) (by omega) (by omega) (by omega)) (i3I (y := a2) (rfl : i3 a2 = i3 a2) (by omega) (by omega) (by omega))) ⟨hZ, zC_r, zU_r, zG_w zG_r (Nat.le_of_ble_eq_true rfl) (Nat.le_of_ble_eq_true rfl)⟩
      · replace hP := zE_n hP h4
        refine wz_i0 (i3O (n := 24) (rfl : i3 a1 = i3 a1) (by omega) (by omega) (by omega)) ?_
        obtain ⟨v6, hv6, c9, lv6, uv6⟩ := sp_14 (ν := ν) hZ 0 0 _ (i3I (y := a1) (rfl : i3 a1 = i3 a1) (by omega) (by omega) (by omega)) (by omega) (zbh (c := 0) (k := 0) hM (Nat.le_of_ble_eq_true rfl))
        replace hP := zl_e hP hv6
        refine wz_cI_of (zas (zcons rfl (zcons rfl rfl)) c9) ?_
        clear c9
        refine wz_br (i3E (rfl : i3 v6 = i3 v6) (show (0 : Int32) = i3 0 from rfl) (by omega) (by omega) (by omega) (by omega)) (fun h7 => ?_) (fun h7 => ?_)
        · replace hP := zE_p hP h7
          exact zlG hP (show (0 : Int32) = i3 0 from rfl) ⟨hZ, zC_r, zU_r, zG_w zG_r (Nat.le_of_ble_eq_true rfl) (Nat.le_of_ble_eq_true rfl)⟩
        · replace hP := zE_n hP h7
          exact zlG hP (show (1 : Int32) = i3 1 from rfl) ⟨hZ, zC_r, zU_r, zG_w zG_r (Nat.le_of_ble_eq_true rfl) (Nat.le_of_ble_eq_true rfl)⟩
    · replace hP := zE_n hP h3
      exact zlGe (E := 12) hP ⟨hZ, zC_r, zU_r, zG_w (zG_k rfl) (Nat.le_of_ble_eq_true rfl) (Nat.le_of_ble_eq_true rfl)⟩
  · replace hP := zE_n hP h2
    exact zlGe (E := 23) hP ⟨hZ, zC_r, zU_r, zG_w (zG_k rfl) (Nat.le_of_ble_eq_true rfl) (Nat.le_of_ble_eq_true rfl)⟩
/- yX11_outside -/
def zx_222 (Z : qz_Z) (a1 : Int) (a2 : Int) : qz_Z × Int × Int := (if 0 ≤ a1 ∧ a1 ≤ 27 then (if 0 ≤ a2 ∧ a2 ≤ 40 then (if a1 < ((Z 11 0 0 13) / 24) then (Z, 0, 15) else (zlet (zdd Z 7 a1 a2 0 0 0 0) (fun Z7 => (zlet (zu Z7 12 0 0 a1 a2) (fun Z8 => (Z8, (Z7 12 0 0 a1), 0)))))) else (Z, 0, 13)) else (Z, 0, 13))
theorem sx_222 {M : Nat} {Z : qz_Z} {ν : qz_N} (hZ : zH ((none, M) : zSM) Z) (hM : ((none, M) : zSM).2 + 0 ≤ 1000000000) {a1 : Int} (ga1 : -2147483648 ≤ a1 ∧ a1 ≤ 2147483647) {a2 : Int} (ga2 : -2147483648 ≤ a2 ∧ a2 ≤ 2147483647) : ∃ (Z1 : qz_Z) (ν1 : qz_N) (v E : Int), (Z1, v, E) = zx_222 Z a1 a2 ∧ qf_222 [.inr (.inr (some (0, 0, 0))), .inl (i3 a1), .inl (i3 a2)] (zm Z ν) = some (zm Z1 ν1, zoX v E) ∧ (fun Z1 ν1 => zH ((none, M) : zSM) Z1 ∧ zC [3, 12, 13, 14, 40, 41, 42, 43, 44, 45, 46, 47, 48, 49, 50, 51, 52, 53, 54, 61, 68, 1099, 1100, 1101, 1102, 1103, 1104, 1105, 1106, 1107, 1108, 1109, 1110, 1111, 1112, 1113, 1114, 1115, 1116] Z Z1 ∧ zU [0, 2, 3, 4, 5, 6, 7, 8, 9] Z Z1 ∧ zG 1 6 ν ν1) Z1 ν1 := by
  obtain ⟨P, hP⟩ := zx (zx_222 Z a1 a2)
  refine zc_G (Q := fun Z1 ν1 => zH ((none, M) : zSM) Z1 ∧ zC [3, 12, 13, 14, 40, 41, 42, 43, 44, 45, 46, 47, 48, 49, 50, 51, 52, 53, 54, 61, 68, 1099, 1100, 1101, 1102, 1103, 1104, 1105, 1106, 1107, 1108, 1109, 1110, 1111, 1112, 1113, 1114, 1115, 1116] Z Z1 ∧ zU [0, 2, 3, 4, 5, 6, 7, 8, 9] Z Z1 ∧ zG 1 6 ν ν1) hP (fw_222 (i3 a1) (i3 a2) _ _ ?_)
  replace hP : zE P (zx_222 Z a1 a2) := hP
  unfold zx_222 at hP
  refine wz_inR (rfl : i3 a1 = i3 a1) (show (0 : Int32) = i3 0 from rfl) (show (27 : Int32) = i3 27 from rfl) (by omega) (by omega) (by omega) (by omega) (by omega) (by omega) (fun h1 => ?_) (fun h1 => ?_)
  · replace hP := zE_p hP h1
    refine wz_inR (rfl : i3 a2 = i3 a2) (show (0 : Int32) = i3 0 from rfl) (show (40 : Int32) = i3 40 from rfl) (by omega) (by omega) (by omega) (by omega) (by omega) (by omega) (fun h2 => ?_) (fun h2 => ?_)
    · replace hP := zE_p hP h2
      have r3 := zH_k hZ 11 0 0 13 (lo := 0) (hi := 671) (by decide) rfl
      refine wz_br (i3L (rfl : i3 a1 = i3 a1) (i3D (zm_rd (Z := Z) (ν := ν) (k := 11) (show ((0 : Nat) : Int) = 0 from rfl) (show ((0 : Nat) : Int) = 0 from rfl) (show ((13 : Nat) : Int) = 13 from rfl)) (show (24 : Int32) = i3 24 from rfl) (by omega) (by omega) (by omega) (by omega)) (by omega) (by omega) (by omega) (by omega)) (fun h4 => ?_) (fun h4 => ?_)
      · replace hP := zE_p hP h4
        refine wz_inT_n (show (0 : Int32) = i3 0 from rfl) (by omega) (by omega) (by omega) ?_
        exact zlGe (E := 14) hP ⟨hZ, zC_r, zU_r, zG_w (zG_k rfl) (Nat.le_of_ble_eq_true rfl) (Nat.le_of_ble_eq_true rfl)⟩
      · replace hP := zE_n hP h4
        refine wz_inT_y (show (1 : Int32) = i3 1 from rfl) (by omega) (by omega) (by omega) ?_
        refine dc_J (zcons rfl (zcons (zvi (show (7 : Int32) = i3 7 from rfl)) (zcons (zvi (rfl : i3 a1 = i3 a1)) (zcons (zvi (rfl : i3 a2 = i3 a2)) (zcons (zvi (show (0 : Int32) = i3 0 from rfl)) (zcons (zvi (show (0 : Int32) = i3 0 from rfl)) (zcons (zvi (show (0 : Int32) = i3 0 from rfl)) (zcons (zvi (show (0 : Int32) = i3 0 from rfl)) rfl)))))))) (dg (hZ).1 (by omega) (by omega) (by omega) (by omega) (by omega) (by omega) (by omega) ?_)
        have hZ7I := zH_dd hZ (a1 := 7) (a2 := a1) (a3 := a2) (a4 := 0) (a5 := 0) (a6 := 0) (a7 := 0) (by omega) (by omega) (by omega) (by omega) (by omega) (by omega) (by omega)
        have kZ7 : zC [3, 12, 13, 14, 40, 41, 42, 43, 44, 45, 46, 47, 48, 49, 50, 51, 52, 53, 54, 61, 68, 1099, 1100, 1101, 1102, 1103, 1104, 1105, 1106, 1107, 1108, 1109, 1110, 1111, 1112, 1113, 1114, 1115, 1116] Z (zdd Z 7 a1 a2 0 0 0 0) := zC_k zdd_K (by decide) (by decide)
        have hZ7A : (zdd Z 7 a1 a2 0 0 0 0) 68 0 0 0 = 7 ∧ (zdd Z 7 a1 a2 0 0 0 0) 68 0 0 1 = a1 ∧ (zdd Z 7 a1 a2 0 0 0 0) 68 0 0 2 = a2 ∧ (zdd Z 7 a1 a2 0 0 0 0) 68 0 0 3 = 0 ∧ (zdd Z 7 a1 a2 0 0 0 0) 68 0 0 4 = 0 ∧ (zdd Z 7 a1 a2 0 0 0 0) 68 0 0 5 = 0 ∧ (zdd Z 7 a1 a2 0 0 0 0) 68 0 0 6 = 0 := ⟨zdd_68, zdd_68, zdd_68, zdd_68, zdd_68, zdd_68, zdd_68⟩
        obtain ⟨Z7, hZ7⟩ := zx (zdd Z 7 a1 a2 0 0 0 0)
        have dZ7 : ∀ {k : Nat} {i j : Int}, zhall k = true → ¬ (k = 11 ∧ (j = 15 ∨ j = 16)) → Z7 k 0 i j = Z k 0 i j := fun hk hj => by rw [hZ7]; exact zdd_h (hZ).1 hk hj
        have jZ7 : zU [0, 2, 3, 4, 5, 6, 7, 8, 9] Z (zdd Z 7 a1 a2 0 0 0 0) := zU_dd (hZ).1
        rw [← hZ7] at hZ7I kZ7 jZ7 hZ7A ⊢
        have hZ7U : zU [0, 2, 3, 4, 5, 6, 7, 8, 9] Z Z7 := zU_t zU_r jZ7 (zU_b1 (List.Mem.head _) (zU_b1 (List.Mem.tail _ (List.Mem.head _)) (zU_b1 (List.Mem.tail _ (List.Mem.tail _ (List.Mem.head _))) (zU_b1 (List.Mem.tail _ (List.Mem.tail _ (List.Mem.tail _ (List.Mem.head _)))) (zU_b1 (List.Mem.tail _ (List.Mem.tail _ (List.Mem.tail _ (List.Mem.tail _ (List.Mem.head _))))) (zU_b1 (List.Mem.tail _ (List.Mem.tail _ (List.Mem.tail _ (List.Mem.tail _ (List.Mem.tail _ (List.Mem.head _)))))) (zU_b1 (List.Mem.tail _ (List.Mem.tail _ (List.Mem.tail _ (List.Mem.tail _ (List.Mem.tail _ (List.Mem.tail _ (List.Mem.head _))))))) (zU_b1 (List.Mem.tail _ (List.Mem.tail _ (List.Mem.tail _ (List.Mem.tail _ (List.Mem.tail _ (List.Mem.tail _ (List.Mem.tail _ (List.Mem.head _)))))))) (zU_b1 (List.Mem.tail _ (List.Mem.tail _ (List.Mem.tail _ (List.Mem.tail _ (List.Mem.tail _ (List.Mem.tail _ (List.Mem.tail _ (List.Mem.tail _ (List.Mem.head _))))))))) zU_b0)))))))))
        replace hP := zl_e hP hZ7
        have hZ7K : zC [3, 12, 13, 14, 40, 41, 42, 43, 44, 45, 46, 47, 48, 49, 50, 51, 52, 53, 54, 61, 68, 1099, 1100, 1101, 1102, 1103, 1104, 1105, 1106, 1107, 1108, 1109, 1110, 1111, 1112, 1113, 1114, 1115, 1116] Z Z7 := zC_t zC_r kZ7 (by decide)
        clear kZ7 hZ7
        refine fw_121 _ _ _ _ ?_
        refine wz_i1 rfl ?_
        refine wz_i0 (i3O (n := 7) (show (0 : Int32) = i3 0 from rfl) (by omega) (by omega) (by omega)) ?_
        refine wz_i0 (Eq.trans (i3To (Eq.trans (zm_rd (Z := Z7) (ν := ν) (k := 68) (show ((0 : Nat) : Int) = 0 from rfl) (show ((0 : Nat) : Int) = 0 from rfl) (show ((0 : Nat) : Int) = 0 from rfl)) (congrArg i3 ((hZ7A.1)))) (by omega) (by omega)) (decide_eq_false (by omega))) ?_
        refine wz_i0 (Eq.trans (i3T (Eq.trans (zm_rd (Z := Z7) (ν := ν) (k := 68) (show ((0 : Nat) : Int) = 0 from rfl) (show ((0 : Nat) : Int) = 0 from rfl) (show ((0 : Nat) : Int) = 0 from rfl)) (congrArg i3 ((hZ7A.1)))) (by omega) (by omega)) (decide_eq_false (by omega))) ?_
        refine wz_i0 (Eq.trans (i3T (Eq.trans (zm_rd (Z := Z7) (ν := ν) (k := 68) (show ((0 : Nat) : Int) = 0 from rfl) (show ((0 : Nat) : Int) = 0 from rfl) (show ((0 : Nat) : Int) = 0 from rfl)) (congrArg i3 ((hZ7A.1)))) (by omega) (by omega)) (decide_eq_false (by omega))) ?_
        refine wz_i0 (Eq.trans (i3T (Eq.trans (zm_rd (Z := Z7) (ν := ν) (k := 68) (show ((0 : Nat) : Int) = 0 from rfl) (show ((0 : Nat) : Int) = 0 from rfl) (show ((0 : Nat) : Int) = 0 from rfl)) (congrArg i3 ((hZ7A.1)))) (by omega) (by omega)) (decide_eq_false (by omega))) ?_
        refine wz_i0 (Eq.trans (i3T (Eq.trans (zm_rd (Z := Z7) (ν := ν) (k := 68) (show ((0 : Nat) : Int) = 0 from rfl) (show ((0 : Nat) : Int) = 0 from rfl) (show ((0 : Nat) : Int) = 0 from rfl)) (congrArg i3 ((hZ7A.1)))) (by omega) (by omega)) (decide_eq_false (by omega))) ?_
        refine wz_i0 (Eq.trans (i3T (Eq.trans (zm_rd (Z := Z7) (ν := ν) (k := 68) (show ((0 : Nat) : Int) = 0 from rfl) (show ((0 : Nat) : Int) = 0 from rfl) (show ((0 : Nat) : Int) = 0 from rfl)) (congrArg i3 ((hZ7A.1)))) (by omega) (by omega)) (decide_eq_false (by omega))) ?_
        refine wz_i0 (Eq.trans (i3T (Eq.trans (zm_rd (Z := Z7) (ν := ν) (k := 68) (show ((0 : Nat) : Int) = 0 from rfl) (show ((0 : Nat) : Int) = 0 from rfl) (show ((0 : Nat) : Int) = 0 from rfl)) (congrArg i3 ((hZ7A.1)))) (by omega) (by omega)) (decide_eq_false (by omega))) ?_
        refine wz_i0 (Eq.trans (i3T (Eq.trans (zm_rd (Z := Z7) (ν := ν) (k := 68) (show ((0 : Nat) : Int) = 0 from rfl) (show ((0 : Nat) : Int) = 0 from rfl) (show ((0 : Nat) : Int) = 0 from rfl)) (congrArg i3 ((hZ7A.1)))) (by omega) (by omega)) (decide_eq_false (by omega))) ?_
        refine wz_i1 (Eq.trans (i3T (Eq.trans (zm_rd (Z := Z7) (ν := ν) (k := 68) (show ((0 : Nat) : Int) = 0 from rfl) (show ((0 : Nat) : Int) = 0 from rfl) (show ((0 : Nat) : Int) = 0 from rfl)) (congrArg i3 ((hZ7A.1)))) (by omega) (by omega)) (decide_eq_true (by omega))) ?_
        refine wz_i1 rfl ?_
        refine wz_i0 (i3O (n := 7) (show (1 : Int32) = i3 1 from rfl) (by omega) (by omega) (by omega)) ?_
        refine wz_i1 rfl ?_
        refine wz_i0 (i3O (n := 7) (show (2 : Int32) = i3 2 from rfl) (by omega) (by omega) (by omega)) ?_
        refine wz_i0 (i3O (n := 28) (Eq.trans (zm_rd (Z := Z7) (ν := ν) (k := 68) (show ((0 : Nat) : Int) = 0 from rfl) (show ((0 : Nat) : Int) = 0 from rfl) (show ((1 : Nat) : Int) = 1 from rfl)) (congrArg i3 ((hZ7A.2.1)))) (by omega) (by omega) (by omega)) ?_
        refine wz_i0 (i3O (n := 28) (Eq.trans (zm_rd (Z := Z7) (ν := ν) (k := 68) (show ((0 : Nat) : Int) = 0 from rfl) (show ((0 : Nat) : Int) = 0 from rfl) (show ((1 : Nat) : Int) = 1 from rfl)) (congrArg i3 ((hZ7A.2.1)))) (by omega) (by omega) (by omega)) ?_
        obtain ⟨Z8, hZ8⟩ := zx (zu Z7 12 0 0 a1 a2)
        replace hP := zl_e hP hZ8
        have hZ8I := zH_u hZ7I hZ8 (lo := 0) (hi := 40) (by decide) (zrc_12 (by omega) (by omega)) (by omega) ⟨by decide, by decide⟩ (Or.inl (by decide)) rfl
        have hZ8U : zU [0, 2, 3, 4, 5, 6, 7, 8, 9] Z Z8 := zU_u hZ7U hZ8 (Or.inr (List.Mem.head _))
        have hZ8K : zC [3, 12, 13, 14, 40, 41, 42, 43, 44, 45, 46, 47, 48, 49, 50, 51, 52, 53, 54, 61, 68, 1099, 1100, 1101, 1102, 1103, 1104, 1105, 1106, 1107, 1108, 1109, 1110, 1111, 1112, 1113, 1114, 1115, 1116] Z Z8 := zC_u hZ7K hZ8 rfl
        intro μ9 e9
        replace e9 := e9.trans (zm_wI (Z := Z7) (ν := ν) hZ8 (show ((0 : Nat) : Int) = 0 from rfl) (show ((0 : Nat) : Int) = 0 from rfl) (i3I (y := a1) (Eq.trans (zm_rd (Z := Z7) (ν := ν) (k := 68) (show ((0 : Nat) : Int) = 0 from rfl) (show ((0 : Nat) : Int) = 0 from rfl) (show ((1 : Nat) : Int) = 1 from rfl)) (congrArg i3 ((hZ7A.2.1)))) (by omega) (by omega) (by omega)) (Eq.trans (zm_rd (Z := Z7) (ν := ν) (k := 68) (show ((0 : Nat) : Int) = 0 from rfl) (show ((0 : Nat) : Int) = 0 from rfl) (show ((2 : Nat) : Int) = 2 from rfl)) (congrArg i3 ((hZ7A.2.2.1)))))
        subst e9
        have r9 := zH_k hZ7I 12 0 0 a1 (lo := 0) (hi := 40) (by decide) (zrc_12 (by omega) (by omega))
        exact zlG hP (zm_rd (Z := Z7) (ν := ν) (k := 12) (show ((0 : Nat) : Int) = 0 from rfl) (show ((0 : Nat) : Int) = 0 from rfl) (i3I (y := a1) (Eq.trans (zm_rd (Z := Z7) (ν := ν) (k := 68) (show ((0 : Nat) : Int) = 0 from rfl) (show ((0 : Nat) : Int) = 0 from rfl) (show ((1 : Nat) : Int) = 1 from rfl)) (congrArg i3 ((hZ7A.2.1)))) (by omega) (by omega) (by omega))) ⟨hZ8I, hZ8K, hZ8U, zG_w zG_r (Nat.le_of_ble_eq_true rfl) (Nat.le_of_ble_eq_true rfl)⟩
    · replace hP := zE_n hP h2
      exact zlGe (E := 12) hP ⟨hZ, zC_r, zU_r, zG_w (zG_k rfl) (Nat.le_of_ble_eq_true rfl) (Nat.le_of_ble_eq_true rfl)⟩
  · replace hP := zE_n hP h1
    exact zlGe (E := 12) hP ⟨hZ, zC_r, zU_r, zG_w (zG_k rfl) (Nat.le_of_ble_eq_true rfl) (Nat.le_of_ble_eq_true rfl)⟩
/- yX11_owed -/
def zx_223 (Z : qz_Z) (a1 : Int) (a2 : Int) : qz_Z × Int × Int := (if 0 ≤ a1 ∧ a1 < (Z 11 0 0 1) then (if 0 ≤ a2 ∧ a2 ≤ 4 then (Z, (Z 42 0 a1 (2 + a2)), 0) else (Z, 0, 13)) else (Z, 0, 24))
theorem sx_223 {M : Nat} {Z : qz_Z} {ν : qz_N} (hZ : zH ((none, M) : zSM) Z) (hM : ((none, M) : zSM).2 + 0 ≤ 1000000000) {a1 : Int} (ga1 : -2147483648 ≤ a1 ∧ a1 ≤ 2147483647) {a2 : Int} (ga2 : -2147483648 ≤ a2 ∧ a2 ≤ 2147483647) : ∃ (Z1 : qz_Z) (ν1 : qz_N) (v E : Int), (Z1, v, E) = zx_223 Z a1 a2 ∧ qf_223 [.inr (.inr (some (0, 0, 0))), .inl (i3 a1), .inl (i3 a2)] (zm Z ν) = some (zm Z1 ν1, zoX v E) ∧ (fun Z1 ν1 => zH ((none, M) : zSM) Z1 ∧ zC [] Z Z1 ∧ zU [] Z Z1 ∧ zG 1 6 ν ν1) Z1 ν1 := by
  obtain ⟨P, hP⟩ := zx (zx_223 Z a1 a2)
  refine zc_G (Q := fun Z1 ν1 => zH ((none, M) : zSM) Z1 ∧ zC [] Z Z1 ∧ zU [] Z Z1 ∧ zG 1 6 ν ν1) hP (fw_223 (i3 a1) (i3 a2) _ _ ?_)
  replace hP : zE P (zx_223 Z a1 a2) := hP
  unfold zx_223 at hP
  have r1 := zH_k hZ 11 0 0 1 (lo := 0) (hi := 6) (by decide) rfl
  refine wz_thing (rfl : i3 a1 = i3 a1) (zm_rd (Z := Z) (ν := ν) (k := 11) (show ((0 : Nat) : Int) = 0 from rfl) (show ((0 : Nat) : Int) = 0 from rfl) (show ((1 : Nat) : Int) = 1 from rfl)) (by omega) (by omega) (by omega) (by omega) (fun h2 => ?_) (fun h2 => ?_)
  · replace hP := zE_p hP h2
    refine wz_inR (rfl : i3 a2 = i3 a2) (show (0 : Int32) = i3 0 from rfl) (show (4 : Int32) = i3 4 from rfl) (by omega) (by omega) (by omega) (by omega) (by omega) (by omega) (fun h3 => ?_) (fun h3 => ?_)
    · replace hP := zE_p hP h3
      refine wz_i0 (i3O (n := 6) (rfl : i3 a1 = i3 a1) (by omega) (by omega) (by omega)) ?_
      refine wz_i0 (i3O (n := 7) (i3A (show (2 : Int32) = i3 2 from rfl) (rfl : i3 a2 = i3 a2)) (by omega) (by omega) (by omega)) ?_
      have r4 := zH_f hZ 42 0 a1 (2 + a2)
      exact zlG hP (zm_rd (Z := Z) (ν := ν) (k := 42) (show ((0 : Nat) : Int) = 0 from rfl) (i3I (y := a1) (rfl : i3 a1 = i3 a1) (by omega) (by omega) (by omega)) (i3I (y := (2 + a2)) (i3A (show (2 : Int32) = i3 2 from rfl) (rfl : i3 a2 = i3 a2)) (by omega) (by omega) (by omega))) ⟨hZ, zC_r, zU_r, zG_w zG_r (Nat.le_of_ble_eq_true rfl) (Nat.le_of_ble_eq_true rfl)⟩
    · replace hP := zE_n hP h3
      exact zlGe (E := 12) hP ⟨hZ, zC_r, zU_r, zG_w (zG_k rfl) (Nat.le_of_ble_eq_true rfl) (Nat.le_of_ble_eq_true rfl)⟩
  · replace hP := zE_n hP h2
    exact zlGe (E := 23) hP ⟨hZ, zC_r, zU_r, zG_w (zG_k rfl) (Nat.le_of_ble_eq_true rfl) (Nat.le_of_ble_eq_true rfl)⟩
/- yX1_tellBuyer -/
def zl_35_1 (x0b : Int) (x1 : Int) (x2 : Int) : Nat → qz_Z → Int → Int → Int × Int
  | 0, Z, x4, x5 => (x4, x5)
  | m + 1, Z, x4, x5 => (if (Z 11 x0b 0 6) ≤ x5 then (x4, x5) else (if (Z 47 x0b x5 1) ≠ x1 then zl_35_1 x0b x1 x2 m Z x4 (x5 + 1) else (if x2 ≠ 8 then (if ((Z 11 x0b 0 13) / 24) ≤ (Z 47 x0b x5 20) then zl_35_1 x0b x1 x2 m Z x4 (x5 + 1) else zl_35_1 x0b x1 x2 m Z (w3 (x4 + (Z 47 x0b x5 19))) (x5 + 1)) else (if (Z 47 x0b x5 19) ≤ 0 then zl_35_1 x0b x1 x2 m Z (x4 + 0) (x5 + 1) else zl_35_1 x0b x1 x2 m Z (w3 (x4 + 1)) (x5 + 1)))))
theorem sl_35_1 {s : zSM} {Z : qz_Z} {ν : qz_N} (hZ : zH s Z) (hM : s.2 + 0 ≤ 1000000000) (x0b : Nat) {x1 : Int} (gx1 : 0 ≤ x1 ∧ x1 ≤ 7) {x2 : Int} (gx2 : 6 ≤ x2 ∧ x2 ≤ 8) {x4 : Int} (gx4 : -2147483648 ≤ x4 ∧ x4 ≤ 2147483647) {x5 : Int} (gx5 : 0 ≤ x5 ∧ x5 ≤ 60) {k : wz_K} {R : wz_R} {L : qz_L} (hL : qz_fg [true, true, true, false, true, true, false] L = [some (.inr (.inr (some (10, x0b, 0)))), some (.inl (i3 x1)), some (.inl (i3 x2)), none, some (.inl (i3 x4)), some (.inl (i3 x5)), none]) {T : Int × Int} (hP : zE T (zl_35_1 x0b x1 x2 ((60 - x5).toNat + 1) Z x4 x5)) (hk : ∀ (L9 : qz_L) (yx4 yx5 : Int), qz_fg [false, false, false, false, true, false, false] L9 = [none, none, none, none, some (.inl (i3 yx4)), none, none] → (-2147483648 ≤ yx4 ∧ yx4 ≤ 2147483647) → (0 ≤ yx5 ∧ yx5 ≤ 60) → zE T ((yx4, yx5)) → k 0 (L9, [], zm Z ν)) : wz_loop qb_35_1 65536 k R (L, [], zm Z ν) := by
  refine wz_lp sb_35_1 (fun m x => ∃ x4 : Int, ∃ x5 : Int, qz_fg [true, true, true, false, true, true, false] x.1 = [some (.inr (.inr (some (10, x0b, 0)))), some (.inl (i3 x1)), some (.inl (i3 x2)), none, some (.inl (i3 x4)), some (.inl (i3 x5)), none] ∧ x.2 = ([], zm Z ν) ∧ m = (60 - x5).toNat ∧ (-2147483648 ≤ x4 ∧ x4 ≤ 2147483647) ∧ (0 ≤ x5 ∧ x5 ≤ 60) ∧ zE T (zl_35_1 x0b x1 x2 (m + 1) Z x4 x5)) ?_ 65536 ((60 - x5).toNat) _ (by omega) ⟨x4, x5, hL, rfl, rfl, gx4, gx5, hP⟩
  clear hP gx4 gx5 hL
  clear x4 x5
  rintro m ⟨L, st, μ⟩ ⟨x4, x5, hL, hx, hm, gx4, gx5, hP⟩
  cases hx
  refine fb_35_1 x0b (i3 x1) (i3 x2) (i3 x4) (i3 x5) _ _ _ _ hL ?_
  have r1 := zH_k hZ 11 x0b 0 6 (lo := 0) (hi := 60) (by decide) rfl
  refine wz_br (i3Le (zm_rd (Z := Z) (ν := ν) (k := 11) (rfl : ((x0b : Nat) : Int) = x0b) (show ((0 : Nat) : Int) = 0 from rfl) (show ((6 : Nat) : Int) = 6 from rfl)) (rfl : i3 x5 = i3 x5) (by omega) (by omega) (by omega) (by omega)) (fun h2 => ?_) (fun h2 => ?_)
  · replace hP := zE_p hP h2
    exact hk _ _ _ (zconso rfl (zconso rfl (zconso rfl (zconso rfl (zconso (zvo (rfl : i3 x4 = i3 x4)) (zconso rfl (zconso rfl rfl)))))))  (by omega) (by omega)  hP
  · replace hP := zE_n hP h2
    refine wz_i0 (i3O (n := 60) (rfl : i3 x5 = i3 x5) (by omega) (by omega) (by omega)) ?_
    have r3 := zH_k hZ 47 x0b x5 1 (lo := 0) (hi := 7) (by decide) rfl
    refine wz_br (i3NE (zm_rd (Z := Z) (ν := ν) (k := 47) (rfl : ((x0b : Nat) : Int) = x0b) (i3I (y := x5) (rfl : i3 x5 = i3 x5) (by omega) (by omega) (by omega)) (show ((1 : Nat) : Int) = 1 from rfl)) (rfl : i3 x1 = i3 x1) (by omega) (by omega) (by omega) (by omega)) (fun h4 => ?_) (fun h4 => ?_)
    · replace hP := zE_p hP h4
      obtain ⟨m2, rfl⟩ : ∃ m2, m = m2 + 1 := ⟨m - 1, by omega⟩
      exact wz_k1 ⟨m2, by omega, x4, (x5 + 1), (zconso rfl (zconso (zvo (rfl : i3 x1 = i3 x1)) (zconso (zvo (rfl : i3 x2 = i3 x2)) (zconso rfl (zconso (zvo (rfl : i3 x4 = i3 x4)) (zconso (zvo (i3A (rfl : i3 x5 = i3 x5) (show (1 : Int32) = i3 1 from rfl))) (zconso rfl rfl))))))), rfl,  by omega, by omega, by omega,  hP⟩
    · replace hP := zE_n hP h4
      refine wz_br (i3NE (rfl : i3 x2 = i3 x2) (show (8 : Int32) = i3 8 from rfl) (by omega) (by omega) (by omega) (by omega)) (fun h5 => ?_) (fun h5 => ?_)
      · replace hP := zE_p hP h5
        have r6 := zH_k hZ 11 x0b 0 13 (lo := 0) (hi := 671) (by decide) rfl
        have r7 := zH_k hZ 47 x0b x5 20 (lo := 0) (hi := 41) (by decide) rfl
        refine wz_br (i3Le (i3D (zm_rd (Z := Z) (ν := ν) (k := 11) (rfl : ((x0b : Nat) : Int) = x0b) (show ((0 : Nat) : Int) = 0 from rfl) (show ((13 : Nat) : Int) = 13 from rfl)) (show (24 : Int32) = i3 24 from rfl) (by omega) (by omega) (by omega) (by omega)) (zm_rd (Z := Z) (ν := ν) (k := 47) (rfl : ((x0b : Nat) : Int) = x0b) (i3I (y := x5) (rfl : i3 x5 = i3 x5) (by omega) (by omega) (by omega)) (show ((20 : Nat) : Int) = 20 from rfl)) (by omega) (by omega) (by omega) (by omega)) (fun h8 => ?_) (fun h8 => ?_)
        · replace hP := zE_p hP h8
          obtain ⟨m2, rfl⟩ : ∃ m2, m = m2 + 1 := ⟨m - 1, by omega⟩
          exact wz_k1 ⟨m2, by omega, x4, (x5 + 1), (zconso rfl (zconso (zvo (rfl : i3 x1 = i3 x1)) (zconso (zvo (rfl : i3 x2 = i3 x2)) (zconso rfl (zconso (zvo (rfl : i3 x4 = i3 x4)) (zconso (zvo (i3A (rfl : i3 x5 = i3 x5) (show (1 : Int32) = i3 1 from rfl))) (zconso rfl rfl))))))), rfl,  by omega, by omega, by omega,  hP⟩
        · replace hP := zE_n hP h8
          have r9 := zH_f hZ 47 x0b x5 19
          have r10 := w3_r (x4 + (Z 47 x0b x5 19))
          obtain ⟨m2, rfl⟩ : ∃ m2, m = m2 + 1 := ⟨m - 1, by omega⟩
          exact wz_k1 ⟨m2, by omega, (w3 (x4 + (Z 47 x0b x5 19))), (x5 + 1), (zconso rfl (zconso (zvo (rfl : i3 x1 = i3 x1)) (zconso (zvo (rfl : i3 x2 = i3 x2)) (zconso rfl (zconso (zvo (i3W (i3A (rfl : i3 x4 = i3 x4) (zm_rd (Z := Z) (ν := ν) (k := 47) (rfl : ((x0b : Nat) : Int) = x0b) (i3I (y := x5) (rfl : i3 x5 = i3 x5) (by omega) (by omega) (by omega)) (show ((19 : Nat) : Int) = 19 from rfl))))) (zconso (zvo (i3A (rfl : i3 x5 = i3 x5) (show (1 : Int32) = i3 1 from rfl))) (zconso rfl rfl))))))), rfl,  by omega, by omega, by omega,  hP⟩
      · replace hP := zE_n hP h5
        have r11 := zH_f hZ 47 x0b x5 19
        refine wz_br (i3Le (zm_rd (Z := Z) (ν := ν) (k := 47) (rfl : ((x0b : Nat) : Int) = x0b) (i3I (y := x5) (rfl : i3 x5 = i3 x5) (by omega) (by omega) (by omega)) (show ((19 : Nat) : Int) = 19 from rfl)) (show (0 : Int32) = i3 0 from rfl) (by omega) (by omega) (by omega) (by omega)) (fun h12 => ?_) (fun h12 => ?_)
        · replace hP := zE_p hP h12
          obtain ⟨m2, rfl⟩ : ∃ m2, m = m2 + 1 := ⟨m - 1, by omega⟩
          exact wz_k1 ⟨m2, by omega, (x4 + 0), (x5 + 1), (zconso rfl (zconso (zvo (rfl : i3 x1 = i3 x1)) (zconso (zvo (rfl : i3 x2 = i3 x2)) (zconso rfl (zconso (zvo (i3A (rfl : i3 x4 = i3 x4) (show (0 : Int32) = i3 0 from rfl))) (zconso (zvo (i3A (rfl : i3 x5 = i3 x5) (show (1 : Int32) = i3 1 from rfl))) (zconso rfl rfl))))))), rfl,  by omega, by omega, by omega,  hP⟩
        · replace hP := zE_n hP h12
          have r13 := w3_r (x4 + 1)
          obtain ⟨m2, rfl⟩ : ∃ m2, m = m2 + 1 := ⟨m - 1, by omega⟩
          exact wz_k1 ⟨m2, by omega, (w3 (x4 + 1)), (x5 + 1), (zconso rfl (zconso (zvo (rfl : i3 x1 = i3 x1)) (zconso (zvo (rfl : i3 x2 = i3 x2)) (zconso rfl (zconso (zvo (i3W (i3A (rfl : i3 x4 = i3 x4) (show (1 : Int32) = i3 1 from rfl)))) (zconso (zvo (i3A (rfl : i3 x5 = i3 x5) (show (1 : Int32) = i3 1 from rfl))) (zconso rfl rfl))))))), rfl,  by omega, by omega, by omega,  hP⟩
/- yX1_tellBuyer -/
def zf_35 (Z : qz_Z) (a0b : Int) (a1 : Int) (a2 : Int) : Int := (if a2 ≠ 5 then (if a2 = 6 then (zlet2 (zl_35_1 a0b a1 a2 61 Z 0 0) (fun y3 y4 => y3)) else (if a2 = 8 then (zlet2 (zl_35_1 a0b a1 a2 61 Z 0 0) (fun y7 y8 => y7)) else (Z 45 a0b a1 a2))) else (w3 ((w3 ((Z 45 a0b a1 1) + (Z 45 a0b a1 3))) - (Z 45 a0b a1 4))))
theorem sp_35 {s : zSM} {Z : qz_Z} {ν : qz_N} (hZ : zH s Z) (a0b : Nat) {a1 : Int} (ga1 : 0 ≤ a1 ∧ a1 ≤ 7) {a2 : Int} (ga2 : 0 ≤ a2 ∧ a2 ≤ 14) (hM : s.2 + 0 ≤ 1000000000) : ∃ P : Int, P = zf_35 Z a0b a1 a2 ∧ (qf_35 [.inr (.inr (some (10, a0b, 0))), .inl (i3 a1), .inl (i3 a2)] (zm Z ν) = some (zm Z ν, .inl (some (.inl (i3 P)))) ∧ -2147483648 ≤ P ∧ P ≤ 2147483647) := by
  obtain ⟨P, hP⟩ := zx (zf_35 Z a0b a1 a2)
  refine zc_R (Q := fun P => -2147483648 ≤ P ∧ P ≤ 2147483647) hP (fw_35 a0b (i3 a1) (i3 a2) _ _ ?_)
  replace hP : zE P (zf_35 Z a0b a1 a2) := hP
  unfold zf_35 at hP
  refine wz_i0 (i3O (n := 8) (rfl : i3 a1 = i3 a1) (by omega) (by omega) (by omega)) ?_
  refine wz_br (i3NE (rfl : i3 a2 = i3 a2) (show (5 : Int32) = i3 5 from rfl) (by omega) (by omega) (by omega) (by omega)) (fun h1 => ?_) (fun h1 => ?_)
  · replace hP := zE_p hP h1
    refine wz_br (i3E (rfl : i3 a2 = i3 a2) (show (6 : Int32) = i3 6 from rfl) (by omega) (by omega) (by omega) (by omega)) (fun h2 => ?_) (fun h2 => ?_)
    · replace hP := zE_p hP h2
      refine sl_35_1 (ν := ν) hZ (zbh (c := 0) (k := 0) hM (Nat.le_of_ble_eq_true rfl)) a0b (x1 := a1) (by omega) (x2 := a2) (by omega) (x4 := 0) (by omega) (x5 := 0) (by omega)  (zconso rfl (zconso (zvo (rfl : i3 a1 = i3 a1)) (zconso (zvo (rfl : i3 a2 = i3 a2)) (zconso rfl (zconso (zvo (show (0 : Int32) = i3 0 from rfl)) (zconso (zvo (show (0 : Int32) = i3 0 from rfl)) (zconso rfl rfl))))))) rfl ?_
      intro L5 y3 y4 hL5 gy3 gy4 q9
      replace hP := zl_e2 hP (Eq.symm q9)
      clear q9
      refine fc_35_2 (i3 y3) _ _ _ _ hL5 ?_
      exact zlR hP (rfl : i3 y3 = i3 y3) ⟨by omega, by omega⟩
    · replace hP := zE_n hP h2
      refine wz_br (i3E (rfl : i3 a2 = i3 a2) (show (8 : Int32) = i3 8 from rfl) (by omega) (by omega) (by omega) (by omega)) (fun h6 => ?_) (fun h6 => ?_)
      · replace hP := zE_p hP h6
        refine sl_35_1 (ν := ν) hZ (zbh (c := 0) (k := 0) hM (Nat.le_of_ble_eq_true rfl)) a0b (x1 := a1) (by omega) (x2 := a2) (by omega) (x4 := 0) (by omega) (x5 := 0) (by omega)  (zconso rfl (zconso (zvo (rfl : i3 a1 = i3 a1)) (zconso (zvo (rfl : i3 a2 = i3 a2)) (zconso rfl (zconso (zvo (show (0 : Int32) = i3 0 from rfl)) (zconso (zvo (show (0 : Int32) = i3 0 from rfl)) (zconso rfl rfl))))))) rfl ?_
        intro L9 y7 y8 hL9 gy7 gy8 q9
        replace hP := zl_e2 hP (Eq.symm q9)
        clear q9
        refine fc_35_2 (i3 y7) _ _ _ _ hL9 ?_
        exact zlR hP (rfl : i3 y7 = i3 y7) ⟨by omega, by omega⟩
      · replace hP := zE_n hP h6
        refine wz_i0 (i3O (n := 15) (rfl : i3 a2 = i3 a2) (by omega) (by omega) (by omega)) ?_
        have r10 := zH_f hZ 45 a0b a1 a2
        exact zlR hP (zm_rd (Z := Z) (ν := ν) (k := 45) (rfl : ((a0b : Nat) : Int) = a0b) (i3I (y := a1) (rfl : i3 a1 = i3 a1) (by omega) (by omega) (by omega)) (i3I (y := a2) (rfl : i3 a2 = i3 a2) (by omega) (by omega) (by omega))) ⟨by omega, by omega⟩
  · replace hP := zE_n hP h1
    have r11 := zH_k hZ 45 a0b a1 1 (lo := 0) (hi := 9999999) (by decide) rfl
    have r12 := zH_f hZ 45 a0b a1 3
    have r13 := w3_r ((Z 45 a0b a1 1) + (Z 45 a0b a1 3))
    have r14 := zH_f hZ 45 a0b a1 4
    have r15 := w3_r ((w3 ((Z 45 a0b a1 1) + (Z 45 a0b a1 3))) - (Z 45 a0b a1 4))
    exact zlR hP (i3W (i3S (i3W (i3A (zm_rd (Z := Z) (ν := ν) (k := 45) (rfl : ((a0b : Nat) : Int) = a0b) (i3I (y := a1) (rfl : i3 a1 = i3 a1) (by omega) (by omega) (by omega)) (show ((1 : Nat) : Int) = 1 from rfl)) (zm_rd (Z := Z) (ν := ν) (k := 45) (rfl : ((a0b : Nat) : Int) = a0b) (i3I (y := a1) (rfl : i3 a1 = i3 a1) (by omega) (by omega) (by omega)) (show ((3 : Nat) : Int) = 3 from rfl)))) (zm_rd (Z := Z) (ν := ν) (k := 45) (rfl : ((a0b : Nat) : Int) = a0b) (i3I (y := a1) (rfl : i3 a1 = i3 a1) (by omega) (by omega) (by omega)) (show ((4 : Nat) : Int) = 4 from rfl)))) ⟨by omega, by omega⟩
/- yX11_owes -/
def zx_224 (Z : qz_Z) (a1 : Int) (a2 : Int) : qz_Z × Int × Int := (if 0 ≤ a1 ∧ a1 < (Z 11 0 0 4) then (if 0 ≤ a2 ∧ a2 ≤ 14 then (zlet (zf_35 Z 0 a1 a2) (fun v4 => (Z, v4, 0))) else (Z, 0, 13)) else (Z, 0, 24))
theorem sx_224 {M : Nat} {Z : qz_Z} {ν : qz_N} (hZ : zH ((none, M) : zSM) Z) (hM : ((none, M) : zSM).2 + 0 ≤ 1000000000) {a1 : Int} (ga1 : -2147483648 ≤ a1 ∧ a1 ≤ 2147483647) {a2 : Int} (ga2 : -2147483648 ≤ a2 ∧ a2 ≤ 2147483647) : ∃ (Z1 : qz_Z) (ν1 : qz_N) (v E : Int), (Z1, v, E) = zx_224 Z a1 a2 ∧ qf_224 [.inr (.inr (some (0, 0, 0))), .inl (i3 a1), .inl (i3 a2)] (zm Z ν) = some (zm Z1 ν1, zoX v E) ∧ (fun Z1 ν1 => zH ((none, M) : zSM) Z1 ∧ zC [] Z Z1 ∧ zU [] Z Z1 ∧ zG 1 6 ν ν1) Z1 ν1 := by
  obtain ⟨P, hP⟩ := zx (zx_224 Z a1 a2)
  refine zc_G (Q := fun Z1 ν1 => zH ((none, M) : zSM) Z1 ∧ zC [] Z Z1 ∧ zU [] Z Z1 ∧ zG 1 6 ν ν1) hP (fw_224 (i3 a1) (i3 a2) _ _ ?_)
  replace hP : zE P (zx_224 Z a1 a2) := hP
  unfold zx_224 at hP
  have r1 := zH_k hZ 11 0 0 4 (lo := 0) (hi := 8) (by decide) rfl
  refine wz_thing (rfl : i3 a1 = i3 a1) (zm_rd (Z := Z) (ν := ν) (k := 11) (show ((0 : Nat) : Int) = 0 from rfl) (show ((0 : Nat) : Int) = 0 from rfl) (show ((4 : Nat) : Int) = 4 from rfl)) (by omega) (by omega) (by omega) (by omega) (fun h2 => ?_) (fun h2 => ?_)
  · replace hP := zE_p hP h2
    refine wz_inR (rfl : i3 a2 = i3 a2) (show (0 : Int32) = i3 0 from rfl) (show (14 : Int32) = i3 14 from rfl) (by omega) (by omega) (by omega) (by omega) (by omega) (by omega) (fun h3 => ?_) (fun h3 => ?_)
    · replace hP := zE_p hP h3
      obtain ⟨v4, hv4, c9, lv4, uv4⟩ := sp_35 (ν := ν) hZ 0 (a1 := a1) (by omega) (a2 := a2) (by omega) (zbh (c := 0) (k := 0) hM (Nat.le_of_ble_eq_true rfl))
      replace hP := zl_e hP hv4
      refine wz_cI_of (zas (zcons rfl (zcons (zvi (rfl : i3 a1 = i3 a1)) (zcons (zvi (rfl : i3 a2 = i3 a2)) rfl))) c9) ?_
      clear c9
      exact zlG hP (rfl : i3 v4 = i3 v4) ⟨hZ, zC_r, zU_r, zG_w zG_r (Nat.le_of_ble_eq_true rfl) (Nat.le_of_ble_eq_true rfl)⟩
    · replace hP := zE_n hP h3
      exact zlGe (E := 12) hP ⟨hZ, zC_r, zU_r, zG_w (zG_k rfl) (Nat.le_of_ble_eq_true rfl) (Nat.le_of_ble_eq_true rfl)⟩
  · replace hP := zE_n hP h2
    exact zlGe (E := 23) hP ⟨hZ, zC_r, zU_r, zG_w (zG_k rfl) (Nat.le_of_ble_eq_true rfl) (Nat.le_of_ble_eq_true rfl)⟩
/- yX5_tellPallet -/
def zf_108 (Z : qz_Z) (a0b : Int) (a1 : Int) (a2 : Int) : Int := (if a2 ≠ 11 then (if a2 ≠ 13 then (Z 44 a0b a1 a2) else (zlet (zf_109 Z a0b a1) (fun v4 => v4))) else (if ((Z 41 a0b (Z 44 a0b a1 1) 3) - (Z 41 a0b (Z 44 a0b a1 1) 4)) ≤ (Z 44 a0b a1 7) then (if ((Z 41 a0b (Z 44 a0b a1 1) 3) + (Z 41 a0b (Z 44 a0b a1 1) 4)) < (Z 44 a0b a1 7) then (if ((Z 41 a0b (Z 44 a0b a1 1) 3) + (3 * (Z 41 a0b (Z 44 a0b a1 1) 4))) < (Z 44 a0b a1 7) then 3 else 2) else 1) else 0))
theorem sp_108 {s : zSM} {Z : qz_Z} {ν : qz_N} (hZ : zH s Z) (a0b : Nat) {a1 : Int} (ga1 : 0 ≤ a1 ∧ a1 ≤ 47) {a2 : Int} (ga2 : 0 ≤ a2 ∧ a2 ≤ 15) (hM : s.2 + 0 ≤ 1000000000) : ∃ P : Int, P = zf_108 Z a0b a1 a2 ∧ (qf_108 [.inr (.inr (some (10, a0b, 0))), .inl (i3 a1), .inl (i3 a2)] (zm Z ν) = some (zm Z ν, .inl (some (.inl (i3 P)))) ∧ -2147483648 ≤ P ∧ P ≤ 2147483647) := by
  obtain ⟨P, hP⟩ := zx (zf_108 Z a0b a1 a2)
  refine zc_R (Q := fun P => -2147483648 ≤ P ∧ P ≤ 2147483647) hP (fw_108 a0b (i3 a1) (i3 a2) _ _ ?_)
  replace hP : zE P (zf_108 Z a0b a1 a2) := hP
  unfold zf_108 at hP
  refine wz_i0 (i3O (n := 48) (rfl : i3 a1 = i3 a1) (by omega) (by omega) (by omega)) ?_
  refine wz_br (i3NE (rfl : i3 a2 = i3 a2) (show (11 : Int32) = i3 11 from rfl) (by omega) (by omega) (by omega) (by omega)) (fun h1 => ?_) (fun h1 => ?_)
  · replace hP := zE_p hP h1
    refine wz_br (i3NE (rfl : i3 a2 = i3 a2) (show (13 : Int32) = i3 13 from rfl) (by omega) (by omega) (by omega) (by omega)) (fun h2 => ?_) (fun h2 => ?_)
    · replace hP := zE_p hP h2
      refine wz_i0 (i3O (n := 16) (rfl : i3 a2 = i3 a2) (by omega) (by omega) (by omega)) ?_
      have r3 := zH_f hZ 44 a0b a1 a2
      exact zlR hP (zm_rd (Z := Z) (ν := ν) (k := 44) (rfl : ((a0b : Nat) : Int) = a0b) (i3I (y := a1) (rfl : i3 a1 = i3 a1) (by omega) (by omega) (by omega)) (i3I (y := a2) (rfl : i3 a2 = i3 a2) (by omega) (by omega) (by omega))) ⟨by omega, by omega⟩
    · replace hP := zE_n hP h2
      obtain ⟨v4, hv4, c9, lv4, uv4⟩ := sp_109 (ν := ν) hZ a0b (a1 := a1) (by omega) (zbh (c := 0) (k := 0) hM (Nat.le_of_ble_eq_true rfl))
      replace hP := zl_e hP hv4
      refine wz_cI_of (zas (zcons rfl (zcons (zvi (rfl : i3 a1 = i3 a1)) rfl)) c9) ?_
      clear c9
      exact zlR hP (rfl : i3 v4 = i3 v4) ⟨by omega, by omega⟩
  · replace hP := zE_n hP h1
    have r5 := zH_k hZ 44 a0b a1 1 (lo := 0) (hi := 4) (by decide) rfl
    refine wz_i0 (i3O (n := 5) (zm_rd (Z := Z) (ν := ν) (k := 44) (rfl : ((a0b : Nat) : Int) = a0b) (i3I (y := a1) (rfl : i3 a1 = i3 a1) (by omega) (by omega) (by omega)) (show ((1 : Nat) : Int) = 1 from rfl)) (by omega) (by omega) (by omega)) ?_
    refine wz_i0 (i3O (n := 5) (zm_rd (Z := Z) (ν := ν) (k := 44) (rfl : ((a0b : Nat) : Int) = a0b) (i3I (y := a1) (rfl : i3 a1 = i3 a1) (by omega) (by omega) (by omega)) (show ((1 : Nat) : Int) = 1 from rfl)) (by omega) (by omega) (by omega)) ?_
    have r6 := zH_k hZ 41 a0b (Z 44 a0b a1 1) 3 (lo := 0) (hi := 600) (by decide) rfl
    have r7 := zH_k hZ 41 a0b (Z 44 a0b a1 1) 4 (lo := 0) (hi := 99) (by decide) rfl
    have r8 := zH_k hZ 44 a0b a1 7 (lo := 0) (hi := 2000) (by decide) rfl
    refine wz_br (i3Le (i3S (zm_rd (Z := Z) (ν := ν) (k := 41) (rfl : ((a0b : Nat) : Int) = a0b) (i3I (y := (Z 44 a0b a1 1)) (zm_rd (Z := Z) (ν := ν) (k := 44) (rfl : ((a0b : Nat) : Int) = a0b) (i3I (y := a1) (rfl : i3 a1 = i3 a1) (by omega) (by omega) (by omega)) (show ((1 : Nat) : Int) = 1 from rfl)) (by omega) (by omega) (by omega)) (show ((3 : Nat) : Int) = 3 from rfl)) (zm_rd (Z := Z) (ν := ν) (k := 41) (rfl : ((a0b : Nat) : Int) = a0b) (i3I (y := (Z 44 a0b a1 1)) (zm_rd (Z := Z) (ν := ν) (k := 44) (rfl : ((a0b : Nat) : Int) = a0b) (i3I (y := a1) (rfl : i3 a1 = i3 a1) (by omega) (by omega) (by omega)) (show ((1 : Nat) : Int) = 1 from rfl)) (by omega) (by omega) (by omega)) (show ((4 : Nat) : Int) = 4 from rfl))) (zm_rd (Z := Z) (ν := ν) (k := 44) (rfl : ((a0b : Nat) : Int) = a0b) (i3I (y := a1) (rfl : i3 a1 = i3 a1) (by omega) (by omega) (by omega)) (show ((7 : Nat) : Int) = 7 from rfl)) (by omega) (by omega) (by omega) (by omega)) (fun h9 => ?_) (fun h9 => ?_)
    · replace hP := zE_p hP h9
      refine wz_br (i3L (i3A (zm_rd (Z := Z) (ν := ν) (k := 41) (rfl : ((a0b : Nat) : Int) = a0b) (i3I (y := (Z 44 a0b a1 1)) (zm_rd (Z := Z) (ν := ν) (k := 44) (rfl : ((a0b : Nat) : Int) = a0b) (i3I (y := a1) (rfl : i3 a1 = i3 a1) (by omega) (by omega) (by omega)) (show ((1 : Nat) : Int) = 1 from rfl)) (by omega) (by omega) (by omega)) (show ((3 : Nat) : Int) = 3 from rfl)) (zm_rd (Z := Z) (ν := ν) (k := 41) (rfl : ((a0b : Nat) : Int) = a0b) (i3I (y := (Z 44 a0b a1 1)) (zm_rd (Z := Z) (ν := ν) (k := 44) (rfl : ((a0b : Nat) : Int) = a0b) (i3I (y := a1) (rfl : i3 a1 = i3 a1) (by omega) (by omega) (by omega)) (show ((1 : Nat) : Int) = 1 from rfl)) (by omega) (by omega) (by omega)) (show ((4 : Nat) : Int) = 4 from rfl))) (zm_rd (Z := Z) (ν := ν) (k := 44) (rfl : ((a0b : Nat) : Int) = a0b) (i3I (y := a1) (rfl : i3 a1 = i3 a1) (by omega) (by omega) (by omega)) (show ((7 : Nat) : Int) = 7 from rfl)) (by omega) (by omega) (by omega) (by omega)) (fun h10 => ?_) (fun h10 => ?_)
      · replace hP := zE_p hP h10
        refine wz_br (i3L (i3A (zm_rd (Z := Z) (ν := ν) (k := 41) (rfl : ((a0b : Nat) : Int) = a0b) (i3I (y := (Z 44 a0b a1 1)) (zm_rd (Z := Z) (ν := ν) (k := 44) (rfl : ((a0b : Nat) : Int) = a0b) (i3I (y := a1) (rfl : i3 a1 = i3 a1) (by omega) (by omega) (by omega)) (show ((1 : Nat) : Int) = 1 from rfl)) (by omega) (by omega) (by omega)) (show ((3 : Nat) : Int) = 3 from rfl)) (i3M (show (3 : Int32) = i3 3 from rfl) (zm_rd (Z := Z) (ν := ν) (k := 41) (rfl : ((a0b : Nat) : Int) = a0b) (i3I (y := (Z 44 a0b a1 1)) (zm_rd (Z := Z) (ν := ν) (k := 44) (rfl : ((a0b : Nat) : Int) = a0b) (i3I (y := a1) (rfl : i3 a1 = i3 a1) (by omega) (by omega) (by omega)) (show ((1 : Nat) : Int) = 1 from rfl)) (by omega) (by omega) (by omega)) (show ((4 : Nat) : Int) = 4 from rfl)))) (zm_rd (Z := Z) (ν := ν) (k := 44) (rfl : ((a0b : Nat) : Int) = a0b) (i3I (y := a1) (rfl : i3 a1 = i3 a1) (by omega) (by omega) (by omega)) (show ((7 : Nat) : Int) = 7 from rfl)) (by omega) (by omega) (by omega) (by omega)) (fun h11 => ?_) (fun h11 => ?_)
        · replace hP := zE_p hP h11
          exact zlR hP (show (3 : Int32) = i3 3 from rfl) ⟨by omega, by omega⟩
        · replace hP := zE_n hP h11
          exact zlR hP (show (2 : Int32) = i3 2 from rfl) ⟨by omega, by omega⟩
      · replace hP := zE_n hP h10
        exact zlR hP (show (1 : Int32) = i3 1 from rfl) ⟨by omega, by omega⟩
    · replace hP := zE_n hP h9
      exact zlR hP (show (0 : Int32) = i3 0 from rfl) ⟨by omega, by omega⟩
/- yX11_pallet -/
def zx_225 (Z : qz_Z) (a1 : Int) (a2 : Int) : qz_Z × Int × Int := (if 0 ≤ a1 ∧ a1 < (Z 11 0 0 3) then (if 0 ≤ a2 ∧ a2 ≤ 15 then (zlet (zf_108 Z 0 a1 a2) (fun v4 => (Z, v4, 0))) else (Z, 0, 13)) else (Z, 0, 24))
theorem sx_225 {M : Nat} {Z : qz_Z} {ν : qz_N} (hZ : zH ((none, M) : zSM) Z) (hM : ((none, M) : zSM).2 + 0 ≤ 1000000000) {a1 : Int} (ga1 : -2147483648 ≤ a1 ∧ a1 ≤ 2147483647) {a2 : Int} (ga2 : -2147483648 ≤ a2 ∧ a2 ≤ 2147483647) : ∃ (Z1 : qz_Z) (ν1 : qz_N) (v E : Int), (Z1, v, E) = zx_225 Z a1 a2 ∧ qf_225 [.inr (.inr (some (0, 0, 0))), .inl (i3 a1), .inl (i3 a2)] (zm Z ν) = some (zm Z1 ν1, zoX v E) ∧ (fun Z1 ν1 => zH ((none, M) : zSM) Z1 ∧ zC [] Z Z1 ∧ zU [] Z Z1 ∧ zG 1 6 ν ν1) Z1 ν1 := by
  obtain ⟨P, hP⟩ := zx (zx_225 Z a1 a2)
  refine zc_G (Q := fun Z1 ν1 => zH ((none, M) : zSM) Z1 ∧ zC [] Z Z1 ∧ zU [] Z Z1 ∧ zG 1 6 ν ν1) hP (fw_225 (i3 a1) (i3 a2) _ _ ?_)
  replace hP : zE P (zx_225 Z a1 a2) := hP
  unfold zx_225 at hP
  have r1 := zH_k hZ 11 0 0 3 (lo := 0) (hi := 48) (by decide) rfl
  refine wz_thing (rfl : i3 a1 = i3 a1) (zm_rd (Z := Z) (ν := ν) (k := 11) (show ((0 : Nat) : Int) = 0 from rfl) (show ((0 : Nat) : Int) = 0 from rfl) (show ((3 : Nat) : Int) = 3 from rfl)) (by omega) (by omega) (by omega) (by omega) (fun h2 => ?_) (fun h2 => ?_)
  · replace hP := zE_p hP h2
    refine wz_inR (rfl : i3 a2 = i3 a2) (show (0 : Int32) = i3 0 from rfl) (show (15 : Int32) = i3 15 from rfl) (by omega) (by omega) (by omega) (by omega) (by omega) (by omega) (fun h3 => ?_) (fun h3 => ?_)
    · replace hP := zE_p hP h3
      obtain ⟨v4, hv4, c9, lv4, uv4⟩ := sp_108 (ν := ν) hZ 0 (a1 := a1) (by omega) (a2 := a2) (by omega) (zbh (c := 0) (k := 0) hM (Nat.le_of_ble_eq_true rfl))
      replace hP := zl_e hP hv4
      refine wz_cI_of (zas (zcons rfl (zcons (zvi (rfl : i3 a1 = i3 a1)) (zcons (zvi (rfl : i3 a2 = i3 a2)) rfl))) c9) ?_
      clear c9
      exact zlG hP (rfl : i3 v4 = i3 v4) ⟨hZ, zC_r, zU_r, zG_w zG_r (Nat.le_of_ble_eq_true rfl) (Nat.le_of_ble_eq_true rfl)⟩
    · replace hP := zE_n hP h3
      exact zlGe (E := 12) hP ⟨hZ, zC_r, zU_r, zG_w (zG_k rfl) (Nat.le_of_ble_eq_true rfl) (Nat.le_of_ble_eq_true rfl)⟩
  · replace hP := zE_n hP h2
    exact zlGe (E := 23) hP ⟨hZ, zC_r, zU_r, zG_w (zG_k rfl) (Nat.le_of_ble_eq_true rfl) (Nat.le_of_ble_eq_true rfl)⟩
/- yX1_tellParcel -/
def zf_36 (Z : qz_Z) (a0b : Int) (a1b : Int) (a1ij : Int) (a2 : Int) : Int := (if (Z 47 a1b a1ij 9) ≠ 0 then (if a2 < 11 ∨ 13 < a2 then (Z 47 a1b a1ij a2) else (if a2 = 11 then (Z 47 a1b a1ij 11) else (if a2 = 12 then (Z 47 a1b a1ij 12) else (if ((Z 41 a0b (Z 44 a0b (Z 47 a1b a1ij 0) 1) 3) - (Z 41 a0b (Z 44 a0b (Z 47 a1b a1ij 0) 1) 4)) ≤ (Z 47 a1b a1ij 11) then (if ((Z 41 a0b (Z 44 a0b (Z 47 a1b a1ij 0) 1) 3) + (Z 41 a0b (Z 44 a0b (Z 47 a1b a1ij 0) 1) 4)) < (Z 47 a1b a1ij 11) then (if ((Z 41 a0b (Z 44 a0b (Z 47 a1b a1ij 0) 1) 3) + (3 * (Z 41 a0b (Z 44 a0b (Z 47 a1b a1ij 0) 1) 4))) < (Z 47 a1b a1ij 11) then 3 else 2) else 1) else 0)))) else (if a2 < 11 ∨ 13 < a2 then (Z 47 a1b a1ij a2) else (if a2 = 11 then (Z 44 a0b (Z 47 a1b a1ij 0) 7) else (if a2 = 12 then (Z 44 a0b (Z 47 a1b a1ij 0) 8) else (if ((Z 41 a0b (Z 44 a0b (Z 47 a1b a1ij 0) 1) 3) - (Z 41 a0b (Z 44 a0b (Z 47 a1b a1ij 0) 1) 4)) ≤ (Z 44 a0b (Z 47 a1b a1ij 0) 7) then (if ((Z 41 a0b (Z 44 a0b (Z 47 a1b a1ij 0) 1) 3) + (Z 41 a0b (Z 44 a0b (Z 47 a1b a1ij 0) 1) 4)) < (Z 44 a0b (Z 47 a1b a1ij 0) 7) then (if ((Z 41 a0b (Z 44 a0b (Z 47 a1b a1ij 0) 1) 3) + (3 * (Z 41 a0b (Z 44 a0b (Z 47 a1b a1ij 0) 1) 4))) < (Z 44 a0b (Z 47 a1b a1ij 0) 7) then 3 else 2) else 1) else 0)))))
theorem sp_36 {s : zSM} {Z : qz_Z} {ν : qz_N} (hZ : zH s Z) (a0b : Nat) (a1b : Nat) (a1i : Nat) {a1ij : Int} (ea1i : (a1i : Int) = a1ij) (ga1i : 0 ≤ a1ij ∧ a1ij ≤ 59) {a2 : Int} (ga2 : 0 ≤ a2 ∧ a2 ≤ 20) (hM : s.2 + 0 ≤ 1000000000) : ∃ P : Int, P = zf_36 Z a0b a1b a1ij a2 ∧ (qf_36 [.inr (.inr (some (10, a0b, 0))), .inr (.inr (some (47, a1b, a1i))), .inl (i3 a2)] (zm Z ν) = some (zm Z ν, .inl (some (.inl (i3 P)))) ∧ -2147483648 ≤ P ∧ P ≤ 2147483647) := by
  obtain ⟨P, hP⟩ := zx (zf_36 Z a0b a1b a1ij a2)
  refine zc_R (Q := fun P => -2147483648 ≤ P ∧ P ≤ 2147483647) hP (fw_36 a0b a1b a1i (i3 a2) _ _ ?_)
  replace hP : zE P (zf_36 Z a0b a1b a1ij a2) := hP
  unfold zf_36 at hP
  have r1 := zH_k hZ 47 a1b a1ij 0 (lo := 0) (hi := 47) (by decide) rfl
  refine wz_i0 (i3O (n := 48) (zm_rd (Z := Z) (ν := ν) (k := 47) (rfl : ((a1b : Nat) : Int) = a1b) ea1i (show ((0 : Nat) : Int) = 0 from rfl)) (by omega) (by omega) (by omega)) ?_
  have r2 := zH_k hZ 47 a1b a1ij 9 (lo := 0) (hi := 3) (by decide) rfl
  have r3 := zH_lt hZ a1b a1ij
  refine wz_br (i3NE (zm_rd (Z := Z) (ν := ν) (k := 47) (rfl : ((a1b : Nat) : Int) = a1b) ea1i (show ((9 : Nat) : Int) = 9 from rfl)) (show (0 : Int32) = i3 0 from rfl) (by omega) (by omega) (by omega) (by omega)) (fun h4 => ?_) (fun h4 => ?_)
  · replace hP := zE_p hP h4
    refine wz_br (i3To (rfl : i3 a2 = i3 a2) (by omega) (by omega)) (fun h5 => ?_) (fun h5 => ?_)
    · replace hP := zE_p hP h5
      refine wz_i0 (i3O (n := 21) (rfl : i3 a2 = i3 a2) (by omega) (by omega) (by omega)) ?_
      have r6 := zH_f hZ 47 a1b a1ij a2
      exact zlR hP (zm_rd (Z := Z) (ν := ν) (k := 47) (rfl : ((a1b : Nat) : Int) = a1b) ea1i (i3I (y := a2) (rfl : i3 a2 = i3 a2) (by omega) (by omega) (by omega))) ⟨by omega, by omega⟩
    · replace hP := zE_n hP h5
      refine wz_br (i3T (rfl : i3 a2 = i3 a2) (by omega) (by omega)) (fun h7 => ?_) (fun h7 => ?_)
      · replace hP := zE_p hP h7
        have r8 := zH_k hZ 47 a1b a1ij 11 (lo := 0) (hi := 2000) (by decide) rfl
        exact zlR hP (zm_rd (Z := Z) (ν := ν) (k := 47) (rfl : ((a1b : Nat) : Int) = a1b) ea1i (show ((11 : Nat) : Int) = 11 from rfl)) ⟨by omega, by omega⟩
      · replace hP := zE_n hP h7
        refine wz_br (i3T (rfl : i3 a2 = i3 a2) (by omega) (by omega)) (fun h9 => ?_) (fun h9 => ?_)
        · replace hP := zE_p hP h9
          have r10 := zH_k hZ 47 a1b a1ij 12 (lo := 0) (hi := 999) (by decide) rfl
          exact zlR hP (zm_rd (Z := Z) (ν := ν) (k := 47) (rfl : ((a1b : Nat) : Int) = a1b) ea1i (show ((12 : Nat) : Int) = 12 from rfl)) ⟨by omega, by omega⟩
        · replace hP := zE_n hP h9
          refine wz_i1 (Eq.trans (i3T (rfl : i3 a2 = i3 a2) (by omega) (by omega)) (decide_eq_true (by omega))) ?_
          have r11 := zH_k hZ 44 a0b (Z 47 a1b a1ij 0) 1 (lo := 0) (hi := 4) (by decide) rfl
          refine wz_i0 (i3O (n := 5) (zm_rd (Z := Z) (ν := ν) (k := 44) (rfl : ((a0b : Nat) : Int) = a0b) (i3I (y := (Z 47 a1b a1ij 0)) (zm_rd (Z := Z) (ν := ν) (k := 47) (rfl : ((a1b : Nat) : Int) = a1b) ea1i (show ((0 : Nat) : Int) = 0 from rfl)) (by omega) (by omega) (by omega)) (show ((1 : Nat) : Int) = 1 from rfl)) (by omega) (by omega) (by omega)) ?_
          refine wz_i0 (i3O (n := 5) (zm_rd (Z := Z) (ν := ν) (k := 44) (rfl : ((a0b : Nat) : Int) = a0b) (i3I (y := (Z 47 a1b a1ij 0)) (zm_rd (Z := Z) (ν := ν) (k := 47) (rfl : ((a1b : Nat) : Int) = a1b) ea1i (show ((0 : Nat) : Int) = 0 from rfl)) (by omega) (by omega) (by omega)) (show ((1 : Nat) : Int) = 1 from rfl)) (by omega) (by omega) (by omega)) ?_
          have r12 := zH_k hZ 41 a0b (Z 44 a0b (Z 47 a1b a1ij 0) 1) 3 (lo := 0) (hi := 600) (by decide) rfl
          have r13 := zH_k hZ 41 a0b (Z 44 a0b (Z 47 a1b a1ij 0) 1) 4 (lo := 0) (hi := 99) (by decide) rfl
          have r14 := zH_k hZ 47 a1b a1ij 11 (lo := 0) (hi := 2000) (by decide) rfl
          refine wz_br (i3Le (i3S (zm_rd (Z := Z) (ν := ν) (k := 41) (rfl : ((a0b : Nat) : Int) = a0b) (i3I (y := (Z 44 a0b (Z 47 a1b a1ij 0) 1)) (zm_rd (Z := Z) (ν := ν) (k := 44) (rfl : ((a0b : Nat) : Int) = a0b) (i3I (y := (Z 47 a1b a1ij 0)) (zm_rd (Z := Z) (ν := ν) (k := 47) (rfl : ((a1b : Nat) : Int) = a1b) ea1i (show ((0 : Nat) : Int) = 0 from rfl)) (by omega) (by omega) (by omega)) (show ((1 : Nat) : Int) = 1 from rfl)) (by omega) (by omega) (by omega)) (show ((3 : Nat) : Int) = 3 from rfl)) (zm_rd (Z := Z) (ν := ν) (k := 41) (rfl : ((a0b : Nat) : Int) = a0b) (i3I (y := (Z 44 a0b (Z 47 a1b a1ij 0) 1)) (zm_rd (Z := Z) (ν := ν) (k := 44) (rfl : ((a0b : Nat) : Int) = a0b) (i3I (y := (Z 47 a1b a1ij 0)) (zm_rd (Z := Z) (ν := ν) (k := 47) (rfl : ((a1b : Nat) : Int) = a1b) ea1i (show ((0 : Nat) : Int) = 0 from rfl)) (by omega) (by omega) (by omega)) (show ((1 : Nat) : Int) = 1 from rfl)) (by omega) (by omega) (by omega)) (show ((4 : Nat) : Int) = 4 from rfl))) (zm_rd (Z := Z) (ν := ν) (k := 47) (rfl : ((a1b : Nat) : Int) = a1b) ea1i (show ((11 : Nat) : Int) = 11 from rfl)) (by omega) (by omega) (by omega) (by omega)) (fun h15 => ?_) (fun h15 => ?_)
          · replace hP := zE_p hP h15
            refine wz_br (i3L (i3A (zm_rd (Z := Z) (ν := ν) (k := 41) (rfl : ((a0b : Nat) : Int) = a0b) (i3I (y := (Z 44 a0b (Z 47 a1b a1ij 0) 1)) (zm_rd (Z := Z) (ν := ν) (k := 44) (rfl : ((a0b : Nat) : Int) = a0b) (i3I (y := (Z 47 a1b a1ij 0)) (zm_rd (Z := Z) (ν := ν) (k := 47) (rfl : ((a1b : Nat) : Int) = a1b) ea1i (show ((0 : Nat) : Int) = 0 from rfl)) (by omega) (by omega) (by omega)) (show ((1 : Nat) : Int) = 1 from rfl)) (by omega) (by omega) (by omega)) (show ((3 : Nat) : Int) = 3 from rfl)) (zm_rd (Z := Z) (ν := ν) (k := 41) (rfl : ((a0b : Nat) : Int) = a0b) (i3I (y := (Z 44 a0b (Z 47 a1b a1ij 0) 1)) (zm_rd (Z := Z) (ν := ν) (k := 44) (rfl : ((a0b : Nat) : Int) = a0b) (i3I (y := (Z 47 a1b a1ij 0)) (zm_rd (Z := Z) (ν := ν) (k := 47) (rfl : ((a1b : Nat) : Int) = a1b) ea1i (show ((0 : Nat) : Int) = 0 from rfl)) (by omega) (by omega) (by omega)) (show ((1 : Nat) : Int) = 1 from rfl)) (by omega) (by omega) (by omega)) (show ((4 : Nat) : Int) = 4 from rfl))) (zm_rd (Z := Z) (ν := ν) (k := 47) (rfl : ((a1b : Nat) : Int) = a1b) ea1i (show ((11 : Nat) : Int) = 11 from rfl)) (by omega) (by omega) (by omega) (by omega)) (fun h16 => ?_) (fun h16 => ?_)
            · replace hP := zE_p hP h16
              refine wz_br (i3L (i3A (zm_rd (Z := Z) (ν := ν) (k := 41) (rfl : ((a0b : Nat) : Int) = a0b) (i3I (y := (Z 44 a0b (Z 47 a1b a1ij 0) 1)) (zm_rd (Z := Z) (ν := ν) (k := 44) (rfl : ((a0b : Nat) : Int) = a0b) (i3I (y := (Z 47 a1b a1ij 0)) (zm_rd (Z := Z) (ν := ν) (k := 47) (rfl : ((a1b : Nat) : Int) = a1b) ea1i (show ((0 : Nat) : Int) = 0 from rfl)) (by omega) (by omega) (by omega)) (show ((1 : Nat) : Int) = 1 from rfl)) (by omega) (by omega) (by omega)) (show ((3 : Nat) : Int) = 3 from rfl)) (i3M (show (3 : Int32) = i3 3 from rfl) (zm_rd (Z := Z) (ν := ν) (k := 41) (rfl : ((a0b : Nat) : Int) = a0b) (i3I (y := (Z 44 a0b (Z 47 a1b a1ij 0) 1)) (zm_rd (Z := Z) (ν := ν) (k := 44) (rfl : ((a0b : Nat) : Int) = a0b) (i3I (y := (Z 47 a1b a1ij 0)) (zm_rd (Z := Z) (ν := ν) (k := 47) (rfl : ((a1b : Nat) : Int) = a1b) ea1i (show ((0 : Nat) : Int) = 0 from rfl)) (by omega) (by omega) (by omega)) (show ((1 : Nat) : Int) = 1 from rfl)) (by omega) (by omega) (by omega)) (show ((4 : Nat) : Int) = 4 from rfl)))) (zm_rd (Z := Z) (ν := ν) (k := 47) (rfl : ((a1b : Nat) : Int) = a1b) ea1i (show ((11 : Nat) : Int) = 11 from rfl)) (by omega) (by omega) (by omega) (by omega)) (fun h17 => ?_) (fun h17 => ?_)
              · replace hP := zE_p hP h17
                exact zlR hP (show (3 : Int32) = i3 3 from rfl) ⟨by omega, by omega⟩
              · replace hP := zE_n hP h17
                exact zlR hP (show (2 : Int32) = i3 2 from rfl) ⟨by omega, by omega⟩
            · replace hP := zE_n hP h16
              exact zlR hP (show (1 : Int32) = i3 1 from rfl) ⟨by omega, by omega⟩
          · replace hP := zE_n hP h15
            exact zlR hP (show (0 : Int32) = i3 0 from rfl) ⟨by omega, by omega⟩
  · replace hP := zE_n hP h4
    refine wz_br (i3To (rfl : i3 a2 = i3 a2) (by omega) (by omega)) (fun h18 => ?_) (fun h18 => ?_)
    · replace hP := zE_p hP h18
      refine wz_i0 (i3O (n := 21) (rfl : i3 a2 = i3 a2) (by omega) (by omega) (by omega)) ?_
      have r19 := zH_f hZ 47 a1b a1ij a2
      exact zlR hP (zm_rd (Z := Z) (ν := ν) (k := 47) (rfl : ((a1b : Nat) : Int) = a1b) ea1i (i3I (y := a2) (rfl : i3 a2 = i3 a2) (by omega) (by omega) (by omega))) ⟨by omega, by omega⟩
    · replace hP := zE_n hP h18
      refine wz_br (i3T (rfl : i3 a2 = i3 a2) (by omega) (by omega)) (fun h20 => ?_) (fun h20 => ?_)
      · replace hP := zE_p hP h20
        have r21 := zH_k hZ 44 a0b (Z 47 a1b a1ij 0) 7 (lo := 0) (hi := 2000) (by decide) rfl
        exact zlR hP (zm_rd (Z := Z) (ν := ν) (k := 44) (rfl : ((a0b : Nat) : Int) = a0b) (i3I (y := (Z 47 a1b a1ij 0)) (zm_rd (Z := Z) (ν := ν) (k := 47) (rfl : ((a1b : Nat) : Int) = a1b) ea1i (show ((0 : Nat) : Int) = 0 from rfl)) (by omega) (by omega) (by omega)) (show ((7 : Nat) : Int) = 7 from rfl)) ⟨by omega, by omega⟩
      · replace hP := zE_n hP h20
        refine wz_br (i3T (rfl : i3 a2 = i3 a2) (by omega) (by omega)) (fun h22 => ?_) (fun h22 => ?_)
        · replace hP := zE_p hP h22
          have r23 := zH_k hZ 44 a0b (Z 47 a1b a1ij 0) 8 (lo := 0) (hi := 999) (by decide) rfl
          exact zlR hP (zm_rd (Z := Z) (ν := ν) (k := 44) (rfl : ((a0b : Nat) : Int) = a0b) (i3I (y := (Z 47 a1b a1ij 0)) (zm_rd (Z := Z) (ν := ν) (k := 47) (rfl : ((a1b : Nat) : Int) = a1b) ea1i (show ((0 : Nat) : Int) = 0 from rfl)) (by omega) (by omega) (by omega)) (show ((8 : Nat) : Int) = 8 from rfl)) ⟨by omega, by omega⟩
        · replace hP := zE_n hP h22
          refine wz_i1 (Eq.trans (i3T (rfl : i3 a2 = i3 a2) (by omega) (by omega)) (decide_eq_true (by omega))) ?_
          have r24 := zH_k hZ 44 a0b (Z 47 a1b a1ij 0) 1 (lo := 0) (hi := 4) (by decide) rfl
          refine wz_i0 (i3O (n := 5) (zm_rd (Z := Z) (ν := ν) (k := 44) (rfl : ((a0b : Nat) : Int) = a0b) (i3I (y := (Z 47 a1b a1ij 0)) (zm_rd (Z := Z) (ν := ν) (k := 47) (rfl : ((a1b : Nat) : Int) = a1b) ea1i (show ((0 : Nat) : Int) = 0 from rfl)) (by omega) (by omega) (by omega)) (show ((1 : Nat) : Int) = 1 from rfl)) (by omega) (by omega) (by omega)) ?_
          refine wz_i0 (i3O (n := 5) (zm_rd (Z := Z) (ν := ν) (k := 44) (rfl : ((a0b : Nat) : Int) = a0b) (i3I (y := (Z 47 a1b a1ij 0)) (zm_rd (Z := Z) (ν := ν) (k := 47) (rfl : ((a1b : Nat) : Int) = a1b) ea1i (show ((0 : Nat) : Int) = 0 from rfl)) (by omega) (by omega) (by omega)) (show ((1 : Nat) : Int) = 1 from rfl)) (by omega) (by omega) (by omega)) ?_
          have r25 := zH_k hZ 41 a0b (Z 44 a0b (Z 47 a1b a1ij 0) 1) 3 (lo := 0) (hi := 600) (by decide) rfl
          have r26 := zH_k hZ 41 a0b (Z 44 a0b (Z 47 a1b a1ij 0) 1) 4 (lo := 0) (hi := 99) (by decide) rfl
          have r27 := zH_k hZ 44 a0b (Z 47 a1b a1ij 0) 7 (lo := 0) (hi := 2000) (by decide) rfl
          refine wz_br (i3Le (i3S (zm_rd (Z := Z) (ν := ν) (k := 41) (rfl : ((a0b : Nat) : Int) = a0b) (i3I (y := (Z 44 a0b (Z 47 a1b a1ij 0) 1)) (zm_rd (Z := Z) (ν := ν) (k := 44) (rfl : ((a0b : Nat) : Int) = a0b) (i3I (y := (Z 47 a1b a1ij 0)) (zm_rd (Z := Z) (ν := ν) (k := 47) (rfl : ((a1b : Nat) : Int) = a1b) ea1i (show ((0 : Nat) : Int) = 0 from rfl)) (by omega) (by omega) (by omega)) (show ((1 : Nat) : Int) = 1 from rfl)) (by omega) (by omega) (by omega)) (show ((3 : Nat) : Int) = 3 from rfl)) (zm_rd (Z := Z) (ν := ν) (k := 41) (rfl : ((a0b : Nat) : Int) = a0b) (i3I (y := (Z 44 a0b (Z 47 a1b a1ij 0) 1)) (zm_rd (Z := Z) (ν := ν) (k := 44) (rfl : ((a0b : Nat) : Int) = a0b) (i3I (y := (Z 47 a1b a1ij 0)) (zm_rd (Z := Z) (ν := ν) (k := 47) (rfl : ((a1b : Nat) : Int) = a1b) ea1i (show ((0 : Nat) : Int) = 0 from rfl)) (by omega) (by omega) (by omega)) (show ((1 : Nat) : Int) = 1 from rfl)) (by omega) (by omega) (by omega)) (show ((4 : Nat) : Int) = 4 from rfl))) (zm_rd (Z := Z) (ν := ν) (k := 44) (rfl : ((a0b : Nat) : Int) = a0b) (i3I (y := (Z 47 a1b a1ij 0)) (zm_rd (Z := Z) (ν := ν) (k := 47) (rfl : ((a1b : Nat) : Int) = a1b) ea1i (show ((0 : Nat) : Int) = 0 from rfl)) (by omega) (by omega) (by omega)) (show ((7 : Nat) : Int) = 7 from rfl)) (by omega) (by omega) (by omega) (by omega)) (fun h28 => ?_) (fun h28 => ?_)
          · replace hP := zE_p hP h28
            refine wz_br (i3L (i3A (zm_rd (Z := Z) (ν := ν) (k := 41) (rfl : ((a0b : Nat) : Int) = a0b) (i3I (y := (Z 44 a0b (Z 47 a1b a1ij 0) 1)) (zm_rd (Z := Z) (ν := ν) (k := 44) (rfl : ((a0b : Nat) : Int) = a0b) (i3I (y := (Z 47 a1b a1ij 0)) (zm_rd (Z := Z) (ν := ν) (k := 47) (rfl : ((a1b : Nat) : Int) = a1b) ea1i (show ((0 : Nat) : Int) = 0 from rfl)) (by omega) (by omega) (by omega)) (show ((1 : Nat) : Int) = 1 from rfl)) (by omega) (by omega) (by omega)) (show ((3 : Nat) : Int) = 3 from rfl)) (zm_rd (Z := Z) (ν := ν) (k := 41) (rfl : ((a0b : Nat) : Int) = a0b) (i3I (y := (Z 44 a0b (Z 47 a1b a1ij 0) 1)) (zm_rd (Z := Z) (ν := ν) (k := 44) (rfl : ((a0b : Nat) : Int) = a0b) (i3I (y := (Z 47 a1b a1ij 0)) (zm_rd (Z := Z) (ν := ν) (k := 47) (rfl : ((a1b : Nat) : Int) = a1b) ea1i (show ((0 : Nat) : Int) = 0 from rfl)) (by omega) (by omega) (by omega)) (show ((1 : Nat) : Int) = 1 from rfl)) (by omega) (by omega) (by omega)) (show ((4 : Nat) : Int) = 4 from rfl))) (zm_rd (Z := Z) (ν := ν) (k := 44) (rfl : ((a0b : Nat) : Int) = a0b) (i3I (y := (Z 47 a1b a1ij 0)) (zm_rd (Z := Z) (ν := ν) (k := 47) (rfl : ((a1b : Nat) : Int) = a1b) ea1i (show ((0 : Nat) : Int) = 0 from rfl)) (by omega) (by omega) (by omega)) (show ((7 : Nat) : Int) = 7 from rfl)) (by omega) (by omega) (by omega) (by omega)) (fun h29 => ?_) (fun h29 => ?_)
            · replace hP := zE_p hP h29
              refine wz_br (i3L (i3A (zm_rd (Z := Z) (ν := ν) (k := 41) (rfl : ((a0b : Nat) : Int) = a0b) (i3I (y := (Z 44 a0b (Z 47 a1b a1ij 0) 1)) (zm_rd (Z := Z) (ν := ν) (k := 44) (rfl : ((a0b : Nat) : Int) = a0b) (i3I (y := (Z 47 a1b a1ij 0)) (zm_rd (Z := Z) (ν := ν) (k := 47) (rfl : ((a1b : Nat) : Int) = a1b) ea1i (show ((0 : Nat) : Int) = 0 from rfl)) (by omega) (by omega) (by omega)) (show ((1 : Nat) : Int) = 1 from rfl)) (by omega) (by omega) (by omega)) (show ((3 : Nat) : Int) = 3 from rfl)) (i3M (show (3 : Int32) = i3 3 from rfl) (zm_rd (Z := Z) (ν := ν) (k := 41) (rfl : ((a0b : Nat) : Int) = a0b) (i3I (y := (Z 44 a0b (Z 47 a1b a1ij 0) 1)) (zm_rd (Z := Z) (ν := ν) (k := 44) (rfl : ((a0b : Nat) : Int) = a0b) (i3I (y := (Z 47 a1b a1ij 0)) (zm_rd (Z := Z) (ν := ν) (k := 47) (rfl : ((a1b : Nat) : Int) = a1b) ea1i (show ((0 : Nat) : Int) = 0 from rfl)) (by omega) (by omega) (by omega)) (show ((1 : Nat) : Int) = 1 from rfl)) (by omega) (by omega) (by omega)) (show ((4 : Nat) : Int) = 4 from rfl)))) (zm_rd (Z := Z) (ν := ν) (k := 44) (rfl : ((a0b : Nat) : Int) = a0b) (i3I (y := (Z 47 a1b a1ij 0)) (zm_rd (Z := Z) (ν := ν) (k := 47) (rfl : ((a1b : Nat) : Int) = a1b) ea1i (show ((0 : Nat) : Int) = 0 from rfl)) (by omega) (by omega) (by omega)) (show ((7 : Nat) : Int) = 7 from rfl)) (by omega) (by omega) (by omega) (by omega)) (fun h30 => ?_) (fun h30 => ?_)
              · replace hP := zE_p hP h30
                exact zlR hP (show (3 : Int32) = i3 3 from rfl) ⟨by omega, by omega⟩
              · replace hP := zE_n hP h30
                exact zlR hP (show (2 : Int32) = i3 2 from rfl) ⟨by omega, by omega⟩
            · replace hP := zE_n hP h29
              exact zlR hP (show (1 : Int32) = i3 1 from rfl) ⟨by omega, by omega⟩
          · replace hP := zE_n hP h28
            exact zlR hP (show (0 : Int32) = i3 0 from rfl) ⟨by omega, by omega⟩
/- yX11_parcel -/
def zx_226 (Z : qz_Z) (a1 : Int) (a2 : Int) : qz_Z × Int × Int := (if 0 ≤ a1 ∧ a1 < (Z 11 0 0 6) then (if 0 ≤ a2 ∧ a2 ≤ 20 then (zlet (zf_36 Z 0 0 a1 a2) (fun v4 => (Z, v4, 0))) else (Z, 0, 13)) else (Z, 0, 24))
theorem sx_226 {M : Nat} {Z : qz_Z} {ν : qz_N} (hZ : zH ((none, M) : zSM) Z) (hM : ((none, M) : zSM).2 + 0 ≤ 1000000000) {a1 : Int} (ga1 : -2147483648 ≤ a1 ∧ a1 ≤ 2147483647) {a2 : Int} (ga2 : -2147483648 ≤ a2 ∧ a2 ≤ 2147483647) : ∃ (Z1 : qz_Z) (ν1 : qz_N) (v E : Int), (Z1, v, E) = zx_226 Z a1 a2 ∧ qf_226 [.inr (.inr (some (0, 0, 0))), .inl (i3 a1), .inl (i3 a2)] (zm Z ν) = some (zm Z1 ν1, zoX v E) ∧ (fun Z1 ν1 => zH ((none, M) : zSM) Z1 ∧ zC [] Z Z1 ∧ zU [] Z Z1 ∧ zG 1 6 ν ν1) Z1 ν1 := by
  obtain ⟨P, hP⟩ := zx (zx_226 Z a1 a2)
  refine zc_G (Q := fun Z1 ν1 => zH ((none, M) : zSM) Z1 ∧ zC [] Z Z1 ∧ zU [] Z Z1 ∧ zG 1 6 ν ν1) hP (fw_226 (i3 a1) (i3 a2) _ _ ?_)
  replace hP : zE P (zx_226 Z a1 a2) := hP
  unfold zx_226 at hP
  have r1 := zH_k hZ 11 0 0 6 (lo := 0) (hi := 60) (by decide) rfl
  refine wz_thing (rfl : i3 a1 = i3 a1) (zm_rd (Z := Z) (ν := ν) (k := 11) (show ((0 : Nat) : Int) = 0 from rfl) (show ((0 : Nat) : Int) = 0 from rfl) (show ((6 : Nat) : Int) = 6 from rfl)) (by omega) (by omega) (by omega) (by omega) (fun h2 => ?_) (fun h2 => ?_)
  · replace hP := zE_p hP h2
    refine wz_inR (rfl : i3 a2 = i3 a2) (show (0 : Int32) = i3 0 from rfl) (show (20 : Int32) = i3 20 from rfl) (by omega) (by omega) (by omega) (by omega) (by omega) (by omega) (fun h3 => ?_) (fun h3 => ?_)
    · replace hP := zE_p hP h3
      refine wz_i0 (i3O (n := 60) (rfl : i3 a1 = i3 a1) (by omega) (by omega) (by omega)) ?_
      obtain ⟨v4, hv4, c9, lv4, uv4⟩ := sp_36 (ν := ν) hZ 0 0 _ (i3I (y := a1) (rfl : i3 a1 = i3 a1) (by omega) (by omega) (by omega)) (by omega) (a2 := a2) (by omega) (zbh (c := 0) (k := 0) hM (Nat.le_of_ble_eq_true rfl))
      replace hP := zl_e hP hv4
      refine wz_cI_of (zas (zcons rfl (zcons rfl (zcons (zvi (rfl : i3 a2 = i3 a2)) rfl))) c9) ?_
      clear c9
      exact zlG hP (rfl : i3 v4 = i3 v4) ⟨hZ, zC_r, zU_r, zG_w zG_r (Nat.le_of_ble_eq_true rfl) (Nat.le_of_ble_eq_true rfl)⟩
    · replace hP := zE_n hP h3
      exact zlGe (E := 12) hP ⟨hZ, zC_r, zU_r, zG_w (zG_k rfl) (Nat.le_of_ble_eq_true rfl) (Nat.le_of_ble_eq_true rfl)⟩
  · replace hP := zE_n hP h2
    exact zlGe (E := 23) hP ⟨hZ, zC_r, zU_r, zG_w (zG_k rfl) (Nat.le_of_ble_eq_true rfl) (Nat.le_of_ble_eq_true rfl)⟩
/- yX11_pay -/
def zx_228 (Z : qz_Z) (a1 : Int) (a2 : Int) : qz_Z × Int × Int := (if 0 ≤ a1 ∧ a1 < (Z 11 0 0 4) then (if 1 ≤ a2 ∧ a2 ≤ 9999999 then (if (99999999 - a2) < (Z 45 0 a1 3) then (Z, 0, 15) else (zlet (zdd Z 13 a1 a2 0 0 0 0) (fun Z8 => (zlet2 (zf_31 Z8 0 a1 a2) (fun Z9 v10 => (Z9, v10, 0)))))) else (Z, 0, 13)) else (Z, 0, 24))
theorem sx_228 {M : Nat} {Z : qz_Z} {ν : qz_N} (hZ : zH ((none, M) : zSM) Z) (hM : ((none, M) : zSM).2 + 1 ≤ 1000000000) {a1 : Int} (ga1 : -2147483648 ≤ a1 ∧ a1 ≤ 2147483647) {a2 : Int} (ga2 : -2147483648 ≤ a2 ∧ a2 ≤ 2147483647) : ∃ (Z1 : qz_Z) (ν1 : qz_N) (v E : Int), (Z1, v, E) = zx_228 Z a1 a2 ∧ qf_228 [.inr (.inr (some (0, 0, 0))), .inl (i3 a1), .inl (i3 a2)] (zm Z ν) = some (zm Z1 ν1, zoX v E) ∧ (fun Z1 ν1 => zH (zb ((none, M) : zSM) 1) Z1 ∧ zC [3, 12, 13, 14, 40, 41, 42, 43, 44, 45, 46, 47, 48, 49, 50, 51, 52, 53, 54, 61, 68, 1099, 1100, 1101, 1102, 1103, 1104, 1105, 1106, 1107, 1108, 1109, 1110, 1111, 1112, 1113, 1114, 1115, 1116] Z Z1 ∧ zU [0, 2, 3, 4, 5, 6, 7, 8, 9] Z Z1 ∧ zG 1 6 ν ν1) Z1 ν1 := by
  obtain ⟨P, hP⟩ := zx (zx_228 Z a1 a2)
  refine zc_G (Q := fun Z1 ν1 => zH (zb ((none, M) : zSM) 1) Z1 ∧ zC [3, 12, 13, 14, 40, 41, 42, 43, 44, 45, 46, 47, 48, 49, 50, 51, 52, 53, 54, 61, 68, 1099, 1100, 1101, 1102, 1103, 1104, 1105, 1106, 1107, 1108, 1109, 1110, 1111, 1112, 1113, 1114, 1115, 1116] Z Z1 ∧ zU [0, 2, 3, 4, 5, 6, 7, 8, 9] Z Z1 ∧ zG 1 6 ν ν1) hP (fw_228 (i3 a1) (i3 a2) _ _ ?_)
  replace hP : zE P (zx_228 Z a1 a2) := hP
  unfold zx_228 at hP
  have r1 := zH_k hZ 11 0 0 4 (lo := 0) (hi := 8) (by decide) rfl
  refine wz_thing (rfl : i3 a1 = i3 a1) (zm_rd (Z := Z) (ν := ν) (k := 11) (show ((0 : Nat) : Int) = 0 from rfl) (show ((0 : Nat) : Int) = 0 from rfl) (show ((4 : Nat) : Int) = 4 from rfl)) (by omega) (by omega) (by omega) (by omega) (fun h2 => ?_) (fun h2 => ?_)
  · replace hP := zE_p hP h2
    refine wz_inR (rfl : i3 a2 = i3 a2) (show (1 : Int32) = i3 1 from rfl) (show (9999999 : Int32) = i3 9999999 from rfl) (by omega) (by omega) (by omega) (by omega) (by omega) (by omega) (fun h3 => ?_) (fun h3 => ?_)
    · replace hP := zE_p hP h3
      refine wz_i0 (i3O (n := 8) (rfl : i3 a1 = i3 a1) (by omega) (by omega) (by omega)) ?_
      have r4 := zH_f hZ 45 0 a1 3
      refine wz_br (i3L (i3S (show (99999999 : Int32) = i3 99999999 from rfl) (rfl : i3 a2 = i3 a2)) (zm_rd (Z := Z) (ν := ν) (k := 45) (show ((0 : Nat) : Int) = 0 from rfl) (i3I (y := a1) (rfl : i3 a1 = i3 a1) (by omega) (by omega) (by omega)) (show ((3 : Nat) : Int) = 3 from rfl)) (by omega) (by omega) (by omega) (by omega)) (fun h5 => ?_) (fun h5 => ?_)
      · replace hP := zE_p hP h5
        refine wz_inT_n (show (0 : Int32) = i3 0 from rfl) (by omega) (by omega) (by omega) ?_
        exact zlGe (E := 14) hP ⟨(zbw (a := 0) (c := 1) hZ (Nat.le_of_ble_eq_true rfl)), zC_r, zU_r, zG_w (zG_k rfl) (Nat.le_of_ble_eq_true rfl) (Nat.le_of_ble_eq_true rfl)⟩
      · replace hP := zE_n hP h5
        refine wz_inT_y (show (1 : Int32) = i3 1 from rfl) (by omega) (by omega) (by omega) ?_
        refine dc_J (zcons rfl (zcons (zvi (show (13 : Int32) = i3 13 from rfl)) (zcons (zvi (rfl : i3 a1 = i3 a1)) (zcons (zvi (rfl : i3 a2 = i3 a2)) (zcons (zvi (show (0 : Int32) = i3 0 from rfl)) (zcons (zvi (show (0 : Int32) = i3 0 from rfl)) (zcons (zvi (show (0 : Int32) = i3 0 from rfl)) (zcons (zvi (show (0 : Int32) = i3 0 from rfl)) rfl)))))))) (dg (hZ).1 (by omega) (by omega) (by omega) (by omega) (by omega) (by omega) (by omega) ?_)
        have hZ8I := zH_dd hZ (a1 := 13) (a2 := a1) (a3 := a2) (a4 := 0) (a5 := 0) (a6 := 0) (a7 := 0) (by omega) (by omega) (by omega) (by omega) (by omega) (by omega) (by omega)
        have kZ8 : zC [3, 12, 13, 14, 40, 41, 42, 43, 44, 45, 46, 47, 48, 49, 50, 51, 52, 53, 54, 61, 68, 1099, 1100, 1101, 1102, 1103, 1104, 1105, 1106, 1107, 1108, 1109, 1110, 1111, 1112, 1113, 1114, 1115, 1116] Z (zdd Z 13 a1 a2 0 0 0 0) := zC_k zdd_K (by decide) (by decide)
        have hZ8A : (zdd Z 13 a1 a2 0 0 0 0) 68 0 0 0 = 13 ∧ (zdd Z 13 a1 a2 0 0 0 0) 68 0 0 1 = a1 ∧ (zdd Z 13 a1 a2 0 0 0 0) 68 0 0 2 = a2 ∧ (zdd Z 13 a1 a2 0 0 0 0) 68 0 0 3 = 0 ∧ (zdd Z 13 a1 a2 0 0 0 0) 68 0 0 4 = 0 ∧ (zdd Z 13 a1 a2 0 0 0 0) 68 0 0 5 = 0 ∧ (zdd Z 13 a1 a2 0 0 0 0) 68 0 0 6 = 0 := ⟨zdd_68, zdd_68, zdd_68, zdd_68, zdd_68, zdd_68, zdd_68⟩
        obtain ⟨Z8, hZ8⟩ := zx (zdd Z 13 a1 a2 0 0 0 0)
        have dZ8 : ∀ {k : Nat} {i j : Int}, zhall k = true → ¬ (k = 11 ∧ (j = 15 ∨ j = 16)) → Z8 k 0 i j = Z k 0 i j := fun hk hj => by rw [hZ8]; exact zdd_h (hZ).1 hk hj
        have jZ8 : zU [0, 2, 3, 4, 5, 6, 7, 8, 9] Z (zdd Z 13 a1 a2 0 0 0 0) := zU_dd (hZ).1
        rw [← hZ8] at hZ8I kZ8 jZ8 hZ8A ⊢
        have hZ8U : zU [0, 2, 3, 4, 5, 6, 7, 8, 9] Z Z8 := zU_t zU_r jZ8 (zU_b1 (List.Mem.head _) (zU_b1 (List.Mem.tail _ (List.Mem.head _)) (zU_b1 (List.Mem.tail _ (List.Mem.tail _ (List.Mem.head _))) (zU_b1 (List.Mem.tail _ (List.Mem.tail _ (List.Mem.tail _ (List.Mem.head _)))) (zU_b1 (List.Mem.tail _ (List.Mem.tail _ (List.Mem.tail _ (List.Mem.tail _ (List.Mem.head _))))) (zU_b1 (List.Mem.tail _ (List.Mem.tail _ (List.Mem.tail _ (List.Mem.tail _ (List.Mem.tail _ (List.Mem.head _)))))) (zU_b1 (List.Mem.tail _ (List.Mem.tail _ (List.Mem.tail _ (List.Mem.tail _ (List.Mem.tail _ (List.Mem.tail _ (List.Mem.head _))))))) (zU_b1 (List.Mem.tail _ (List.Mem.tail _ (List.Mem.tail _ (List.Mem.tail _ (List.Mem.tail _ (List.Mem.tail _ (List.Mem.tail _ (List.Mem.head _)))))))) (zU_b1 (List.Mem.tail _ (List.Mem.tail _ (List.Mem.tail _ (List.Mem.tail _ (List.Mem.tail _ (List.Mem.tail _ (List.Mem.tail _ (List.Mem.tail _ (List.Mem.head _))))))))) zU_b0)))))))))
        replace hP := zl_e hP hZ8
        have hZ8K : zC [3, 12, 13, 14, 40, 41, 42, 43, 44, 45, 46, 47, 48, 49, 50, 51, 52, 53, 54, 61, 68, 1099, 1100, 1101, 1102, 1103, 1104, 1105, 1106, 1107, 1108, 1109, 1110, 1111, 1112, 1113, 1114, 1115, 1116] Z Z8 := zC_t zC_r kZ8 (by decide)
        clear kZ8 hZ8
        refine fw_121 _ _ _ _ ?_
        refine wz_i1 rfl ?_
        refine wz_i0 (i3O (n := 7) (show (0 : Int32) = i3 0 from rfl) (by omega) (by omega) (by omega)) ?_
        refine wz_i0 (Eq.trans (i3To (Eq.trans (zm_rd (Z := Z8) (ν := ν) (k := 68) (show ((0 : Nat) : Int) = 0 from rfl) (show ((0 : Nat) : Int) = 0 from rfl) (show ((0 : Nat) : Int) = 0 from rfl)) (congrArg i3 ((hZ8A.1)))) (by omega) (by omega)) (decide_eq_false (by omega))) ?_
        refine wz_i0 (Eq.trans (i3T (Eq.trans (zm_rd (Z := Z8) (ν := ν) (k := 68) (show ((0 : Nat) : Int) = 0 from rfl) (show ((0 : Nat) : Int) = 0 from rfl) (show ((0 : Nat) : Int) = 0 from rfl)) (congrArg i3 ((hZ8A.1)))) (by omega) (by omega)) (decide_eq_false (by omega))) ?_
        refine wz_i0 (Eq.trans (i3T (Eq.trans (zm_rd (Z := Z8) (ν := ν) (k := 68) (show ((0 : Nat) : Int) = 0 from rfl) (show ((0 : Nat) : Int) = 0 from rfl) (show ((0 : Nat) : Int) = 0 from rfl)) (congrArg i3 ((hZ8A.1)))) (by omega) (by omega)) (decide_eq_false (by omega))) ?_
        refine wz_i0 (Eq.trans (i3T (Eq.trans (zm_rd (Z := Z8) (ν := ν) (k := 68) (show ((0 : Nat) : Int) = 0 from rfl) (show ((0 : Nat) : Int) = 0 from rfl) (show ((0 : Nat) : Int) = 0 from rfl)) (congrArg i3 ((hZ8A.1)))) (by omega) (by omega)) (decide_eq_false (by omega))) ?_
        refine wz_i0 (Eq.trans (i3T (Eq.trans (zm_rd (Z := Z8) (ν := ν) (k := 68) (show ((0 : Nat) : Int) = 0 from rfl) (show ((0 : Nat) : Int) = 0 from rfl) (show ((0 : Nat) : Int) = 0 from rfl)) (congrArg i3 ((hZ8A.1)))) (by omega) (by omega)) (decide_eq_false (by omega))) ?_
        refine wz_i0 (Eq.trans (i3T (Eq.trans (zm_rd (Z := Z8) (ν := ν) (k := 68) (show ((0 : Nat) : Int) = 0 from rfl) (show ((0 : Nat) : Int) = 0 from rfl) (show ((0 : Nat) : Int) = 0 from rfl)) (congrArg i3 ((hZ8A.1)))) (by omega) (by omega)) (decide_eq_false (by omega))) ?_
        refine wz_i0 (Eq.trans (i3T (Eq.trans (zm_rd (Z := Z8) (ν := ν) (k := 68) (show ((0 : Nat) : Int) = 0 from rfl) (show ((0 : Nat) : Int) = 0 from rfl) (show ((0 : Nat) : Int) = 0 from rfl)) (congrArg i3 ((hZ8A.1)))) (by omega) (by omega)) (decide_eq_false (by omega))) ?_
        refine wz_i0 (Eq.trans (i3T (Eq.trans (zm_rd (Z := Z8) (ν := ν) (k := 68) (show ((0 : Nat) : Int) = 0 from rfl) (show ((0 : Nat) : Int) = 0 from rfl) (show ((0 : Nat) : Int) = 0 from rfl)) (congrArg i3 ((hZ8A.1)))) (by omega) (by omega)) (decide_eq_false (by omega))) ?_
        refine wz_i0 (Eq.trans (i3T (Eq.trans (zm_rd (Z := Z8) (ν := ν) (k := 68) (show ((0 : Nat) : Int) = 0 from rfl) (show ((0 : Nat) : Int) = 0 from rfl) (show ((0 : Nat) : Int) = 0 from rfl)) (congrArg i3 ((hZ8A.1)))) (by omega) (by omega)) (decide_eq_false (by omega))) ?_
        refine wz_i0 (Eq.trans (i3T (Eq.trans (zm_rd (Z := Z8) (ν := ν) (k := 68) (show ((0 : Nat) : Int) = 0 from rfl) (show ((0 : Nat) : Int) = 0 from rfl) (show ((0 : Nat) : Int) = 0 from rfl)) (congrArg i3 ((hZ8A.1)))) (by omega) (by omega)) (decide_eq_false (by omega))) ?_
        refine wz_i0 (Eq.trans (i3T (Eq.trans (zm_rd (Z := Z8) (ν := ν) (k := 68) (show ((0 : Nat) : Int) = 0 from rfl) (show ((0 : Nat) : Int) = 0 from rfl) (show ((0 : Nat) : Int) = 0 from rfl)) (congrArg i3 ((hZ8A.1)))) (by omega) (by omega)) (decide_eq_false (by omega))) ?_
        refine wz_i0 (Eq.trans (i3T (Eq.trans (zm_rd (Z := Z8) (ν := ν) (k := 68) (show ((0 : Nat) : Int) = 0 from rfl) (show ((0 : Nat) : Int) = 0 from rfl) (show ((0 : Nat) : Int) = 0 from rfl)) (congrArg i3 ((hZ8A.1)))) (by omega) (by omega)) (decide_eq_false (by omega))) ?_
        refine wz_i0 (Eq.trans (i3T (Eq.trans (zm_rd (Z := Z8) (ν := ν) (k := 68) (show ((0 : Nat) : Int) = 0 from rfl) (show ((0 : Nat) : Int) = 0 from rfl) (show ((0 : Nat) : Int) = 0 from rfl)) (congrArg i3 ((hZ8A.1)))) (by omega) (by omega)) (decide_eq_false (by omega))) ?_
        refine wz_i0 (Eq.trans (i3T (Eq.trans (zm_rd (Z := Z8) (ν := ν) (k := 68) (show ((0 : Nat) : Int) = 0 from rfl) (show ((0 : Nat) : Int) = 0 from rfl) (show ((0 : Nat) : Int) = 0 from rfl)) (congrArg i3 ((hZ8A.1)))) (by omega) (by omega)) (decide_eq_false (by omega))) ?_
        refine wz_i1 (Eq.trans (i3T (Eq.trans (zm_rd (Z := Z8) (ν := ν) (k := 68) (show ((0 : Nat) : Int) = 0 from rfl) (show ((0 : Nat) : Int) = 0 from rfl) (show ((0 : Nat) : Int) = 0 from rfl)) (congrArg i3 ((hZ8A.1)))) (by omega) (by omega)) (decide_eq_true (by omega))) ?_
        refine wz_i1 rfl ?_
        refine wz_i0 (i3O (n := 7) (show (1 : Int32) = i3 1 from rfl) (by omega) (by omega) (by omega)) ?_
        refine wz_i1 rfl ?_
        refine wz_i0 (i3O (n := 7) (show (2 : Int32) = i3 2 from rfl) (by omega) (by omega) (by omega)) ?_
        obtain ⟨Z9, v10, hv10, c9, hZ9I, kZ9, jZ9, lv10, uv10⟩ := sp_31 (ν := ν) hZ8I 0 (a1 := a1) (by omega) (a2 := a2) (by omega) (zbh (c := 0) (k := 1) hM (Nat.le_of_ble_eq_true rfl))
        have hZ9U : zU [0, 2, 3, 4, 5, 6, 7, 8, 9] Z Z9 := zU_t hZ8U jZ9 (zU_b1 (List.Mem.head _) zU_b0)
        have hZ9K : zC [3, 12, 13, 14, 40, 41, 42, 43, 44, 45, 46, 47, 48, 49, 50, 51, 52, 53, 54, 61, 68, 1099, 1100, 1101, 1102, 1103, 1104, 1105, 1106, 1107, 1108, 1109, 1110, 1111, 1112, 1113, 1114, 1115, 1116] Z Z9 := zC_t hZ8K kZ9 (by decide)
        replace hP := zl_e2 hP hv10
        refine wz_cI_of (zas (zcons rfl (zcons (zvi (Eq.trans (zm_rd (Z := Z8) (ν := ν) (k := 68) (show ((0 : Nat) : Int) = 0 from rfl) (show ((0 : Nat) : Int) = 0 from rfl) (show ((1 : Nat) : Int) = 1 from rfl)) (congrArg i3 ((hZ8A.2.1))))) (zcons (zvi (Eq.trans (zm_rd (Z := Z8) (ν := ν) (k := 68) (show ((0 : Nat) : Int) = 0 from rfl) (show ((0 : Nat) : Int) = 0 from rfl) (show ((2 : Nat) : Int) = 2 from rfl)) (congrArg i3 ((hZ8A.2.2.1))))) rfl))) c9) ?_
        clear c9 hv10
        exact zlG hP (rfl : i3 v10 = i3 v10) ⟨hZ9I, hZ9K, hZ9U, zG_w zG_r (Nat.le_of_ble_eq_true rfl) (Nat.le_of_ble_eq_true rfl)⟩
    · replace hP := zE_n hP h3
      exact zlGe (E := 12) hP ⟨(zbw (a := 0) (c := 1) hZ (Nat.le_of_ble_eq_true rfl)), zC_r, zU_r, zG_w (zG_k rfl) (Nat.le_of_ble_eq_true rfl) (Nat.le_of_ble_eq_true rfl)⟩
  · replace hP := zE_n hP h2
    exact zlGe (E := 23) hP ⟨(zbw (a := 0) (c := 1) hZ (Nat.le_of_ble_eq_true rfl)), zC_r, zU_r, zG_w (zG_k rfl) (Nat.le_of_ble_eq_true rfl) (Nat.le_of_ble_eq_true rfl)⟩
/- yX10_putFault -/
def zf_178 (Z : qz_Z) (a0b : Int) (a1 : Int) (a2 : Int) : Int := (if a1 < 0 then 1 else (if (Z 11 a0b 0 3) ≤ a1 then 1 else (if a2 < (-1) then 1 else (if a2 < (Z 11 a0b 0 2) then (if a2 ≠ (-1) then (if (Z 44 a0b a1 10) = 0 then (if (Z 44 a0b a1 12) = a2 then 3 else (if (Z 44 a0b a1 12) < 0 then (if (Z 11 a0b 0 2) ≤ a2 then (zlet (zf_182 Z a0b a2) (fun v14 => (if ((Z 43 a0b a2 0) - v14) ≤ 0 then 3 else 0))) else (if (Z 43 a0b a2 10) ≤ (Z 11 a0b 0 13) then (zlet (zf_182 Z a0b a2) (fun v20 => (if ((Z 43 a0b a2 0) - v20) ≤ 0 then 3 else 0))) else 3)) else (if (Z 11 a0b 0 2) ≤ (Z 44 a0b a1 12) then (if (Z 11 a0b 0 2) ≤ a2 then (zlet (zf_182 Z a0b a2) (fun v25 => (if ((Z 43 a0b a2 0) - v25) ≤ 0 then 3 else 0))) else (if (Z 43 a0b a2 10) ≤ (Z 11 a0b 0 13) then (zlet (zf_182 Z a0b a2) (fun v31 => (if ((Z 43 a0b a2 0) - v31) ≤ 0 then 3 else 0))) else 3)) else (if (Z 43 a0b (Z 44 a0b a1 12) 10) ≤ (Z 11 a0b 0 13) then (if (Z 11 a0b 0 2) ≤ a2 then (zlet (zf_182 Z a0b a2) (fun v38 => (if ((Z 43 a0b a2 0) - v38) ≤ 0 then 3 else 0))) else (if (Z 43 a0b a2 10) ≤ (Z 11 a0b 0 13) then (zlet (zf_182 Z a0b a2) (fun v43 => (if ((Z 43 a0b a2 0) - v43) ≤ 0 then 3 else 0))) else 3)) else 3)))) else (if (Z 44 a0b a1 10) ≠ 1 then 3 else (if (Z 44 a0b a1 12) = a2 then 3 else (if (Z 44 a0b a1 12) < 0 then (if (Z 11 a0b 0 2) ≤ a2 then (zlet (zf_182 Z a0b a2) (fun v51 => (if ((Z 43 a0b a2 0) - v51) ≤ 0 then 3 else 0))) else (if (Z 43 a0b a2 10) ≤ (Z 11 a0b 0 13) then (zlet (zf_182 Z a0b a2) (fun v57 => (if ((Z 43 a0b a2 0) - v57) ≤ 0 then 3 else 0))) else 3)) else (if (Z 11 a0b 0 2) ≤ (Z 44 a0b a1 12) then (if (Z 11 a0b 0 2) ≤ a2 then (zlet (zf_182 Z a0b a2) (fun v62 => (if ((Z 43 a0b a2 0) - v62) ≤ 0 then 3 else 0))) else (if (Z 43 a0b a2 10) ≤ (Z 11 a0b 0 13) then (zlet (zf_182 Z a0b a2) (fun v68 => (if ((Z 43 a0b a2 0) - v68) ≤ 0 then 3 else 0))) else 3)) else (if (Z 43 a0b (Z 44 a0b a1 12) 10) ≤ (Z 11 a0b 0 13) then (if (Z 11 a0b 0 2) ≤ a2 then (zlet (zf_182 Z a0b a2) (fun v75 => (if ((Z 43 a0b a2 0) - v75) ≤ 0 then 3 else 0))) else (if (Z 43 a0b a2 10) ≤ (Z 11 a0b 0 13) then (zlet (zf_182 Z a0b a2) (fun v80 => (if ((Z 43 a0b a2 0) - v80) ≤ 0 then 3 else 0))) else 3)) else 3)))))) else (if (Z 44 a0b a1 10) = 0 then (if (Z 44 a0b a1 12) = 6 then 3 else (if (Z 44 a0b a1 12) < 0 then (zlet (zf_182 Z a0b 6) (fun v88 => (if (12 - v88) ≤ 0 then 3 else 0))) else (if (Z 11 a0b 0 2) ≤ (Z 44 a0b a1 12) then (zlet (zf_182 Z a0b 6) (fun v91 => (if (12 - v91) ≤ 0 then 3 else 0))) else (if (Z 43 a0b (Z 44 a0b a1 12) 10) ≤ (Z 11 a0b 0 13) then (zlet (zf_182 Z a0b 6) (fun v96 => (if (12 - v96) ≤ 0 then 3 else 0))) else 3)))) else (if (Z 44 a0b a1 10) ≠ 1 then 3 else (if (Z 44 a0b a1 12) = 6 then 3 else (if (Z 44 a0b a1 12) < 0 then (zlet (zf_182 Z a0b 6) (fun v102 => (if (12 - v102) ≤ 0 then 3 else 0))) else (if (Z 11 a0b 0 2) ≤ (Z 44 a0b a1 12) then (zlet (zf_182 Z a0b 6) (fun v105 => (if (12 - v105) ≤ 0 then 3 else 0))) else (if (Z 43 a0b (Z 44 a0b a1 12) 10) ≤ (Z 11 a0b 0 13) then (zlet (zf_182 Z a0b 6) (fun v110 => (if (12 - v110) ≤ 0 then 3 else 0))) else 3))))))) else 1))))
theorem sp_178 {s : zSM} {Z : qz_Z} {ν : qz_N} (hZ : zH s Z) (a0b : Nat) {a1 : Int} (ga1 : -2147483648 ≤ a1 ∧ a1 ≤ 2147483647) {a2 : Int} (ga2 : -2147483648 ≤ a2 ∧ a2 ≤ 2147483647) (hM : s.2 + 0 ≤ 1000000000) : ∃ P : Int, P = zf_178 Z a0b a1 a2 ∧ (qf_178 [.inr (.inr (some (10, a0b, 0))), .inl (i3 a1), .inl (i3 a2)] (zm Z ν) = some (zm Z ν, .inl (some (.inl (i3 P)))) ∧ 0 ≤ P ∧ P ≤ 3) := by
  obtain ⟨P, hP⟩ := zx (zf_178 Z a0b a1 a2)
  refine zc_R (Q := fun P => 0 ≤ P ∧ P ≤ 3) hP (fw_178 a0b (i3 a1) (i3 a2) _ _ ?_)
  replace hP : zE P (zf_178 Z a0b a1 a2) := hP
  unfold zf_178 at hP
  refine wz_br (i3L (rfl : i3 a1 = i3 a1) (show (0 : Int32) = i3 0 from rfl) (by omega) (by omega) (by omega) (by omega)) (fun h1 => ?_) (fun h1 => ?_)
  · replace hP := zE_p hP h1
    exact zlR hP (show (1 : Int32) = i3 1 from rfl) ⟨by omega, by omega⟩
  · replace hP := zE_n hP h1
    have r2 := zH_k hZ 11 a0b 0 3 (lo := 0) (hi := 48) (by decide) rfl
    refine wz_br (i3Le (zm_rd (Z := Z) (ν := ν) (k := 11) (rfl : ((a0b : Nat) : Int) = a0b) (show ((0 : Nat) : Int) = 0 from rfl) (show ((3 : Nat) : Int) = 3 from rfl)) (rfl : i3 a1 = i3 a1) (by omega) (by omega) (by omega) (by omega)) (fun h3 => ?_) (fun h3 => ?_)
    · replace hP := zE_p hP h3
      exact zlR hP (show (1 : Int32) = i3 1 from rfl) ⟨by omega, by omega⟩
    · replace hP := zE_n hP h3
      refine wz_br (i3L (rfl : i3 a2 = i3 a2) (show (-1 : Int32) = i3 (-1) from rfl) (by omega) (by omega) (by omega) (by omega)) (fun h4 => ?_) (fun h4 => ?_)
      · replace hP := zE_p hP h4
        exact zlR hP (show (1 : Int32) = i3 1 from rfl) ⟨by omega, by omega⟩
      · replace hP := zE_n hP h4
        have r5 := zH_k hZ 11 a0b 0 2 (lo := 0) (hi := 6) (by decide) rfl
        refine wz_br (i3L (rfl : i3 a2 = i3 a2) (zm_rd (Z := Z) (ν := ν) (k := 11) (rfl : ((a0b : Nat) : Int) = a0b) (show ((0 : Nat) : Int) = 0 from rfl) (show ((2 : Nat) : Int) = 2 from rfl)) (by omega) (by omega) (by omega) (by omega)) (fun h6 => ?_) (fun h6 => ?_)
        · replace hP := zE_p hP h6
          refine wz_i0 (i3O (n := 48) (rfl : i3 a1 = i3 a1) (by omega) (by omega) (by omega)) ?_
          refine wz_br (i3NE (rfl : i3 a2 = i3 a2) (show (-1 : Int32) = i3 (-1) from rfl) (by omega) (by omega) (by omega) (by omega)) (fun h7 => ?_) (fun h7 => ?_)
          · replace hP := zE_p hP h7
            have r8 := zH_k hZ 44 a0b a1 10 (lo := 0) (hi := 4) (by decide) rfl
            refine wz_br (i3E (zm_rd (Z := Z) (ν := ν) (k := 44) (rfl : ((a0b : Nat) : Int) = a0b) (i3I (y := a1) (rfl : i3 a1 = i3 a1) (by omega) (by omega) (by omega)) (show ((10 : Nat) : Int) = 10 from rfl)) (show (0 : Int32) = i3 0 from rfl) (by omega) (by omega) (by omega) (by omega)) (fun h9 => ?_) (fun h9 => ?_)
            · replace hP := zE_p hP h9
              have r10 := zH_k hZ 44 a0b a1 12 (lo := -1) (hi := 6) (by decide) rfl
              refine wz_br (i3E (zm_rd (Z := Z) (ν := ν) (k := 44) (rfl : ((a0b : Nat) : Int) = a0b) (i3I (y := a1) (rfl : i3 a1 = i3 a1) (by omega) (by omega) (by omega)) (show ((12 : Nat) : Int) = 12 from rfl)) (rfl : i3 a2 = i3 a2) (by omega) (by omega) (by omega) (by omega)) (fun h11 => ?_) (fun h11 => ?_)
              · replace hP := zE_p hP h11
                exact zlR hP (show (3 : Int32) = i3 3 from rfl) ⟨by omega, by omega⟩
              · replace hP := zE_n hP h11
                refine wz_br (i3L (zm_rd (Z := Z) (ν := ν) (k := 44) (rfl : ((a0b : Nat) : Int) = a0b) (i3I (y := a1) (rfl : i3 a1 = i3 a1) (by omega) (by omega) (by omega)) (show ((12 : Nat) : Int) = 12 from rfl)) (show (0 : Int32) = i3 0 from rfl) (by omega) (by omega) (by omega) (by omega)) (fun h12 => ?_) (fun h12 => ?_)
                · replace hP := zE_p hP h12
                  refine wz_i0 (Eq.trans (i3L (rfl : i3 a2 = i3 a2) (show (0 : Int32) = i3 0 from rfl) (by omega) (by omega) (by omega) (by omega)) (decide_eq_false (by omega))) ?_
                  refine wz_br (i3Le (zm_rd (Z := Z) (ν := ν) (k := 11) (rfl : ((a0b : Nat) : Int) = a0b) (show ((0 : Nat) : Int) = 0 from rfl) (show ((2 : Nat) : Int) = 2 from rfl)) (rfl : i3 a2 = i3 a2) (by omega) (by omega) (by omega) (by omega)) (fun h13 => ?_) (fun h13 => ?_)
                  · replace hP := zE_p hP h13
                    refine wz_i1 (Eq.trans (i3NE (rfl : i3 a2 = i3 a2) (show (6 : Int32) = i3 6 from rfl) (by omega) (by omega) (by omega) (by omega)) (decide_eq_true (by omega))) ?_
                    refine wz_i0 (i3O (n := 6) (rfl : i3 a2 = i3 a2) (by omega) (by omega) (by omega)) ?_
                    obtain ⟨v14, hv14, c9, lv14, uv14⟩ := sp_182 (ν := ν) hZ a0b (a1 := a2) (by omega) (zbh (c := 0) (k := 0) hM (Nat.le_of_ble_eq_true rfl))
                    replace hP := zl_e hP hv14
                    refine wz_cI_of (zas (zcons rfl (zcons (zvi (rfl : i3 a2 = i3 a2)) rfl)) c9) ?_
                    clear c9
                    have r15 := zH_k hZ 43 a0b a2 0 (lo := 0) (hi := 12) (by decide) rfl
                    refine wz_br (i3Le (i3S (zm_rd (Z := Z) (ν := ν) (k := 43) (rfl : ((a0b : Nat) : Int) = a0b) (i3I (y := a2) (rfl : i3 a2 = i3 a2) (by omega) (by omega) (by omega)) (show ((0 : Nat) : Int) = 0 from rfl)) (rfl : i3 v14 = i3 v14)) (show (0 : Int32) = i3 0 from rfl) (by omega) (by omega) (by omega) (by omega)) (fun h16 => ?_) (fun h16 => ?_)
                    · replace hP := zE_p hP h16
                      exact zlR hP (show (3 : Int32) = i3 3 from rfl) ⟨by omega, by omega⟩
                    · replace hP := zE_n hP h16
                      exact zlR hP (show (0 : Int32) = i3 0 from rfl) ⟨by omega, by omega⟩
                  · replace hP := zE_n hP h13
                    refine wz_i0 (i3O (n := 6) (rfl : i3 a2 = i3 a2) (by omega) (by omega) (by omega)) ?_
                    have r17 := zH_k hZ 43 a0b a2 10 (lo := -1) (hi := 695) (by decide) rfl
                    have r18 := zH_k hZ 11 a0b 0 13 (lo := 0) (hi := 671) (by decide) rfl
                    refine wz_br (i3Le (zm_rd (Z := Z) (ν := ν) (k := 43) (rfl : ((a0b : Nat) : Int) = a0b) (i3I (y := a2) (rfl : i3 a2 = i3 a2) (by omega) (by omega) (by omega)) (show ((10 : Nat) : Int) = 10 from rfl)) (zm_rd (Z := Z) (ν := ν) (k := 11) (rfl : ((a0b : Nat) : Int) = a0b) (show ((0 : Nat) : Int) = 0 from rfl) (show ((13 : Nat) : Int) = 13 from rfl)) (by omega) (by omega) (by omega) (by omega)) (fun h19 => ?_) (fun h19 => ?_)
                    · replace hP := zE_p hP h19
                      refine wz_i1 (Eq.trans (i3NE (rfl : i3 a2 = i3 a2) (show (6 : Int32) = i3 6 from rfl) (by omega) (by omega) (by omega) (by omega)) (decide_eq_true (by omega))) ?_
                      refine wz_i0 (i3O (n := 6) (rfl : i3 a2 = i3 a2) (by omega) (by omega) (by omega)) ?_
                      obtain ⟨v20, hv20, c9, lv20, uv20⟩ := sp_182 (ν := ν) hZ a0b (a1 := a2) (by omega) (zbh (c := 0) (k := 0) hM (Nat.le_of_ble_eq_true rfl))
                      replace hP := zl_e hP hv20
                      refine wz_cI_of (zas (zcons rfl (zcons (zvi (rfl : i3 a2 = i3 a2)) rfl)) c9) ?_
                      clear c9
                      have r21 := zH_k hZ 43 a0b a2 0 (lo := 0) (hi := 12) (by decide) rfl
                      refine wz_br (i3Le (i3S (zm_rd (Z := Z) (ν := ν) (k := 43) (rfl : ((a0b : Nat) : Int) = a0b) (i3I (y := a2) (rfl : i3 a2 = i3 a2) (by omega) (by omega) (by omega)) (show ((0 : Nat) : Int) = 0 from rfl)) (rfl : i3 v20 = i3 v20)) (show (0 : Int32) = i3 0 from rfl) (by omega) (by omega) (by omega) (by omega)) (fun h22 => ?_) (fun h22 => ?_)
                      · replace hP := zE_p hP h22
                        exact zlR hP (show (3 : Int32) = i3 3 from rfl) ⟨by omega, by omega⟩
                      · replace hP := zE_n hP h22
                        exact zlR hP (show (0 : Int32) = i3 0 from rfl) ⟨by omega, by omega⟩
                    · replace hP := zE_n hP h19
                      exact zlR hP (show (3 : Int32) = i3 3 from rfl) ⟨by omega, by omega⟩
                · replace hP := zE_n hP h12
                  refine wz_br (i3Le (zm_rd (Z := Z) (ν := ν) (k := 11) (rfl : ((a0b : Nat) : Int) = a0b) (show ((0 : Nat) : Int) = 0 from rfl) (show ((2 : Nat) : Int) = 2 from rfl)) (zm_rd (Z := Z) (ν := ν) (k := 44) (rfl : ((a0b : Nat) : Int) = a0b) (i3I (y := a1) (rfl : i3 a1 = i3 a1) (by omega) (by omega) (by omega)) (show ((12 : Nat) : Int) = 12 from rfl)) (by omega) (by omega) (by omega) (by omega)) (fun h23 => ?_) (fun h23 => ?_)
                  · replace hP := zE_p hP h23
                    refine wz_i0 (Eq.trans (i3L (rfl : i3 a2 = i3 a2) (show (0 : Int32) = i3 0 from rfl) (by omega) (by omega) (by omega) (by omega)) (decide_eq_false (by omega))) ?_
                    refine wz_br (i3Le (zm_rd (Z := Z) (ν := ν) (k := 11) (rfl : ((a0b : Nat) : Int) = a0b) (show ((0 : Nat) : Int) = 0 from rfl) (show ((2 : Nat) : Int) = 2 from rfl)) (rfl : i3 a2 = i3 a2) (by omega) (by omega) (by omega) (by omega)) (fun h24 => ?_) (fun h24 => ?_)
                    · replace hP := zE_p hP h24
                      refine wz_i1 (Eq.trans (i3NE (rfl : i3 a2 = i3 a2) (show (6 : Int32) = i3 6 from rfl) (by omega) (by omega) (by omega) (by omega)) (decide_eq_true (by omega))) ?_
                      refine wz_i0 (i3O (n := 6) (rfl : i3 a2 = i3 a2) (by omega) (by omega) (by omega)) ?_
                      obtain ⟨v25, hv25, c9, lv25, uv25⟩ := sp_182 (ν := ν) hZ a0b (a1 := a2) (by omega) (zbh (c := 0) (k := 0) hM (Nat.le_of_ble_eq_true rfl))
                      replace hP := zl_e hP hv25
                      refine wz_cI_of (zas (zcons rfl (zcons (zvi (rfl : i3 a2 = i3 a2)) rfl)) c9) ?_
                      clear c9
                      have r26 := zH_k hZ 43 a0b a2 0 (lo := 0) (hi := 12) (by decide) rfl
                      refine wz_br (i3Le (i3S (zm_rd (Z := Z) (ν := ν) (k := 43) (rfl : ((a0b : Nat) : Int) = a0b) (i3I (y := a2) (rfl : i3 a2 = i3 a2) (by omega) (by omega) (by omega)) (show ((0 : Nat) : Int) = 0 from rfl)) (rfl : i3 v25 = i3 v25)) (show (0 : Int32) = i3 0 from rfl) (by omega) (by omega) (by omega) (by omega)) (fun h27 => ?_) (fun h27 => ?_)
                      · replace hP := zE_p hP h27
                        exact zlR hP (show (3 : Int32) = i3 3 from rfl) ⟨by omega, by omega⟩
                      · replace hP := zE_n hP h27
                        exact zlR hP (show (0 : Int32) = i3 0 from rfl) ⟨by omega, by omega⟩
                    · replace hP := zE_n hP h24
                      refine wz_i0 (i3O (n := 6) (rfl : i3 a2 = i3 a2) (by omega) (by omega) (by omega)) ?_
                      have r28 := zH_k hZ 43 a0b a2 10 (lo := -1) (hi := 695) (by decide) rfl
                      have r29 := zH_k hZ 11 a0b 0 13 (lo := 0) (hi := 671) (by decide) rfl
                      refine wz_br (i3Le (zm_rd (Z := Z) (ν := ν) (k := 43) (rfl : ((a0b : Nat) : Int) = a0b) (i3I (y := a2) (rfl : i3 a2 = i3 a2) (by omega) (by omega) (by omega)) (show ((10 : Nat) : Int) = 10 from rfl)) (zm_rd (Z := Z) (ν := ν) (k := 11) (rfl : ((a0b : Nat) : Int) = a0b) (show ((0 : Nat) : Int) = 0 from rfl) (show ((13 : Nat) : Int) = 13 from rfl)) (by omega) (by omega) (by omega) (by omega)) (fun h30 => ?_) (fun h30 => ?_)
                      · replace hP := zE_p hP h30
                        refine wz_i1 (Eq.trans (i3NE (rfl : i3 a2 = i3 a2) (show (6 : Int32) = i3 6 from rfl) (by omega) (by omega) (by omega) (by omega)) (decide_eq_true (by omega))) ?_
                        refine wz_i0 (i3O (n := 6) (rfl : i3 a2 = i3 a2) (by omega) (by omega) (by omega)) ?_
                        obtain ⟨v31, hv31, c9, lv31, uv31⟩ := sp_182 (ν := ν) hZ a0b (a1 := a2) (by omega) (zbh (c := 0) (k := 0) hM (Nat.le_of_ble_eq_true rfl))
                        replace hP := zl_e hP hv31
                        refine wz_cI_of (zas (zcons rfl (zcons (zvi (rfl : i3 a2 = i3 a2)) rfl)) c9) ?_
                        clear c9
                        have r32 := zH_k hZ 43 a0b a2 0 (lo := 0) (hi := 12) (by decide) rfl
                        refine wz_br (i3Le (i3S (zm_rd (Z := Z) (ν := ν) (k := 43) (rfl : ((a0b : Nat) : Int) = a0b) (i3I (y := a2) (rfl : i3 a2 = i3 a2) (by omega) (by omega) (by omega)) (show ((0 : Nat) : Int) = 0 from rfl)) (rfl : i3 v31 = i3 v31)) (show (0 : Int32) = i3 0 from rfl) (by omega) (by omega) (by omega) (by omega)) (fun h33 => ?_) (fun h33 => ?_)
                        · replace hP := zE_p hP h33
                          exact zlR hP (show (3 : Int32) = i3 3 from rfl) ⟨by omega, by omega⟩
                        · replace hP := zE_n hP h33
                          exact zlR hP (show (0 : Int32) = i3 0 from rfl) ⟨by omega, by omega⟩
                      · replace hP := zE_n hP h30
                        exact zlR hP (show (3 : Int32) = i3 3 from rfl) ⟨by omega, by omega⟩
                  · replace hP := zE_n hP h23
                    refine wz_i0 (i3O (n := 6) (zm_rd (Z := Z) (ν := ν) (k := 44) (rfl : ((a0b : Nat) : Int) = a0b) (i3I (y := a1) (rfl : i3 a1 = i3 a1) (by omega) (by omega) (by omega)) (show ((12 : Nat) : Int) = 12 from rfl)) (by omega) (by omega) (by omega)) ?_
                    have r34 := zH_k hZ 43 a0b (Z 44 a0b a1 12) 10 (lo := -1) (hi := 695) (by decide) rfl
                    have r35 := zH_k hZ 11 a0b 0 13 (lo := 0) (hi := 671) (by decide) rfl
                    refine wz_br (i3Le (zm_rd (Z := Z) (ν := ν) (k := 43) (rfl : ((a0b : Nat) : Int) = a0b) (i3I (y := (Z 44 a0b a1 12)) (zm_rd (Z := Z) (ν := ν) (k := 44) (rfl : ((a0b : Nat) : Int) = a0b) (i3I (y := a1) (rfl : i3 a1 = i3 a1) (by omega) (by omega) (by omega)) (show ((12 : Nat) : Int) = 12 from rfl)) (by omega) (by omega) (by omega)) (show ((10 : Nat) : Int) = 10 from rfl)) (zm_rd (Z := Z) (ν := ν) (k := 11) (rfl : ((a0b : Nat) : Int) = a0b) (show ((0 : Nat) : Int) = 0 from rfl) (show ((13 : Nat) : Int) = 13 from rfl)) (by omega) (by omega) (by omega) (by omega)) (fun h36 => ?_) (fun h36 => ?_)
                    · replace hP := zE_p hP h36
                      refine wz_i0 (Eq.trans (i3L (rfl : i3 a2 = i3 a2) (show (0 : Int32) = i3 0 from rfl) (by omega) (by omega) (by omega) (by omega)) (decide_eq_false (by omega))) ?_
                      refine wz_br (i3Le (zm_rd (Z := Z) (ν := ν) (k := 11) (rfl : ((a0b : Nat) : Int) = a0b) (show ((0 : Nat) : Int) = 0 from rfl) (show ((2 : Nat) : Int) = 2 from rfl)) (rfl : i3 a2 = i3 a2) (by omega) (by omega) (by omega) (by omega)) (fun h37 => ?_) (fun h37 => ?_)
                      · replace hP := zE_p hP h37
                        refine wz_i1 (Eq.trans (i3NE (rfl : i3 a2 = i3 a2) (show (6 : Int32) = i3 6 from rfl) (by omega) (by omega) (by omega) (by omega)) (decide_eq_true (by omega))) ?_
                        refine wz_i0 (i3O (n := 6) (rfl : i3 a2 = i3 a2) (by omega) (by omega) (by omega)) ?_
                        obtain ⟨v38, hv38, c9, lv38, uv38⟩ := sp_182 (ν := ν) hZ a0b (a1 := a2) (by omega) (zbh (c := 0) (k := 0) hM (Nat.le_of_ble_eq_true rfl))
                        replace hP := zl_e hP hv38
                        refine wz_cI_of (zas (zcons rfl (zcons (zvi (rfl : i3 a2 = i3 a2)) rfl)) c9) ?_
                        clear c9
                        have r39 := zH_k hZ 43 a0b a2 0 (lo := 0) (hi := 12) (by decide) rfl
                        refine wz_br (i3Le (i3S (zm_rd (Z := Z) (ν := ν) (k := 43) (rfl : ((a0b : Nat) : Int) = a0b) (i3I (y := a2) (rfl : i3 a2 = i3 a2) (by omega) (by omega) (by omega)) (show ((0 : Nat) : Int) = 0 from rfl)) (rfl : i3 v38 = i3 v38)) (show (0 : Int32) = i3 0 from rfl) (by omega) (by omega) (by omega) (by omega)) (fun h40 => ?_) (fun h40 => ?_)
                        · replace hP := zE_p hP h40
                          exact zlR hP (show (3 : Int32) = i3 3 from rfl) ⟨by omega, by omega⟩
                        · replace hP := zE_n hP h40
                          exact zlR hP (show (0 : Int32) = i3 0 from rfl) ⟨by omega, by omega⟩
                      · replace hP := zE_n hP h37
                        refine wz_i0 (i3O (n := 6) (rfl : i3 a2 = i3 a2) (by omega) (by omega) (by omega)) ?_
                        have r41 := zH_k hZ 43 a0b a2 10 (lo := -1) (hi := 695) (by decide) rfl
                        refine wz_br (i3Le (zm_rd (Z := Z) (ν := ν) (k := 43) (rfl : ((a0b : Nat) : Int) = a0b) (i3I (y := a2) (rfl : i3 a2 = i3 a2) (by omega) (by omega) (by omega)) (show ((10 : Nat) : Int) = 10 from rfl)) (zm_rd (Z := Z) (ν := ν) (k := 11) (rfl : ((a0b : Nat) : Int) = a0b) (show ((0 : Nat) : Int) = 0 from rfl) (show ((13 : Nat) : Int) = 13 from rfl)) (by omega) (by omega) (by omega) (by omega)) (fun h42 => ?_) (fun h42 => ?_)
                        · replace hP := zE_p hP h42
                          refine wz_i1 (Eq.trans (i3NE (rfl : i3 a2 = i3 a2) (show (6 : Int32) = i3 6 from rfl) (by omega) (by omega) (by omega) (by omega)) (decide_eq_true (by omega))) ?_
                          refine wz_i0 (i3O (n := 6) (rfl : i3 a2 = i3 a2) (by omega) (by omega) (by omega)) ?_
                          obtain ⟨v43, hv43, c9, lv43, uv43⟩ := sp_182 (ν := ν) hZ a0b (a1 := a2) (by omega) (zbh (c := 0) (k := 0) hM (Nat.le_of_ble_eq_true rfl))
                          replace hP := zl_e hP hv43
                          refine wz_cI_of (zas (zcons rfl (zcons (zvi (rfl : i3 a2 = i3 a2)) rfl)) c9) ?_
                          clear c9
                          have r44 := zH_k hZ 43 a0b a2 0 (lo := 0) (hi := 12) (by decide) rfl
                          refine wz_br (i3Le (i3S (zm_rd (Z := Z) (ν := ν) (k := 43) (rfl : ((a0b : Nat) : Int) = a0b) (i3I (y := a2) (rfl : i3 a2 = i3 a2) (by omega) (by omega) (by omega)) (show ((0 : Nat) : Int) = 0 from rfl)) (rfl : i3 v43 = i3 v43)) (show (0 : Int32) = i3 0 from rfl) (by omega) (by omega) (by omega) (by omega)) (fun h45 => ?_) (fun h45 => ?_)
                          · replace hP := zE_p hP h45
                            exact zlR hP (show (3 : Int32) = i3 3 from rfl) ⟨by omega, by omega⟩
                          · replace hP := zE_n hP h45
                            exact zlR hP (show (0 : Int32) = i3 0 from rfl) ⟨by omega, by omega⟩
                        · replace hP := zE_n hP h42
                          exact zlR hP (show (3 : Int32) = i3 3 from rfl) ⟨by omega, by omega⟩
                    · replace hP := zE_n hP h36
                      exact zlR hP (show (3 : Int32) = i3 3 from rfl) ⟨by omega, by omega⟩
            · replace hP := zE_n hP h9
              refine wz_br (i3NE (zm_rd (Z := Z) (ν := ν) (k := 44) (rfl : ((a0b : Nat) : Int) = a0b) (i3I (y := a1) (rfl : i3 a1 = i3 a1) (by omega) (by omega) (by omega)) (show ((10 : Nat) : Int) = 10 from rfl)) (show (1 : Int32) = i3 1 from rfl) (by omega) (by omega) (by omega) (by omega)) (fun h46 => ?_) (fun h46 => ?_)
              · replace hP := zE_p hP h46
                exact zlR hP (show (3 : Int32) = i3 3 from rfl) ⟨by omega, by omega⟩
              · replace hP := zE_n hP h46
                have r47 := zH_k hZ 44 a0b a1 12 (lo := -1) (hi := 6) (by decide) rfl
                refine wz_br (i3E (zm_rd (Z := Z) (ν := ν) (k := 44) (rfl : ((a0b : Nat) : Int) = a0b) (i3I (y := a1) (rfl : i3 a1 = i3 a1) (by omega) (by omega) (by omega)) (show ((12 : Nat) : Int) = 12 from rfl)) (rfl : i3 a2 = i3 a2) (by omega) (by omega) (by omega) (by omega)) (fun h48 => ?_) (fun h48 => ?_)
                · replace hP := zE_p hP h48
                  exact zlR hP (show (3 : Int32) = i3 3 from rfl) ⟨by omega, by omega⟩
                · replace hP := zE_n hP h48
                  refine wz_br (i3L (zm_rd (Z := Z) (ν := ν) (k := 44) (rfl : ((a0b : Nat) : Int) = a0b) (i3I (y := a1) (rfl : i3 a1 = i3 a1) (by omega) (by omega) (by omega)) (show ((12 : Nat) : Int) = 12 from rfl)) (show (0 : Int32) = i3 0 from rfl) (by omega) (by omega) (by omega) (by omega)) (fun h49 => ?_) (fun h49 => ?_)
                  · replace hP := zE_p hP h49
                    refine wz_i0 (Eq.trans (i3L (rfl : i3 a2 = i3 a2) (show (0 : Int32) = i3 0 from rfl) (by omega) (by omega) (by omega) (by omega)) (decide_eq_false (by omega))) ?_
                    refine wz_br (i3Le (zm_rd (Z := Z) (ν := ν) (k := 11) (rfl : ((a0b : Nat) : Int) = a0b) (show ((0 : Nat) : Int) = 0 from rfl) (show ((2 : Nat) : Int) = 2 from rfl)) (rfl : i3 a2 = i3 a2) (by omega) (by omega) (by omega) (by omega)) (fun h50 => ?_) (fun h50 => ?_)
                    · replace hP := zE_p hP h50
                      refine wz_i1 (Eq.trans (i3NE (rfl : i3 a2 = i3 a2) (show (6 : Int32) = i3 6 from rfl) (by omega) (by omega) (by omega) (by omega)) (decide_eq_true (by omega))) ?_
                      refine wz_i0 (i3O (n := 6) (rfl : i3 a2 = i3 a2) (by omega) (by omega) (by omega)) ?_
                      obtain ⟨v51, hv51, c9, lv51, uv51⟩ := sp_182 (ν := ν) hZ a0b (a1 := a2) (by omega) (zbh (c := 0) (k := 0) hM (Nat.le_of_ble_eq_true rfl))
                      replace hP := zl_e hP hv51
                      refine wz_cI_of (zas (zcons rfl (zcons (zvi (rfl : i3 a2 = i3 a2)) rfl)) c9) ?_
                      clear c9
                      have r52 := zH_k hZ 43 a0b a2 0 (lo := 0) (hi := 12) (by decide) rfl
                      refine wz_br (i3Le (i3S (zm_rd (Z := Z) (ν := ν) (k := 43) (rfl : ((a0b : Nat) : Int) = a0b) (i3I (y := a2) (rfl : i3 a2 = i3 a2) (by omega) (by omega) (by omega)) (show ((0 : Nat) : Int) = 0 from rfl)) (rfl : i3 v51 = i3 v51)) (show (0 : Int32) = i3 0 from rfl) (by omega) (by omega) (by omega) (by omega)) (fun h53 => ?_) (fun h53 => ?_)
                      · replace hP := zE_p hP h53
                        exact zlR hP (show (3 : Int32) = i3 3 from rfl) ⟨by omega, by omega⟩
                      · replace hP := zE_n hP h53
                        exact zlR hP (show (0 : Int32) = i3 0 from rfl) ⟨by omega, by omega⟩
                    · replace hP := zE_n hP h50
                      refine wz_i0 (i3O (n := 6) (rfl : i3 a2 = i3 a2) (by omega) (by omega) (by omega)) ?_
                      have r54 := zH_k hZ 43 a0b a2 10 (lo := -1) (hi := 695) (by decide) rfl
                      have r55 := zH_k hZ 11 a0b 0 13 (lo := 0) (hi := 671) (by decide) rfl
                      refine wz_br (i3Le (zm_rd (Z := Z) (ν := ν) (k := 43) (rfl : ((a0b : Nat) : Int) = a0b) (i3I (y := a2) (rfl : i3 a2 = i3 a2) (by omega) (by omega) (by omega)) (show ((10 : Nat) : Int) = 10 from rfl)) (zm_rd (Z := Z) (ν := ν) (k := 11) (rfl : ((a0b : Nat) : Int) = a0b) (show ((0 : Nat) : Int) = 0 from rfl) (show ((13 : Nat) : Int) = 13 from rfl)) (by omega) (by omega) (by omega) (by omega)) (fun h56 => ?_) (fun h56 => ?_)
                      · replace hP := zE_p hP h56
                        refine wz_i1 (Eq.trans (i3NE (rfl : i3 a2 = i3 a2) (show (6 : Int32) = i3 6 from rfl) (by omega) (by omega) (by omega) (by omega)) (decide_eq_true (by omega))) ?_
                        refine wz_i0 (i3O (n := 6) (rfl : i3 a2 = i3 a2) (by omega) (by omega) (by omega)) ?_
                        obtain ⟨v57, hv57, c9, lv57, uv57⟩ := sp_182 (ν := ν) hZ a0b (a1 := a2) (by omega) (zbh (c := 0) (k := 0) hM (Nat.le_of_ble_eq_true rfl))
                        replace hP := zl_e hP hv57
                        refine wz_cI_of (zas (zcons rfl (zcons (zvi (rfl : i3 a2 = i3 a2)) rfl)) c9) ?_
                        clear c9
                        have r58 := zH_k hZ 43 a0b a2 0 (lo := 0) (hi := 12) (by decide) rfl
                        refine wz_br (i3Le (i3S (zm_rd (Z := Z) (ν := ν) (k := 43) (rfl : ((a0b : Nat) : Int) = a0b) (i3I (y := a2) (rfl : i3 a2 = i3 a2) (by omega) (by omega) (by omega)) (show ((0 : Nat) : Int) = 0 from rfl)) (rfl : i3 v57 = i3 v57)) (show (0 : Int32) = i3 0 from rfl) (by omega) (by omega) (by omega) (by omega)) (fun h59 => ?_) (fun h59 => ?_)
                        · replace hP := zE_p hP h59
                          exact zlR hP (show (3 : Int32) = i3 3 from rfl) ⟨by omega, by omega⟩
                        · replace hP := zE_n hP h59
                          exact zlR hP (show (0 : Int32) = i3 0 from rfl) ⟨by omega, by omega⟩
                      · replace hP := zE_n hP h56
                        exact zlR hP (show (3 : Int32) = i3 3 from rfl) ⟨by omega, by omega⟩
                  · replace hP := zE_n hP h49
                    refine wz_br (i3Le (zm_rd (Z := Z) (ν := ν) (k := 11) (rfl : ((a0b : Nat) : Int) = a0b) (show ((0 : Nat) : Int) = 0 from rfl) (show ((2 : Nat) : Int) = 2 from rfl)) (zm_rd (Z := Z) (ν := ν) (k := 44) (rfl : ((a0b : Nat) : Int) = a0b) (i3I (y := a1) (rfl : i3 a1 = i3 a1) (by omega) (by omega) (by omega)) (show ((12 : Nat) : Int) = 12 from rfl)) (by omega) (by omega) (by omega) (by omega)) (fun h60 => ?_) (fun h60 => ?_)
                    · replace hP := zE_p hP h60
                      refine wz_i0 (Eq.trans (i3L (rfl : i3 a2 = i3 a2) (show (0 : Int32) = i3 0 from rfl) (by omega) (by omega) (by omega) (by omega)) (decide_eq_false (by omega))) ?_
                      refine wz_br (i3Le (zm_rd (Z := Z) (ν := ν) (k := 11) (rfl : ((a0b : Nat) : Int) = a0b) (show ((0 : Nat) : Int) = 0 from rfl) (show ((2 : Nat) : Int) = 2 from rfl)) (rfl : i3 a2 = i3 a2) (by omega) (by omega) (by omega) (by omega)) (fun h61 => ?_) (fun h61 => ?_)
                      · replace hP := zE_p hP h61
                        refine wz_i1 (Eq.trans (i3NE (rfl : i3 a2 = i3 a2) (show (6 : Int32) = i3 6 from rfl) (by omega) (by omega) (by omega) (by omega)) (decide_eq_true (by omega))) ?_
                        refine wz_i0 (i3O (n := 6) (rfl : i3 a2 = i3 a2) (by omega) (by omega) (by omega)) ?_
                        obtain ⟨v62, hv62, c9, lv62, uv62⟩ := sp_182 (ν := ν) hZ a0b (a1 := a2) (by omega) (zbh (c := 0) (k := 0) hM (Nat.le_of_ble_eq_true rfl))
                        replace hP := zl_e hP hv62
                        refine wz_cI_of (zas (zcons rfl (zcons (zvi (rfl : i3 a2 = i3 a2)) rfl)) c9) ?_
                        clear c9
                        have r63 := zH_k hZ 43 a0b a2 0 (lo := 0) (hi := 12) (by decide) rfl
                        refine wz_br (i3Le (i3S (zm_rd (Z := Z) (ν := ν) (k := 43) (rfl : ((a0b : Nat) : Int) = a0b) (i3I (y := a2) (rfl : i3 a2 = i3 a2) (by omega) (by omega) (by omega)) (show ((0 : Nat) : Int) = 0 from rfl)) (rfl : i3 v62 = i3 v62)) (show (0 : Int32) = i3 0 from rfl) (by omega) (by omega) (by omega) (by omega)) (fun h64 => ?_) (fun h64 => ?_)
                        · replace hP := zE_p hP h64
                          exact zlR hP (show (3 : Int32) = i3 3 from rfl) ⟨by omega, by omega⟩
                        · replace hP := zE_n hP h64
                          exact zlR hP (show (0 : Int32) = i3 0 from rfl) ⟨by omega, by omega⟩
                      · replace hP := zE_n hP h61
                        refine wz_i0 (i3O (n := 6) (rfl : i3 a2 = i3 a2) (by omega) (by omega) (by omega)) ?_
                        have r65 := zH_k hZ 43 a0b a2 10 (lo := -1) (hi := 695) (by decide) rfl
                        have r66 := zH_k hZ 11 a0b 0 13 (lo := 0) (hi := 671) (by decide) rfl
                        refine wz_br (i3Le (zm_rd (Z := Z) (ν := ν) (k := 43) (rfl : ((a0b : Nat) : Int) = a0b) (i3I (y := a2) (rfl : i3 a2 = i3 a2) (by omega) (by omega) (by omega)) (show ((10 : Nat) : Int) = 10 from rfl)) (zm_rd (Z := Z) (ν := ν) (k := 11) (rfl : ((a0b : Nat) : Int) = a0b) (show ((0 : Nat) : Int) = 0 from rfl) (show ((13 : Nat) : Int) = 13 from rfl)) (by omega) (by omega) (by omega) (by omega)) (fun h67 => ?_) (fun h67 => ?_)
                        · replace hP := zE_p hP h67
                          refine wz_i1 (Eq.trans (i3NE (rfl : i3 a2 = i3 a2) (show (6 : Int32) = i3 6 from rfl) (by omega) (by omega) (by omega) (by omega)) (decide_eq_true (by omega))) ?_
                          refine wz_i0 (i3O (n := 6) (rfl : i3 a2 = i3 a2) (by omega) (by omega) (by omega)) ?_
                          obtain ⟨v68, hv68, c9, lv68, uv68⟩ := sp_182 (ν := ν) hZ a0b (a1 := a2) (by omega) (zbh (c := 0) (k := 0) hM (Nat.le_of_ble_eq_true rfl))
                          replace hP := zl_e hP hv68
                          refine wz_cI_of (zas (zcons rfl (zcons (zvi (rfl : i3 a2 = i3 a2)) rfl)) c9) ?_
                          clear c9
                          have r69 := zH_k hZ 43 a0b a2 0 (lo := 0) (hi := 12) (by decide) rfl
                          refine wz_br (i3Le (i3S (zm_rd (Z := Z) (ν := ν) (k := 43) (rfl : ((a0b : Nat) : Int) = a0b) (i3I (y := a2) (rfl : i3 a2 = i3 a2) (by omega) (by omega) (by omega)) (show ((0 : Nat) : Int) = 0 from rfl)) (rfl : i3 v68 = i3 v68)) (show (0 : Int32) = i3 0 from rfl) (by omega) (by omega) (by omega) (by omega)) (fun h70 => ?_) (fun h70 => ?_)
                          · replace hP := zE_p hP h70
                            exact zlR hP (show (3 : Int32) = i3 3 from rfl) ⟨by omega, by omega⟩
                          · replace hP := zE_n hP h70
                            exact zlR hP (show (0 : Int32) = i3 0 from rfl) ⟨by omega, by omega⟩
                        · replace hP := zE_n hP h67
                          exact zlR hP (show (3 : Int32) = i3 3 from rfl) ⟨by omega, by omega⟩
                    · replace hP := zE_n hP h60
                      refine wz_i0 (i3O (n := 6) (zm_rd (Z := Z) (ν := ν) (k := 44) (rfl : ((a0b : Nat) : Int) = a0b) (i3I (y := a1) (rfl : i3 a1 = i3 a1) (by omega) (by omega) (by omega)) (show ((12 : Nat) : Int) = 12 from rfl)) (by omega) (by omega) (by omega)) ?_
                      have r71 := zH_k hZ 43 a0b (Z 44 a0b a1 12) 10 (lo := -1) (hi := 695) (by decide) rfl
                      have r72 := zH_k hZ 11 a0b 0 13 (lo := 0) (hi := 671) (by decide) rfl
                      refine wz_br (i3Le (zm_rd (Z := Z) (ν := ν) (k := 43) (rfl : ((a0b : Nat) : Int) = a0b) (i3I (y := (Z 44 a0b a1 12)) (zm_rd (Z := Z) (ν := ν) (k := 44) (rfl : ((a0b : Nat) : Int) = a0b) (i3I (y := a1) (rfl : i3 a1 = i3 a1) (by omega) (by omega) (by omega)) (show ((12 : Nat) : Int) = 12 from rfl)) (by omega) (by omega) (by omega)) (show ((10 : Nat) : Int) = 10 from rfl)) (zm_rd (Z := Z) (ν := ν) (k := 11) (rfl : ((a0b : Nat) : Int) = a0b) (show ((0 : Nat) : Int) = 0 from rfl) (show ((13 : Nat) : Int) = 13 from rfl)) (by omega) (by omega) (by omega) (by omega)) (fun h73 => ?_) (fun h73 => ?_)
                      · replace hP := zE_p hP h73
                        refine wz_i0 (Eq.trans (i3L (rfl : i3 a2 = i3 a2) (show (0 : Int32) = i3 0 from rfl) (by omega) (by omega) (by omega) (by omega)) (decide_eq_false (by omega))) ?_
                        refine wz_br (i3Le (zm_rd (Z := Z) (ν := ν) (k := 11) (rfl : ((a0b : Nat) : Int) = a0b) (show ((0 : Nat) : Int) = 0 from rfl) (show ((2 : Nat) : Int) = 2 from rfl)) (rfl : i3 a2 = i3 a2) (by omega) (by omega) (by omega) (by omega)) (fun h74 => ?_) (fun h74 => ?_)
                        · replace hP := zE_p hP h74
                          refine wz_i1 (Eq.trans (i3NE (rfl : i3 a2 = i3 a2) (show (6 : Int32) = i3 6 from rfl) (by omega) (by omega) (by omega) (by omega)) (decide_eq_true (by omega))) ?_
                          refine wz_i0 (i3O (n := 6) (rfl : i3 a2 = i3 a2) (by omega) (by omega) (by omega)) ?_
                          obtain ⟨v75, hv75, c9, lv75, uv75⟩ := sp_182 (ν := ν) hZ a0b (a1 := a2) (by omega) (zbh (c := 0) (k := 0) hM (Nat.le_of_ble_eq_true rfl))
                          replace hP := zl_e hP hv75
                          refine wz_cI_of (zas (zcons rfl (zcons (zvi (rfl : i3 a2 = i3 a2)) rfl)) c9) ?_
                          clear c9
                          have r76 := zH_k hZ 43 a0b a2 0 (lo := 0) (hi := 12) (by decide) rfl
                          refine wz_br (i3Le (i3S (zm_rd (Z := Z) (ν := ν) (k := 43) (rfl : ((a0b : Nat) : Int) = a0b) (i3I (y := a2) (rfl : i3 a2 = i3 a2) (by omega) (by omega) (by omega)) (show ((0 : Nat) : Int) = 0 from rfl)) (rfl : i3 v75 = i3 v75)) (show (0 : Int32) = i3 0 from rfl) (by omega) (by omega) (by omega) (by omega)) (fun h77 => ?_) (fun h77 => ?_)
                          · replace hP := zE_p hP h77
                            exact zlR hP (show (3 : Int32) = i3 3 from rfl) ⟨by omega, by omega⟩
                          · replace hP := zE_n hP h77
                            exact zlR hP (show (0 : Int32) = i3 0 from rfl) ⟨by omega, by omega⟩
                        · replace hP := zE_n hP h74
                          refine wz_i0 (i3O (n := 6) (rfl : i3 a2 = i3 a2) (by omega) (by omega) (by omega)) ?_
                          have r78 := zH_k hZ 43 a0b a2 10 (lo := -1) (hi := 695) (by decide) rfl
                          refine wz_br (i3Le (zm_rd (Z := Z) (ν := ν) (k := 43) (rfl : ((a0b : Nat) : Int) = a0b) (i3I (y := a2) (rfl : i3 a2 = i3 a2) (by omega) (by omega) (by omega)) (show ((10 : Nat) : Int) = 10 from rfl)) (zm_rd (Z := Z) (ν := ν) (k := 11) (rfl : ((a0b : Nat) : Int) = a0b) (show ((0 : Nat) : Int) = 0 from rfl) (show ((13 : Nat) : Int) = 13 from rfl)) (by omega) (by omega) (by omega) (by omega)) (fun h79 => ?_) (fun h79 => ?_)
                          · replace hP := zE_p hP h79
                            refine wz_i1 (Eq.trans (i3NE (rfl : i3 a2 = i3 a2) (show (6 : Int32) = i3 6 from rfl) (by omega) (by omega) (by omega) (by omega)) (decide_eq_true (by omega))) ?_
                            refine wz_i0 (i3O (n := 6) (rfl : i3 a2 = i3 a2) (by omega) (by omega) (by omega)) ?_
                            obtain ⟨v80, hv80, c9, lv80, uv80⟩ := sp_182 (ν := ν) hZ a0b (a1 := a2) (by omega) (zbh (c := 0) (k := 0) hM (Nat.le_of_ble_eq_true rfl))
                            replace hP := zl_e hP hv80
                            refine wz_cI_of (zas (zcons rfl (zcons (zvi (rfl : i3 a2 = i3 a2)) rfl)) c9) ?_
                            clear c9
                            have r81 := zH_k hZ 43 a0b a2 0 (lo := 0) (hi := 12) (by decide) rfl
                            refine wz_br (i3Le (i3S (zm_rd (Z := Z) (ν := ν) (k := 43) (rfl : ((a0b : Nat) : Int) = a0b) (i3I (y := a2) (rfl : i3 a2 = i3 a2) (by omega) (by omega) (by omega)) (show ((0 : Nat) : Int) = 0 from rfl)) (rfl : i3 v80 = i3 v80)) (show (0 : Int32) = i3 0 from rfl) (by omega) (by omega) (by omega) (by omega)) (fun h82 => ?_) (fun h82 => ?_)
                            · replace hP := zE_p hP h82
                              exact zlR hP (show (3 : Int32) = i3 3 from rfl) ⟨by omega, by omega⟩
                            · replace hP := zE_n hP h82
                              exact zlR hP (show (0 : Int32) = i3 0 from rfl) ⟨by omega, by omega⟩
                          · replace hP := zE_n hP h79
                            exact zlR hP (show (3 : Int32) = i3 3 from rfl) ⟨by omega, by omega⟩
                      · replace hP := zE_n hP h73
                        exact zlR hP (show (3 : Int32) = i3 3 from rfl) ⟨by omega, by omega⟩
          · replace hP := zE_n hP h7
            have r83 := zH_k hZ 44 a0b a1 10 (lo := 0) (hi := 4) (by decide) rfl
            refine wz_br (i3E (zm_rd (Z := Z) (ν := ν) (k := 44) (rfl : ((a0b : Nat) : Int) = a0b) (i3I (y := a1) (rfl : i3 a1 = i3 a1) (by omega) (by omega) (by omega)) (show ((10 : Nat) : Int) = 10 from rfl)) (show (0 : Int32) = i3 0 from rfl) (by omega) (by omega) (by omega) (by omega)) (fun h84 => ?_) (fun h84 => ?_)
            · replace hP := zE_p hP h84
              have r85 := zH_k hZ 44 a0b a1 12 (lo := -1) (hi := 6) (by decide) rfl
              refine wz_br (i3E (zm_rd (Z := Z) (ν := ν) (k := 44) (rfl : ((a0b : Nat) : Int) = a0b) (i3I (y := a1) (rfl : i3 a1 = i3 a1) (by omega) (by omega) (by omega)) (show ((12 : Nat) : Int) = 12 from rfl)) (show (6 : Int32) = i3 6 from rfl) (by omega) (by omega) (by omega) (by omega)) (fun h86 => ?_) (fun h86 => ?_)
              · replace hP := zE_p hP h86
                exact zlR hP (show (3 : Int32) = i3 3 from rfl) ⟨by omega, by omega⟩
              · replace hP := zE_n hP h86
                refine wz_br (i3L (zm_rd (Z := Z) (ν := ν) (k := 44) (rfl : ((a0b : Nat) : Int) = a0b) (i3I (y := a1) (rfl : i3 a1 = i3 a1) (by omega) (by omega) (by omega)) (show ((12 : Nat) : Int) = 12 from rfl)) (show (0 : Int32) = i3 0 from rfl) (by omega) (by omega) (by omega) (by omega)) (fun h87 => ?_) (fun h87 => ?_)
                · replace hP := zE_p hP h87
                  refine wz_i1 (Eq.trans (i3Le (zm_rd (Z := Z) (ν := ν) (k := 11) (rfl : ((a0b : Nat) : Int) = a0b) (show ((0 : Nat) : Int) = 0 from rfl) (show ((2 : Nat) : Int) = 2 from rfl)) (show (6 : Int32) = i3 6 from rfl) (by omega) (by omega) (by omega) (by omega)) (decide_eq_true (by omega))) ?_
                  obtain ⟨v88, hv88, c9, lv88, uv88⟩ := sp_182 (ν := ν) hZ a0b (a1 := 6) (by omega) (zbh (c := 0) (k := 0) hM (Nat.le_of_ble_eq_true rfl))
                  replace hP := zl_e hP hv88
                  refine wz_cI_of (zas (zcons rfl (zcons (zvi (show (6 : Int32) = i3 6 from rfl)) rfl)) c9) ?_
                  clear c9
                  refine wz_br (i3Le (i3S (show (12 : Int32) = i3 12 from rfl) (rfl : i3 v88 = i3 v88)) (show (0 : Int32) = i3 0 from rfl) (by omega) (by omega) (by omega) (by omega)) (fun h89 => ?_) (fun h89 => ?_)
                  · replace hP := zE_p hP h89
                    exact zlR hP (show (3 : Int32) = i3 3 from rfl) ⟨by omega, by omega⟩
                  · replace hP := zE_n hP h89
                    exact zlR hP (show (0 : Int32) = i3 0 from rfl) ⟨by omega, by omega⟩
                · replace hP := zE_n hP h87
                  refine wz_br (i3Le (zm_rd (Z := Z) (ν := ν) (k := 11) (rfl : ((a0b : Nat) : Int) = a0b) (show ((0 : Nat) : Int) = 0 from rfl) (show ((2 : Nat) : Int) = 2 from rfl)) (zm_rd (Z := Z) (ν := ν) (k := 44) (rfl : ((a0b : Nat) : Int) = a0b) (i3I (y := a1) (rfl : i3 a1 = i3 a1) (by omega) (by omega) (by omega)) (show ((12 : Nat) : Int) = 12 from rfl)) (by omega) (by omega) (by omega) (by omega)) (fun h90 => ?_) (fun h90 => ?_)
                  · replace hP := zE_p hP h90
                    refine wz_i1 (Eq.trans (i3Le (zm_rd (Z := Z) (ν := ν) (k := 11) (rfl : ((a0b : Nat) : Int) = a0b) (show ((0 : Nat) : Int) = 0 from rfl) (show ((2 : Nat) : Int) = 2 from rfl)) (show (6 : Int32) = i3 6 from rfl) (by omega) (by omega) (by omega) (by omega)) (decide_eq_true (by omega))) ?_
                    obtain ⟨v91, hv91, c9, lv91, uv91⟩ := sp_182 (ν := ν) hZ a0b (a1 := 6) (by omega) (zbh (c := 0) (k := 0) hM (Nat.le_of_ble_eq_true rfl))
                    replace hP := zl_e hP hv91
                    refine wz_cI_of (zas (zcons rfl (zcons (zvi (show (6 : Int32) = i3 6 from rfl)) rfl)) c9) ?_
                    clear c9
                    refine wz_br (i3Le (i3S (show (12 : Int32) = i3 12 from rfl) (rfl : i3 v91 = i3 v91)) (show (0 : Int32) = i3 0 from rfl) (by omega) (by omega) (by omega) (by omega)) (fun h92 => ?_) (fun h92 => ?_)
                    · replace hP := zE_p hP h92
                      exact zlR hP (show (3 : Int32) = i3 3 from rfl) ⟨by omega, by omega⟩
                    · replace hP := zE_n hP h92
                      exact zlR hP (show (0 : Int32) = i3 0 from rfl) ⟨by omega, by omega⟩
                  · replace hP := zE_n hP h90
                    refine wz_i0 (i3O (n := 6) (zm_rd (Z := Z) (ν := ν) (k := 44) (rfl : ((a0b : Nat) : Int) = a0b) (i3I (y := a1) (rfl : i3 a1 = i3 a1) (by omega) (by omega) (by omega)) (show ((12 : Nat) : Int) = 12 from rfl)) (by omega) (by omega) (by omega)) ?_
                    have r93 := zH_k hZ 43 a0b (Z 44 a0b a1 12) 10 (lo := -1) (hi := 695) (by decide) rfl
                    have r94 := zH_k hZ 11 a0b 0 13 (lo := 0) (hi := 671) (by decide) rfl
                    refine wz_br (i3Le (zm_rd (Z := Z) (ν := ν) (k := 43) (rfl : ((a0b : Nat) : Int) = a0b) (i3I (y := (Z 44 a0b a1 12)) (zm_rd (Z := Z) (ν := ν) (k := 44) (rfl : ((a0b : Nat) : Int) = a0b) (i3I (y := a1) (rfl : i3 a1 = i3 a1) (by omega) (by omega) (by omega)) (show ((12 : Nat) : Int) = 12 from rfl)) (by omega) (by omega) (by omega)) (show ((10 : Nat) : Int) = 10 from rfl)) (zm_rd (Z := Z) (ν := ν) (k := 11) (rfl : ((a0b : Nat) : Int) = a0b) (show ((0 : Nat) : Int) = 0 from rfl) (show ((13 : Nat) : Int) = 13 from rfl)) (by omega) (by omega) (by omega) (by omega)) (fun h95 => ?_) (fun h95 => ?_)
                    · replace hP := zE_p hP h95
                      refine wz_i1 (Eq.trans (i3Le (zm_rd (Z := Z) (ν := ν) (k := 11) (rfl : ((a0b : Nat) : Int) = a0b) (show ((0 : Nat) : Int) = 0 from rfl) (show ((2 : Nat) : Int) = 2 from rfl)) (show (6 : Int32) = i3 6 from rfl) (by omega) (by omega) (by omega) (by omega)) (decide_eq_true (by omega))) ?_
                      obtain ⟨v96, hv96, c9, lv96, uv96⟩ := sp_182 (ν := ν) hZ a0b (a1 := 6) (by omega) (zbh (c := 0) (k := 0) hM (Nat.le_of_ble_eq_true rfl))
                      replace hP := zl_e hP hv96
                      refine wz_cI_of (zas (zcons rfl (zcons (zvi (show (6 : Int32) = i3 6 from rfl)) rfl)) c9) ?_
                      clear c9
                      refine wz_br (i3Le (i3S (show (12 : Int32) = i3 12 from rfl) (rfl : i3 v96 = i3 v96)) (show (0 : Int32) = i3 0 from rfl) (by omega) (by omega) (by omega) (by omega)) (fun h97 => ?_) (fun h97 => ?_)
                      · replace hP := zE_p hP h97
                        exact zlR hP (show (3 : Int32) = i3 3 from rfl) ⟨by omega, by omega⟩
                      · replace hP := zE_n hP h97
                        exact zlR hP (show (0 : Int32) = i3 0 from rfl) ⟨by omega, by omega⟩
                    · replace hP := zE_n hP h95
                      exact zlR hP (show (3 : Int32) = i3 3 from rfl) ⟨by omega, by omega⟩
            · replace hP := zE_n hP h84
              refine wz_br (i3NE (zm_rd (Z := Z) (ν := ν) (k := 44) (rfl : ((a0b : Nat) : Int) = a0b) (i3I (y := a1) (rfl : i3 a1 = i3 a1) (by omega) (by omega) (by omega)) (show ((10 : Nat) : Int) = 10 from rfl)) (show (1 : Int32) = i3 1 from rfl) (by omega) (by omega) (by omega) (by omega)) (fun h98 => ?_) (fun h98 => ?_)
              · replace hP := zE_p hP h98
                exact zlR hP (show (3 : Int32) = i3 3 from rfl) ⟨by omega, by omega⟩
              · replace hP := zE_n hP h98
                have r99 := zH_k hZ 44 a0b a1 12 (lo := -1) (hi := 6) (by decide) rfl
                refine wz_br (i3E (zm_rd (Z := Z) (ν := ν) (k := 44) (rfl : ((a0b : Nat) : Int) = a0b) (i3I (y := a1) (rfl : i3 a1 = i3 a1) (by omega) (by omega) (by omega)) (show ((12 : Nat) : Int) = 12 from rfl)) (show (6 : Int32) = i3 6 from rfl) (by omega) (by omega) (by omega) (by omega)) (fun h100 => ?_) (fun h100 => ?_)
                · replace hP := zE_p hP h100
                  exact zlR hP (show (3 : Int32) = i3 3 from rfl) ⟨by omega, by omega⟩
                · replace hP := zE_n hP h100
                  refine wz_br (i3L (zm_rd (Z := Z) (ν := ν) (k := 44) (rfl : ((a0b : Nat) : Int) = a0b) (i3I (y := a1) (rfl : i3 a1 = i3 a1) (by omega) (by omega) (by omega)) (show ((12 : Nat) : Int) = 12 from rfl)) (show (0 : Int32) = i3 0 from rfl) (by omega) (by omega) (by omega) (by omega)) (fun h101 => ?_) (fun h101 => ?_)
                  · replace hP := zE_p hP h101
                    refine wz_i1 (Eq.trans (i3Le (zm_rd (Z := Z) (ν := ν) (k := 11) (rfl : ((a0b : Nat) : Int) = a0b) (show ((0 : Nat) : Int) = 0 from rfl) (show ((2 : Nat) : Int) = 2 from rfl)) (show (6 : Int32) = i3 6 from rfl) (by omega) (by omega) (by omega) (by omega)) (decide_eq_true (by omega))) ?_
                    obtain ⟨v102, hv102, c9, lv102, uv102⟩ := sp_182 (ν := ν) hZ a0b (a1 := 6) (by omega) (zbh (c := 0) (k := 0) hM (Nat.le_of_ble_eq_true rfl))
                    replace hP := zl_e hP hv102
                    refine wz_cI_of (zas (zcons rfl (zcons (zvi (show (6 : Int32) = i3 6 from rfl)) rfl)) c9) ?_
                    clear c9
                    refine wz_br (i3Le (i3S (show (12 : Int32) = i3 12 from rfl) (rfl : i3 v102 = i3 v102)) (show (0 : Int32) = i3 0 from rfl) (by omega) (by omega) (by omega) (by omega)) (fun h103 => ?_) (fun h103 => ?_)
                    · replace hP := zE_p hP h103
                      exact zlR hP (show (3 : Int32) = i3 3 from rfl) ⟨by omega, by omega⟩
                    · replace hP := zE_n hP h103
                      exact zlR hP (show (0 : Int32) = i3 0 from rfl) ⟨by omega, by omega⟩
                  · replace hP := zE_n hP h101
                    refine wz_br (i3Le (zm_rd (Z := Z) (ν := ν) (k := 11) (rfl : ((a0b : Nat) : Int) = a0b) (show ((0 : Nat) : Int) = 0 from rfl) (show ((2 : Nat) : Int) = 2 from rfl)) (zm_rd (Z := Z) (ν := ν) (k := 44) (rfl : ((a0b : Nat) : Int) = a0b) (i3I (y := a1) (rfl : i3 a1 = i3 a1) (by omega) (by omega) (by omega)) (show ((12 : Nat) : Int) = 12 from rfl)) (by omega) (by omega) (by omega) (by omega)) (fun h104 => ?_) (fun h104 => ?_)
                    · replace hP := zE_p hP h104
                      refine wz_i1 (Eq.trans (i3Le (zm_rd (Z := Z) (ν := ν) (k := 11) (rfl : ((a0b : Nat) : Int) = a0b) (show ((0 : Nat) : Int) = 0 from rfl) (show ((2 : Nat) : Int) = 2 from rfl)) (show (6 : Int32) = i3 6 from rfl) (by omega) (by omega) (by omega) (by omega)) (decide_eq_true (by omega))) ?_
                      obtain ⟨v105, hv105, c9, lv105, uv105⟩ := sp_182 (ν := ν) hZ a0b (a1 := 6) (by omega) (zbh (c := 0) (k := 0) hM (Nat.le_of_ble_eq_true rfl))
                      replace hP := zl_e hP hv105
                      refine wz_cI_of (zas (zcons rfl (zcons (zvi (show (6 : Int32) = i3 6 from rfl)) rfl)) c9) ?_
                      clear c9
                      refine wz_br (i3Le (i3S (show (12 : Int32) = i3 12 from rfl) (rfl : i3 v105 = i3 v105)) (show (0 : Int32) = i3 0 from rfl) (by omega) (by omega) (by omega) (by omega)) (fun h106 => ?_) (fun h106 => ?_)
                      · replace hP := zE_p hP h106
                        exact zlR hP (show (3 : Int32) = i3 3 from rfl) ⟨by omega, by omega⟩
                      · replace hP := zE_n hP h106
                        exact zlR hP (show (0 : Int32) = i3 0 from rfl) ⟨by omega, by omega⟩
                    · replace hP := zE_n hP h104
                      refine wz_i0 (i3O (n := 6) (zm_rd (Z := Z) (ν := ν) (k := 44) (rfl : ((a0b : Nat) : Int) = a0b) (i3I (y := a1) (rfl : i3 a1 = i3 a1) (by omega) (by omega) (by omega)) (show ((12 : Nat) : Int) = 12 from rfl)) (by omega) (by omega) (by omega)) ?_
                      have r107 := zH_k hZ 43 a0b (Z 44 a0b a1 12) 10 (lo := -1) (hi := 695) (by decide) rfl
                      have r108 := zH_k hZ 11 a0b 0 13 (lo := 0) (hi := 671) (by decide) rfl
                      refine wz_br (i3Le (zm_rd (Z := Z) (ν := ν) (k := 43) (rfl : ((a0b : Nat) : Int) = a0b) (i3I (y := (Z 44 a0b a1 12)) (zm_rd (Z := Z) (ν := ν) (k := 44) (rfl : ((a0b : Nat) : Int) = a0b) (i3I (y := a1) (rfl : i3 a1 = i3 a1) (by omega) (by omega) (by omega)) (show ((12 : Nat) : Int) = 12 from rfl)) (by omega) (by omega) (by omega)) (show ((10 : Nat) : Int) = 10 from rfl)) (zm_rd (Z := Z) (ν := ν) (k := 11) (rfl : ((a0b : Nat) : Int) = a0b) (show ((0 : Nat) : Int) = 0 from rfl) (show ((13 : Nat) : Int) = 13 from rfl)) (by omega) (by omega) (by omega) (by omega)) (fun h109 => ?_) (fun h109 => ?_)
                      · replace hP := zE_p hP h109
                        refine wz_i1 (Eq.trans (i3Le (zm_rd (Z := Z) (ν := ν) (k := 11) (rfl : ((a0b : Nat) : Int) = a0b) (show ((0 : Nat) : Int) = 0 from rfl) (show ((2 : Nat) : Int) = 2 from rfl)) (show (6 : Int32) = i3 6 from rfl) (by omega) (by omega) (by omega) (by omega)) (decide_eq_true (by omega))) ?_
                        obtain ⟨v110, hv110, c9, lv110, uv110⟩ := sp_182 (ν := ν) hZ a0b (a1 := 6) (by omega) (zbh (c := 0) (k := 0) hM (Nat.le_of_ble_eq_true rfl))
                        replace hP := zl_e hP hv110
                        refine wz_cI_of (zas (zcons rfl (zcons (zvi (show (6 : Int32) = i3 6 from rfl)) rfl)) c9) ?_
                        clear c9
                        refine wz_br (i3Le (i3S (show (12 : Int32) = i3 12 from rfl) (rfl : i3 v110 = i3 v110)) (show (0 : Int32) = i3 0 from rfl) (by omega) (by omega) (by omega) (by omega)) (fun h111 => ?_) (fun h111 => ?_)
                        · replace hP := zE_p hP h111
                          exact zlR hP (show (3 : Int32) = i3 3 from rfl) ⟨by omega, by omega⟩
                        · replace hP := zE_n hP h111
                          exact zlR hP (show (0 : Int32) = i3 0 from rfl) ⟨by omega, by omega⟩
                      · replace hP := zE_n hP h109
                        exact zlR hP (show (3 : Int32) = i3 3 from rfl) ⟨by omega, by omega⟩
        · replace hP := zE_n hP h6
          exact zlR hP (show (1 : Int32) = i3 1 from rfl) ⟨by omega, by omega⟩
