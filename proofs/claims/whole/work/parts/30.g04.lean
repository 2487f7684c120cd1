/- yX11_deliver -/
def zx_195 (Z : qz_Z) (a1 : Int) (a2 : Int) (a3 : Int) (a4 : Int) (a5 : Int) : qz_Z × Int × Int := (if 0 ≤ a1 ∧ a1 < (Z 11 0 0 1) then (if 0 ≤ a2 ∧ a2 < (Z 11 0 0 0) then (if 1 ≤ a3 ∧ a3 ≤ 40 then (if 0 ≤ a4 ∧ a4 ≤ 2000 then (if 0 ≤ a5 ∧ a5 ≤ a3 then (if 48 ≤ (Z 11 0 0 3) then (Z, 0, 15) else (zlet (zf_182 Z 0 6) (fun v11 => (if (12 - v11) ≤ 0 then (Z, 0, 15) else (zlet (zdd Z 2 a1 a2 a3 a4 a5 0) (fun Z15 => (zlet (zu Z15 44 0 (Z15 11 0 0 3) 0 a1) (fun Z18 => (zlet (zu Z18 44 0 (Z15 11 0 0 3) 1 a2) (fun Z19 => (zlet (zu Z19 44 0 (Z15 11 0 0 3) 2 (Z19 11 0 0 13)) (fun Z21 => (zlet (zu Z21 44 0 (Z15 11 0 0 3) 3 a3) (fun Z22 => (zlet (zu Z22 44 0 (Z15 11 0 0 3) 4 a3) (fun Z23 => (zlet (zu Z23 44 0 (Z15 11 0 0 3) 5 a5) (fun Z24 => (zlet (zu Z24 44 0 (Z15 11 0 0 3) 7 a4) (fun Z25 => (zlet (zu Z25 44 0 (Z15 11 0 0 3) 9 (-1)) (fun Z26 => (zlet (zu Z26 44 0 (Z15 11 0 0 3) 10 0) (fun Z27 => (zlet (zu Z27 44 0 (Z15 11 0 0 3) 12 6) (fun Z28 => (zlet (zu Z28 44 0 (Z15 11 0 0 3) 15 (-1)) (fun Z29 => (zlet (zu Z29 11 0 0 3 ((Z29 11 0 0 3) + 1)) (fun Z32 => (Z32, (Z29 11 0 0 3), 0))))))))))))))))))))))))))))))) else (Z, 0, 13)) else (Z, 0, 13)) else (Z, 0, 13)) else (Z, 0, 24)) else (Z, 0, 24))
theorem sx_195 {M : Nat} {Z : qz_Z} {ν : qz_N} (hZ : zH ((none, M) : zSM) Z) (hM : ((none, M) : zSM).2 + 0 ≤ 1000000000) {a1 : Int} (ga1 : -2147483648 ≤ a1 ∧ a1 ≤ 2147483647) {a2 : Int} (ga2 : -2147483648 ≤ a2 ∧ a2 ≤ 2147483647) {a3 : Int} (ga3 : -2147483648 ≤ a3 ∧ a3 ≤ 2147483647) {a4 : Int} (ga4 : -2147483648 ≤ a4 ∧ a4 ≤ 2147483647) {a5 : Int} (ga5 : -2147483648 ≤ a5 ∧ a5 ≤ 2147483647) : ∃ (Z1 : qz_Z) (ν1 : qz_N) (v E : Int), (Z1, v, E) = zx_195 Z a1 a2 a3 a4 a5 ∧ qf_195 [.inr (.inr (some (0, 0, 0))), .inl (i3 a1), .inl (i3 a2), .inl (i3 a3), .inl (i3 a4), .inl (i3 a5)] (zm Z ν) = some (zm Z1 ν1, zoX v E) ∧ (fun Z1 ν1 => zH ((none, M) : zSM) Z1 ∧ zC [3, 12, 13, 14, 40, 41, 42, 43, 44, 45, 46, 47, 48, 49, 50, 51, 52, 53, 54, 61, 68, 1099, 1100, 1101, 1102, 1103, 1104, 1105, 1106, 1107, 1108, 1109, 1110, 1111, 1112, 1113, 1114, 1115, 1116] Z Z1 ∧ zU [0, 2, 3, 4, 5, 6, 7, 8, 9] Z Z1 ∧ zG 1 6 ν ν1) Z1 ν1 := by
  obtain ⟨P, hP⟩ := zx (zx_195 Z a1 a2 a3 a4 a5)
  refine zc_G (Q := fun Z1 ν1 => zH ((none, M) : zSM) Z1 ∧ zC [3, 12, 13, 14, 40, 41, 42, 43, 44, 45, 46, 47, 48, 49, 50, 51, 52, 53, 54, 61, 68, 1099, 1100, 1101, 1102, 1103, 1104, 1105, 1106, 1107, 1108, 1109, 1110, 1111, 1112, 1113, 1114, 1115, 1116] Z Z1 ∧ zU [0, 2, 3, 4, 5, 6, 7, 8, 9] Z Z1 ∧ zG 1 6 ν ν1) hP (fw_195 (i3 a1) (i3 a2) (i3 a3) (i3 a4) (i3 a5) _ _ ?_)
  replace hP : zE P (zx_195 Z a1 a2 a3 a4 a5) := hP
  unfold zx_195 at hP
  have r1 := zH_k hZ 11 0 0 1 (lo := 0) (hi := 6) (by decide) rfl
  refine wz_thing (rfl : i3 a1 = i3 a1) (zm_rd (Z := Z) (ν := ν) (k := 11) (show ((0 : Nat) : Int) = 0 from rfl) (show ((0 : Nat) : Int) = 0 from rfl) (show ((1 : Nat) : Int) = 1 from rfl)) (by omega) (by omega) (by omega) (by omega) (fun h2 => ?_) (fun h2 => ?_)
  · replace hP := zE_p hP h2
    have r3 := zH_k hZ 11 0 0 0 (lo := 0) (hi := 5) (by decide) rfl
    refine wz_thing (rfl : i3 a2 = i3 a2) (zm_rd (Z := Z) (ν := ν) (k := 11) (show ((0 : Nat) : Int) = 0 from rfl) (show ((0 : Nat) : Int) = 0 from rfl) (show ((0 : Nat) : Int) = 0 from rfl)) (by omega) (by omega) (by omega) (by omega) (fun h4 => ?_) (fun h4 => ?_)
    · replace hP := zE_p hP h4
      refine wz_inR (rfl : i3 a3 = i3 a3) (show (1 : Int32) = i3 1 from rfl) (show (40 : Int32) = i3 40 from rfl) (by omega) (by omega) (by omega) (by omega) (by omega) (by omega) (fun h5 => ?_) (fun h5 => ?_)
      · replace hP := zE_p hP h5
        refine wz_inR (rfl : i3 a4 = i3 a4) (show (0 : Int32) = i3 0 from rfl) (show (2000 : Int32) = i3 2000 from rfl) (by omega) (by omega) (by omega) (by omega) (by omega) (by omega) (fun h6 => ?_) (fun h6 => ?_)
        · replace hP := zE_p hP h6
          refine wz_inR (rfl : i3 a5 = i3 a5) (show (0 : Int32) = i3 0 from rfl) (rfl : i3 a3 = i3 a3) (by omega) (by omega) (by omega) (by omega) (by omega) (by omega) (fun h7 => ?_) (fun h7 => ?_)
          · replace hP := zE_p hP h7
            have r8 := zH_k hZ 11 0 0 3 (lo := 0) (hi := 48) (by decide) rfl
            refine wz_br (i3Le (show (48 : Int32) = i3 48 from rfl) (zm_rd (Z := Z) (ν := ν) (k := 11) (show ((0 : Nat) : Int) = 0 from rfl) (show ((0 : Nat) : Int) = 0 from rfl) (show ((3 : Nat) : Int) = 3 from rfl)) (by omega) (by omega) (by omega) (by omega)) (fun h9 => ?_) (fun h9 => ?_)
            · replace hP := zE_p hP h9
              refine wz_inT_n (show (0 : Int32) = i3 0 from rfl) (by omega) (by omega) (by omega) ?_
              exact zlGe (E := 14) hP ⟨hZ, zC_r, zU_r, zG_w (zG_k rfl) (Nat.le_of_ble_eq_true rfl) (Nat.le_of_ble_eq_true rfl)⟩
            · replace hP := zE_n hP h9
              obtain ⟨v11, hv11, c9, lv11, uv11⟩ := sp_182 (ν := ν) hZ 0 (a1 := 6) (by omega) (zbh (c := 0) (k := 0) hM (Nat.le_of_ble_eq_true rfl))
              replace hP := zl_e hP hv11
              refine wz_cI_of (zas (zcons rfl (zcons (zvi (show (6 : Int32) = i3 6 from rfl)) rfl)) c9) ?_
              clear c9
              refine wz_br (i3Le (i3S (show (12 : Int32) = i3 12 from rfl) (rfl : i3 v11 = i3 v11)) (show (0 : Int32) = i3 0 from rfl) (by omega) (by omega) (by omega) (by omega)) (fun h12 => ?_) (fun h12 => ?_)
              · replace hP := zE_p hP h12
                refine wz_inT_n (show (0 : Int32) = i3 0 from rfl) (by omega) (by omega) (by omega) ?_
                exact zlGe (E := 14) hP ⟨hZ, zC_r, zU_r, zG_w (zG_k rfl) (Nat.le_of_ble_eq_true rfl) (Nat.le_of_ble_eq_true rfl)⟩
              · replace hP := zE_n hP h12
                refine wz_inT_y (show (1 : Int32) = i3 1 from rfl) (by omega) (by omega) (by omega) ?_
                refine dc_J (zcons rfl (zcons (zvi (show (2 : Int32) = i3 2 from rfl)) (zcons (zvi (rfl : i3 a1 = i3 a1)) (zcons (zvi (rfl : i3 a2 = i3 a2)) (zcons (zvi (rfl : i3 a3 = i3 a3)) (zcons (zvi (rfl : i3 a4 = i3 a4)) (zcons (zvi (rfl : i3 a5 = i3 a5)) (zcons (zvi (show (0 : Int32) = i3 0 from rfl)) rfl)))))))) (dg (hZ).1 (by omega) (by omega) (by omega) (by omega) (by omega) (by omega) (by omega) ?_)
                have hZ15I := zH_dd hZ (a1 := 2) (a2 := a1) (a3 := a2) (a4 := a3) (a5 := a4) (a6 := a5) (a7 := 0) (by omega) (by omega) (by omega) (by omega) (by omega) (by omega) (by omega)
                have kZ15 : zC [3, 12, 13, 14, 40, 41, 42, 43, 44, 45, 46, 47, 48, 49, 50, 51, 52, 53, 54, 61, 68, 1099, 1100, 1101, 1102, 1103, 1104, 1105, 1106, 1107, 1108, 1109, 1110, 1111, 1112, 1113, 1114, 1115, 1116] Z (zdd Z 2 a1 a2 a3 a4 a5 0) := zC_k zdd_K (by decide) (by decide)
                have hZ15A : (zdd Z 2 a1 a2 a3 a4 a5 0) 68 0 0 0 = 2 ∧ (zdd Z 2 a1 a2 a3 a4 a5 0) 68 0 0 1 = a1 ∧ (zdd Z 2 a1 a2 a3 a4 a5 0) 68 0 0 2 = a2 ∧ (zdd Z 2 a1 a2 a3 a4 a5 0) 68 0 0 3 = a3 ∧ (zdd Z 2 a1 a2 a3 a4 a5 0) 68 0 0 4 = a4 ∧ (zdd Z 2 a1 a2 a3 a4 a5 0) 68 0 0 5 = a5 ∧ (zdd Z 2 a1 a2 a3 a4 a5 0) 68 0 0 6 = 0 := ⟨zdd_68, zdd_68, zdd_68, zdd_68, zdd_68, zdd_68, zdd_68⟩
                obtain ⟨Z15, hZ15⟩ := zx (zdd Z 2 a1 a2 a3 a4 a5 0)
                have dZ15 : ∀ {k : Nat} {i j : Int}, zhall k = true → ¬ (k = 11 ∧ (j = 15 ∨ j = 16)) → Z15 k 0 i j = Z k 0 i j := fun hk hj => by rw [hZ15]; exact zdd_h (hZ).1 hk hj
                have jZ15 : zU [0, 2, 3, 4, 5, 6, 7, 8, 9] Z (zdd Z 2 a1 a2 a3 a4 a5 0) := zU_dd (hZ).1
                rw [← hZ15] at hZ15I kZ15 jZ15 hZ15A ⊢
                have hZ15U : zU [0, 2, 3, 4, 5, 6, 7, 8, 9] Z Z15 := zU_t zU_r jZ15 (zU_b1 (List.Mem.head _) (zU_b1 (List.Mem.tail _ (List.Mem.head _)) (zU_b1 (List.Mem.tail _ (List.Mem.tail _ (List.Mem.head _))) (zU_b1 (List.Mem.tail _ (List.Mem.tail _ (List.Mem.tail _ (List.Mem.head _)))) (zU_b1 (List.Mem.tail _ (List.Mem.tail _ (List.Mem.tail _ (List.Mem.tail _ (List.Mem.head _))))) (zU_b1 (List.Mem.tail _ (List.Mem.tail _ (List.Mem.tail _ (List.Mem.tail _ (List.Mem.tail _ (List.Mem.head _)))))) (zU_b1 (List.Mem.tail _ (List.Mem.tail _ (List.Mem.tail _ (List.Mem.tail _ (List.Mem.tail _ (List.Mem.tail _ (List.Mem.head _))))))) (zU_b1 (List.Mem.tail _ (List.Mem.tail _ (List.Mem.tail _ (List.Mem.tail _ (List.Mem.tail _ (List.Mem.tail _ (List.Mem.tail _ (List.Mem.head _)))))))) (zU_b1 (List.Mem.tail _ (List.Mem.tail _ (List.Mem.tail _ (List.Mem.tail _ (List.Mem.tail _ (List.Mem.tail _ (List.Mem.tail _ (List.Mem.tail _ (List.Mem.head _))))))))) zU_b0)))))))))
                replace hP := zl_e hP hZ15
                have hZ15K : zC [3, 12, 13, 14, 40, 41, 42, 43, 44, 45, 46, 47, 48, 49, 50, 51, 52, 53, 54, 61, 68, 1099, 1100, 1101, 1102, 1103, 1104, 1105, 1106, 1107, 1108, 1109, 1110, 1111, 1112, 1113, 1114, 1115, 1116] Z Z15 := zC_t zC_r kZ15 (by decide)
                clear kZ15 hZ15
                refine fw_121 _ _ _ _ ?_
                refine wz_i1 rfl ?_
                refine wz_i0 (i3O (n := 7) (show (0 : Int32) = i3 0 from rfl) (by omega) (by omega) (by omega)) ?_
                refine wz_i0 (Eq.trans (i3To (Eq.trans (zm_rd (Z := Z15) (ν := ν) (k := 68) (show ((0 : Nat) : Int) = 0 from rfl) (show ((0 : Nat) : Int) = 0 from rfl) (show ((0 : Nat) : Int) = 0 from rfl)) (congrArg i3 ((hZ15A.1)))) (by omega) (by omega)) (decide_eq_false (by omega))) ?_
                refine wz_i0 (Eq.trans (i3T (Eq.trans (zm_rd (Z := Z15) (ν := ν) (k := 68) (show ((0 : Nat) : Int) = 0 from rfl) (show ((0 : Nat) : Int) = 0 from rfl) (show ((0 : Nat) : Int) = 0 from rfl)) (congrArg i3 ((hZ15A.1)))) (by omega) (by omega)) (decide_eq_false (by omega))) ?_
                refine wz_i0 (Eq.trans (i3T (Eq.trans (zm_rd (Z := Z15) (ν := ν) (k := 68) (show ((0 : Nat) : Int) = 0 from rfl) (show ((0 : Nat) : Int) = 0 from rfl) (show ((0 : Nat) : Int) = 0 from rfl)) (congrArg i3 ((hZ15A.1)))) (by omega) (by omega)) (decide_eq_false (by omega))) ?_
                refine wz_i1 (Eq.trans (i3T (Eq.trans (zm_rd (Z := Z15) (ν := ν) (k := 68) (show ((0 : Nat) : Int) = 0 from rfl) (show ((0 : Nat) : Int) = 0 from rfl) (show ((0 : Nat) : Int) = 0 from rfl)) (congrArg i3 ((hZ15A.1)))) (by omega) (by omega)) (decide_eq_true (by omega))) ?_
                refine wz_i1 rfl ?_
                refine wz_i0 (i3O (n := 7) (show (1 : Int32) = i3 1 from rfl) (by omega) (by omega) (by omega)) ?_
                refine wz_i1 rfl ?_
                refine wz_i0 (i3O (n := 7) (show (2 : Int32) = i3 2 from rfl) (by omega) (by omega) (by omega)) ?_
                refine wz_i1 rfl ?_
                refine wz_i0 (i3O (n := 7) (show (3 : Int32) = i3 3 from rfl) (by omega) (by omega) (by omega)) ?_
                refine wz_i1 rfl ?_
                refine wz_i0 (i3O (n := 7) (show (4 : Int32) = i3 4 from rfl) (by omega) (by omega) (by omega)) ?_
                refine wz_i1 rfl ?_
                refine wz_i0 (i3O (n := 7) (show (5 : Int32) = i3 5 from rfl) (by omega) (by omega) (by omega)) ?_
                have r16 := zH_k hZ15I 11 0 0 3 (lo := 0) (hi := 48) (by decide) rfl
                have q17 := dZ15 (k := 11) (i := 0) (j := 3) (by decide) (by omega)
                refine wz_i0 (i3O (n := 48) (zm_rd (Z := Z15) (ν := ν) (k := 11) (show ((0 : Nat) : Int) = 0 from rfl) (show ((0 : Nat) : Int) = 0 from rfl) (show ((3 : Nat) : Int) = 3 from rfl)) (by omega) (by omega) (by omega)) ?_
                obtain ⟨Z18, hZ18⟩ := zx (zu Z15 44 0 (Z15 11 0 0 3) 0 a1)
                replace hP := zl_e hP hZ18
                have hZ18I := zH_u hZ15I hZ18 (lo := 0) (hi := 5) (by decide) rfl (by omega) ⟨by decide, by decide⟩ (Or.inl (by decide)) rfl
                have hZ18U : zU [0, 2, 3, 4, 5, 6, 7, 8, 9] Z Z18 := zU_u hZ15U hZ18 (Or.inr (List.Mem.head _))
                have hZ18K : zC [3, 12, 13, 14, 40, 41, 42, 43, 44, 45, 46, 47, 48, 49, 50, 51, 52, 53, 54, 61, 68, 1099, 1100, 1101, 1102, 1103, 1104, 1105, 1106, 1107, 1108, 1109, 1110, 1111, 1112, 1113, 1114, 1115, 1116] Z Z18 := zC_u hZ15K hZ18 (by decide)
                intro μ9 e9
                replace e9 := e9.trans (zm_wI (Z := Z15) (ν := ν) hZ18 (show ((0 : Nat) : Int) = 0 from rfl) (i3I (y := (Z15 11 0 0 3)) (zm_rd (Z := Z15) (ν := ν) (k := 11) (show ((0 : Nat) : Int) = 0 from rfl) (show ((0 : Nat) : Int) = 0 from rfl) (show ((3 : Nat) : Int) = 3 from rfl)) (by omega) (by omega) (by omega)) (show ((0 : Nat) : Int) = 0 from rfl) (Eq.trans (zm_rd (Z := Z15) (ν := ν) (k := 68) (show ((0 : Nat) : Int) = 0 from rfl) (show ((0 : Nat) : Int) = 0 from rfl) (show ((1 : Nat) : Int) = 1 from rfl)) (congrArg i3 ((hZ15A.2.1)))))
                subst e9
                obtain ⟨Z19, hZ19⟩ := zx (zu Z18 44 0 (Z15 11 0 0 3) 1 a2)
                replace hP := zl_e hP hZ19
                have hZ19I := zH_u hZ18I hZ19 (lo := 0) (hi := 4) (by decide) rfl (by omega) ⟨by decide, by decide⟩ (Or.inl (by decide)) rfl
                have hZ19U : zU [0, 2, 3, 4, 5, 6, 7, 8, 9] Z Z19 := zU_u hZ18U hZ19 (Or.inr (List.Mem.head _))
                have hZ19K : zC [3, 12, 13, 14, 40, 41, 42, 43, 44, 45, 46, 47, 48, 49, 50, 51, 52, 53, 54, 61, 68, 1099, 1100, 1101, 1102, 1103, 1104, 1105, 1106, 1107, 1108, 1109, 1110, 1111, 1112, 1113, 1114, 1115, 1116] Z Z19 := zC_u hZ18K hZ19 (by decide)
                intro μ9 e9
                replace e9 := e9.trans (zm_wI (Z := Z18) (ν := ν) hZ19 (show ((0 : Nat) : Int) = 0 from rfl) (i3I (y := (Z15 11 0 0 3)) (zm_rd (Z := Z15) (ν := ν) (k := 11) (show ((0 : Nat) : Int) = 0 from rfl) (show ((0 : Nat) : Int) = 0 from rfl) (show ((3 : Nat) : Int) = 3 from rfl)) (by omega) (by omega) (by omega)) (show ((1 : Nat) : Int) = 1 from rfl) (Eq.trans (zm_rd (Z := Z15) (ν := ν) (k := 68) (show ((0 : Nat) : Int) = 0 from rfl) (show ((0 : Nat) : Int) = 0 from rfl) (show ((2 : Nat) : Int) = 2 from rfl)) (congrArg i3 ((hZ15A.2.2.1)))))
                subst e9
                have r20 := zH_k hZ19I 11 0 0 13 (lo := 0) (hi := 671) (by decide) rfl
                obtain ⟨Z21, hZ21⟩ := zx (zu Z19 44 0 (Z15 11 0 0 3) 2 (Z19 11 0 0 13))
                replace hP := zl_e hP hZ21
                have hZ21I := zH_u hZ19I hZ21 (lo := 0) (hi := 671) (by decide) rfl (by omega) ⟨by decide, by decide⟩ (Or.inl (by decide)) rfl
                have hZ21U : zU [0, 2, 3, 4, 5, 6, 7, 8, 9] Z Z21 := zU_u hZ19U hZ21 (Or.inr (List.Mem.head _))
                have hZ21K : zC [3, 12, 13, 14, 40, 41, 42, 43, 44, 45, 46, 47, 48, 49, 50, 51, 52, 53, 54, 61, 68, 1099, 1100, 1101, 1102, 1103, 1104, 1105, 1106, 1107, 1108, 1109, 1110, 1111, 1112, 1113, 1114, 1115, 1116] Z Z21 := zC_u hZ19K hZ21 (by decide)
                intro μ9 e9
                replace e9 := e9.trans (zm_wI (Z := Z19) (ν := ν) hZ21 (show ((0 : Nat) : Int) = 0 from rfl) (i3I (y := (Z15 11 0 0 3)) (zm_rd (Z := Z15) (ν := ν) (k := 11) (show ((0 : Nat) : Int) = 0 from rfl) (show ((0 : Nat) : Int) = 0 from rfl) (show ((3 : Nat) : Int) = 3 from rfl)) (by omega) (by omega) (by omega)) (show ((2 : Nat) : Int) = 2 from rfl) (zm_rd (Z := Z19) (ν := ν) (k := 11) (show ((0 : Nat) : Int) = 0 from rfl) (show ((0 : Nat) : Int) = 0 from rfl) (show ((13 : Nat) : Int) = 13 from rfl)))
                subst e9
                obtain ⟨Z22, hZ22⟩ := zx (zu Z21 44 0 (Z15 11 0 0 3) 3 a3)
                replace hP := zl_e hP hZ22
                have hZ22I := zH_u hZ21I hZ22 (lo := 0) (hi := 40) (by decide) rfl (by omega) ⟨by decide, by decide⟩ (Or.inl (by decide)) rfl
                have hZ22U : zU [0, 2, 3, 4, 5, 6, 7, 8, 9] Z Z22 := zU_u hZ21U hZ22 (Or.inr (List.Mem.head _))
                have hZ22K : zC [3, 12, 13, 14, 40, 41, 42, 43, 44, 45, 46, 47, 48, 49, 50, 51, 52, 53, 54, 61, 68, 1099, 1100, 1101, 1102, 1103, 1104, 1105, 1106, 1107, 1108, 1109, 1110, 1111, 1112, 1113, 1114, 1115, 1116] Z Z22 := zC_u hZ21K hZ22 (by decide)
                intro μ9 e9
                replace e9 := e9.trans (zm_wI (Z := Z21) (ν := ν) hZ22 (show ((0 : Nat) : Int) = 0 from rfl) (i3I (y := (Z15 11 0 0 3)) (zm_rd (Z := Z15) (ν := ν) (k := 11) (show ((0 : Nat) : Int) = 0 from rfl) (show ((0 : Nat) : Int) = 0 from rfl) (show ((3 : Nat) : Int) = 3 from rfl)) (by omega) (by omega) (by omega)) (show ((3 : Nat) : Int) = 3 from rfl) (Eq.trans (zm_rd (Z := Z15) (ν := ν) (k := 68) (show ((0 : Nat) : Int) = 0 from rfl) (show ((0 : Nat) : Int) = 0 from rfl) (show ((3 : Nat) : Int) = 3 from rfl)) (congrArg i3 ((hZ15A.2.2.2.1)))))
                subst e9
                obtain ⟨Z23, hZ23⟩ := zx (zu Z22 44 0 (Z15 11 0 0 3) 4 a3)
                replace hP := zl_e hP hZ23
                have hZ23I := zH_u hZ22I hZ23 (lo := 0) (hi := 40) (by decide) rfl (by omega) ⟨by decide, by decide⟩ (Or.inl (by decide)) rfl
                have hZ23U : zU [0, 2, 3, 4, 5, 6, 7, 8, 9] Z Z23 := zU_u hZ22U hZ23 (Or.inr (List.Mem.head _))
                have hZ23K : zC [3, 12, 13, 14, 40, 41, 42, 43, 44, 45, 46, 47, 48, 49, 50, 51, 52, 53, 54, 61, 68, 1099, 1100, 1101, 1102, 1103, 1104, 1105, 1106, 1107, 1108, 1109, 1110, 1111, 1112, 1113, 1114, 1115, 1116] Z Z23 := zC_u hZ22K hZ23 (by decide)
                intro μ9 e9
                replace e9 := e9.trans (zm_wI (Z := Z22) (ν := ν) hZ23 (show ((0 : Nat) : Int) = 0 from rfl) (i3I (y := (Z15 11 0 0 3)) (zm_rd (Z := Z15) (ν := ν) (k := 11) (show ((0 : Nat) : Int) = 0 from rfl) (show ((0 : Nat) : Int) = 0 from rfl) (show ((3 : Nat) : Int) = 3 from rfl)) (by omega) (by omega) (by omega)) (show ((4 : Nat) : Int) = 4 from rfl) (Eq.trans (zm_rd (Z := Z15) (ν := ν) (k := 68) (show ((0 : Nat) : Int) = 0 from rfl) (show ((0 : Nat) : Int) = 0 from rfl) (show ((3 : Nat) : Int) = 3 from rfl)) (congrArg i3 ((hZ15A.2.2.2.1)))))
                subst e9
                obtain ⟨Z24, hZ24⟩ := zx (zu Z23 44 0 (Z15 11 0 0 3) 5 a5)
                replace hP := zl_e hP hZ24
                have hZ24I := zH_u hZ23I hZ24 (lo := 0) (hi := 40) (by decide) rfl (by omega) ⟨by decide, by decide⟩ (Or.inl (by decide)) rfl
                have hZ24U : zU [0, 2, 3, 4, 5, 6, 7, 8, 9] Z Z24 := zU_u hZ23U hZ24 (Or.inr (List.Mem.head _))
                have hZ24K : zC [3, 12, 13, 14, 40, 41, 42, 43, 44, 45, 46, 47, 48, 49, 50, 51, 52, 53, 54, 61, 68, 1099, 1100, 1101, 1102, 1103, 1104, 1105, 1106, 1107, 1108, 1109, 1110, 1111, 1112, 1113, 1114, 1115, 1116] Z Z24 := zC_u hZ23K hZ24 (by decide)
                intro μ9 e9
                replace e9 := e9.trans (zm_wI (Z := Z23) (ν := ν) hZ24 (show ((0 : Nat) : Int) = 0 from rfl) (i3I (y := (Z15 11 0 0 3)) (zm_rd (Z := Z15) (ν := ν) (k := 11) (show ((0 : Nat) : Int) = 0 from rfl) (show ((0 : Nat) : Int) = 0 from rfl) (show ((3 : Nat) : Int) = 3 from rfl)) (by omega) (by omega) (by omega)) (show ((5 : Nat) : Int) = 5 from rfl) (Eq.trans (zm_rd (Z := Z15) (ν := ν) (k := 68) (show ((0 : Nat) : Int) = 0 from rfl) (show ((0 : Nat) : Int) = 0 from rfl) (show ((5 : Nat) : Int) = 5 from rfl)) (congrArg i3 ((hZ15A.2.2.2.2.2.1)))))
                subst e9
                obtain ⟨Z25, hZ25⟩ := zx (zu Z24 44 0 (Z15 11 0 0 3) 7 a4)
                replace hP := zl_e hP hZ25
                have hZ25I := zH_u hZ24I hZ25 (lo := 0) (hi := 2000) (by decide) rfl (by omega) ⟨by decide, by decide⟩ (Or.inl (by decide)) rfl
                have hZ25U : zU [0, 2, 3, 4, 5, 6, 7, 8, 9] Z Z25 := zU_u hZ24U hZ25 (Or.inr (List.Mem.head _))
                have hZ25K : zC [3, 12, 13, 14, 40, 41, 42, 43, 44, 45, 46, 47, 48, 49, 50, 51, 52, 53, 54, 61, 68, 1099, 1100, 1101, 1102, 1103, 1104, 1105, 1106, 1107, 1108, 1109, 1110, 1111, 1112, 1113, 1114, 1115, 1116] Z Z25 := zC_u hZ24K hZ25 (by decide)
                intro μ9 e9
                replace e9 := e9.trans (zm_wI (Z := Z24) (ν := ν) hZ25 (show ((0 : Nat) : Int) = 0 from rfl) (i3I (y := (Z15 11 0 0 3)) (zm_rd (Z := Z15) (ν := ν) (k := 11) (show ((0 : Nat) : Int) = 0 from rfl) (show ((0 : Nat) : Int) = 0 from rfl) (show ((3 : Nat) : Int) = 3 from rfl)) (by omega) (by omega) (by omega)) (show ((7 : Nat) : Int) = 7 from rfl) (Eq.trans (zm_rd (Z := Z15) (ν := ν) (k := 68) (show ((0 : Nat) : Int) = 0 from rfl) (show ((0 : Nat) : Int) = 0 from rfl) (show ((4 : Nat) : Int) = 4 from rfl)) (congrArg i3 ((hZ15A.2.2.2.2.1)))))
                subst e9
                obtain ⟨Z26, hZ26⟩ := zx (zu Z25 44 0 (Z15 11 0 0 3) 9 (-1))
                replace hP := zl_e hP hZ26
                have hZ26I := zH_u hZ25I hZ26 (lo := -1) (hi := 3) (by decide) rfl (by omega) ⟨by decide, by decide⟩ (Or.inl (by decide)) rfl
                have hZ26U : zU [0, 2, 3, 4, 5, 6, 7, 8, 9] Z Z26 := zU_u hZ25U hZ26 (Or.inr (List.Mem.head _))
                have hZ26K : zC [3, 12, 13, 14, 40, 41, 42, 43, 44, 45, 46, 47, 48, 49, 50, 51, 52, 53, 54, 61, 68, 1099, 1100, 1101, 1102, 1103, 1104, 1105, 1106, 1107, 1108, 1109, 1110, 1111, 1112, 1113, 1114, 1115, 1116] Z Z26 := zC_u hZ25K hZ26 (by decide)
                intro μ9 e9
                replace e9 := e9.trans (zm_wI (Z := Z25) (ν := ν) hZ26 (show ((0 : Nat) : Int) = 0 from rfl) (i3I (y := (Z15 11 0 0 3)) (zm_rd (Z := Z15) (ν := ν) (k := 11) (show ((0 : Nat) : Int) = 0 from rfl) (show ((0 : Nat) : Int) = 0 from rfl) (show ((3 : Nat) : Int) = 3 from rfl)) (by omega) (by omega) (by omega)) (show ((9 : Nat) : Int) = 9 from rfl) (show (-1 : Int32) = i3 (-1) from rfl))
                subst e9
                obtain ⟨Z27, hZ27⟩ := zx (zu Z26 44 0 (Z15 11 0 0 3) 10 0)
                replace hP := zl_e hP hZ27
                have hZ27I := zH_0 hZ26I hZ27 (by decide) (Or.inl (by decide))
                have hZ27U : zU [0, 2, 3, 4, 5, 6, 7, 8, 9] Z Z27 := zU_u hZ26U hZ27 (Or.inr (List.Mem.head _))
                have hZ27K : zC [3, 12, 13, 14, 40, 41, 42, 43, 44, 45, 46, 47, 48, 49, 50, 51, 52, 53, 54, 61, 68, 1099, 1100, 1101, 1102, 1103, 1104, 1105, 1106, 1107, 1108, 1109, 1110, 1111, 1112, 1113, 1114, 1115, 1116] Z Z27 := zC_u hZ26K hZ27 (by decide)
                intro μ9 e9
                replace e9 := e9.trans (zm_wI (Z := Z26) (ν := ν) hZ27 (show ((0 : Nat) : Int) = 0 from rfl) (i3I (y := (Z15 11 0 0 3)) (zm_rd (Z := Z15) (ν := ν) (k := 11) (show ((0 : Nat) : Int) = 0 from rfl) (show ((0 : Nat) : Int) = 0 from rfl) (show ((3 : Nat) : Int) = 3 from rfl)) (by omega) (by omega) (by omega)) (show ((10 : Nat) : Int) = 10 from rfl) (show (0 : Int32) = i3 0 from rfl))
                subst e9
                obtain ⟨Z28, hZ28⟩ := zx (zu Z27 44 0 (Z15 11 0 0 3) 12 6)
                replace hP := zl_e hP hZ28
                have hZ28I := zH_u hZ27I hZ28 (lo := -1) (hi := 6) (by decide) rfl (by omega) ⟨by decide, by decide⟩ (Or.inl (by decide)) rfl
                have hZ28U : zU [0, 2, 3, 4, 5, 6, 7, 8, 9] Z Z28 := zU_u hZ27U hZ28 (Or.inr (List.Mem.head _))
                have hZ28K : zC [3, 12, 13, 14, 40, 41, 42, 43, 44, 45, 46, 47, 48, 49, 50, 51, 52, 53, 54, 61, 68, 1099, 1100, 1101, 1102, 1103, 1104, 1105, 1106, 1107, 1108, 1109, 1110, 1111, 1112, 1113, 1114, 1115, 1116] Z Z28 := zC_u hZ27K hZ28 (by decide)
                intro μ9 e9
                replace e9 := e9.trans (zm_wI (Z := Z27) (ν := ν) hZ28 (show ((0 : Nat) : Int) = 0 from rfl) (i3I (y := (Z15 11 0 0 3)) (zm_rd (Z := Z15) (ν := ν) (k := 11) (show ((0 : Nat) : Int) = 0 from rfl) (show ((0 : Nat) : Int) = 0 from rfl) (show ((3 : Nat) : Int) = 3 from rfl)) (by omega) (by omega) (by omega)) (show ((12 : Nat) : Int) = 12 from rfl) (show (6 : Int32) = i3 6 from rfl))
                subst e9
                obtain ⟨Z29, hZ29⟩ := zx (zu Z28 44 0 (Z15 11 0 0 3) 15 (-1))
                replace hP := zl_e hP hZ29
                have hZ29I := zH_u hZ28I hZ29 (lo := -1) (hi := 20) (by decide) rfl (by omega) ⟨by decide, by decide⟩ (Or.inl (by decide)) rfl
                have hZ29U : zU [0, 2, 3, 4, 5, 6, 7, 8, 9] Z Z29 := zU_u hZ28U hZ29 (Or.inr (List.Mem.head _))
                have hZ29K : zC [3, 12, 13, 14, 40, 41, 42, 43, 44, 45, 46, 47, 48, 49, 50, 51, 52, 53, 54, 61, 68, 1099, 1100, 1101, 1102, 1103, 1104, 1105, 1106, 1107, 1108, 1109, 1110, 1111, 1112, 1113, 1114, 1115, 1116] Z Z29 := zC_u hZ28K hZ29 (by decide)
                intro μ9 e9
                replace e9 := e9.trans (zm_wI (Z := Z28) (ν := ν) hZ29 (show ((0 : Nat) : Int) = 0 from rfl) (i3I (y := (Z15 11 0 0 3)) (zm_rd (Z := Z15) (ν := ν) (k := 11) (show ((0 : Nat) : Int) = 0 from rfl) (show ((0 : Nat) : Int) = 0 from rfl) (show ((3 : Nat) : Int) = 3 from rfl)) (by omega) (by omega) (by omega)) (show ((15 : Nat) : Int) = 15 from rfl) (show (-1 : Int32) = i3 (-1) from rfl))
                subst e9
                have r30 := zH_k hZ29I 11 0 0 3 (lo := 0) (hi := 48) (by decide) rfl
                have q31 := (zu_ne (k' := 11) (b' := 0) (i' := 0) (j' := 3) hZ29 (fun q => absurd q.1 (by decide))).trans ((zu_ne (k' := 11) (b' := 0) (i' := 0) (j' := 3) hZ28 (fun q => absurd q.1 (by decide))).trans ((zu_ne (k' := 11) (b' := 0) (i' := 0) (j' := 3) hZ27 (fun q => absurd q.1 (by decide))).trans ((zu_ne (k' := 11) (b' := 0) (i' := 0) (j' := 3) hZ26 (fun q => absurd q.1 (by decide))).trans ((zu_ne (k' := 11) (b' := 0) (i' := 0) (j' := 3) hZ25 (fun q => absurd q.1 (by decide))).trans ((zu_ne (k' := 11) (b' := 0) (i' := 0) (j' := 3) hZ24 (fun q => absurd q.1 (by decide))).trans ((zu_ne (k' := 11) (b' := 0) (i' := 0) (j' := 3) hZ23 (fun q => absurd q.1 (by decide))).trans ((zu_ne (k' := 11) (b' := 0) (i' := 0) (j' := 3) hZ22 (fun q => absurd q.1 (by decide))).trans ((zu_ne (k' := 11) (b' := 0) (i' := 0) (j' := 3) hZ21 (fun q => absurd q.1 (by decide))).trans ((zu_ne (k' := 11) (b' := 0) (i' := 0) (j' := 3) hZ19 (fun q => absurd q.1 (by decide))).trans (zu_ne (k' := 11) (b' := 0) (i' := 0) (j' := 3) hZ18 (fun q => absurd q.1 (by decide))))))))))))
                obtain ⟨Z32, hZ32⟩ := zx (zu Z29 11 0 0 3 ((Z29 11 0 0 3) + 1))
                replace hP := zl_e hP hZ32
                have hZ32I := zH_u hZ29I hZ32 (lo := 0) (hi := 48) (by decide) rfl (by omega) ⟨by decide, by decide⟩ (Or.inl (by decide)) rfl
                have hZ32U : zU [0, 2, 3, 4, 5, 6, 7, 8, 9] Z Z32 := zU_u hZ29U hZ32 (Or.inr (List.Mem.head _))
                have hZ32K : zC [3, 12, 13, 14, 40, 41, 42, 43, 44, 45, 46, 47, 48, 49, 50, 51, 52, 53, 54, 61, 68, 1099, 1100, 1101, 1102, 1103, 1104, 1105, 1106, 1107, 1108, 1109, 1110, 1111, 1112, 1113, 1114, 1115, 1116] Z Z32 := zC_u hZ29K hZ32 (by decide)
                intro μ9 e9
                replace e9 := e9.trans (zm_wI (Z := Z29) (ν := ν) hZ32 (show ((0 : Nat) : Int) = 0 from rfl) (show ((0 : Nat) : Int) = 0 from rfl) (show ((3 : Nat) : Int) = 3 from rfl) (i3A (zm_rd (Z := Z29) (ν := ν) (k := 11) (show ((0 : Nat) : Int) = 0 from rfl) (show ((0 : Nat) : Int) = 0 from rfl) (show ((3 : Nat) : Int) = 3 from rfl)) (show (1 : Int32) = i3 1 from rfl)))
                subst e9
                exact zlG hP (zm_rd (Z := Z29) (ν := ν) (k := 11) (show ((0 : Nat) : Int) = 0 from rfl) (show ((0 : Nat) : Int) = 0 from rfl) (show ((3 : Nat) : Int) = 3 from rfl)) ⟨hZ32I, hZ32K, hZ32U, zG_w zG_r (Nat.le_of_ble_eq_true rfl) (Nat.le_of_ble_eq_true rfl)⟩
          · replace hP := zE_n hP h7
            exact zlGe (E := 12) hP ⟨hZ, zC_r, zU_r, zG_w (zG_k rfl) (Nat.le_of_ble_eq_true rfl) (Nat.le_of_ble_eq_true rfl)⟩
        · replace hP := zE_n hP h6
          exact zlGe (E := 12) hP ⟨hZ, zC_r, zU_r, zG_w (zG_k rfl) (Nat.le_of_ble_eq_true rfl) (Nat.le_of_ble_eq_true rfl)⟩
      · replace hP := zE_n hP h5
        exact zlGe (E := 12) hP ⟨hZ, zC_r, zU_r, zG_w (zG_k rfl) (Nat.le_of_ble_eq_true rfl) (Nat.le_of_ble_eq_true rfl)⟩
    · replace hP := zE_n hP h4
      exact zlGe (E := 23) hP ⟨hZ, zC_r, zU_r, zG_w (zG_k rfl) (Nat.le_of_ble_eq_true rfl) (Nat.le_of_ble_eq_true rfl)⟩
  · replace hP := zE_n hP h2
    exact zlGe (E := 23) hP ⟨hZ, zC_r, zU_r, zG_w (zG_k rfl) (Nat.le_of_ble_eq_true rfl) (Nat.le_of_ble_eq_true rfl)⟩
/- yX2_parcelsIn -/
def zl_53_1 (x0b : Int) (x1 : Int) : Nat → qz_Z → Int → Int → Int × Int
  | 0, Z, x2, x3 => (x2, x3)
  | m + 1, Z, x2, x3 => (if (Z 11 x0b 0 6) ≤ x3 then (x2, x3) else (if (Z 47 x0b x3 10) ≠ x1 then zl_53_1 x0b x1 m Z x2 (x3 + 1) else zl_53_1 x0b x1 m Z (x2 + 1) (x3 + 1)))
theorem sl_53_1 {s : zSM} {Z : qz_Z} {ν : qz_N} (hZ : zH s Z) (hM : s.2 + 0 ≤ 1000000000) (x0b : Nat) {x1 : Int} (gx1 : 0 ≤ x1 ∧ x1 ≤ 3) {x2 : Int} (gx2 : 0 ≤ x2 ∧ x2 ≤ 60) {x3 : Int} (gx3 : 0 ≤ x3 ∧ x3 ≤ 60) (gr0 : x2 ≤ x3) {k : wz_K} {R : wz_R} {L : qz_L} (hL : qz_fg [true, true, true, true] L = [some (.inr (.inr (some (10, x0b, 0)))), some (.inl (i3 x1)), some (.inl (i3 x2)), some (.inl (i3 x3))]) {T : Int × Int} (hP : zE T (zl_53_1 x0b x1 ((60 - x3).toNat + 1) Z x2 x3)) (hk : ∀ (L9 : qz_L) (yx2 yx3 : Int), qz_fg [false, false, true, false] L9 = [none, none, some (.inl (i3 yx2)), none] → (0 ≤ yx2 ∧ yx2 ≤ 60) → (0 ≤ yx3 ∧ yx3 ≤ 60) → (yx2 ≤ yx3) → zE T ((yx2, yx3)) → k 0 (L9, [], zm Z ν)) : wz_loop qb_53_1 65536 k R (L, [], zm Z ν) := by
  refine wz_lp sb_53_1 (fun m x => ∃ x2 : Int, ∃ x3 : Int, qz_fg [true, true, true, true] x.1 = [some (.inr (.inr (some (10, x0b, 0)))), some (.inl (i3 x1)), some (.inl (i3 x2)), some (.inl (i3 x3))] ∧ x.2 = ([], zm Z ν) ∧ m = (60 - x3).toNat ∧ (0 ≤ x2 ∧ x2 ≤ 60) ∧ (0 ≤ x3 ∧ x3 ≤ 60) ∧ (x2 ≤ x3) ∧ zE T (zl_53_1 x0b x1 (m + 1) Z x2 x3)) ?_ 65536 ((60 - x3).toNat) _ (by omega) ⟨x2, x3, hL, rfl, rfl, gx2, gx3, gr0, hP⟩
  clear hP gr0 gx2 gx3 hL
  clear x2 x3
  rintro m ⟨L, st, μ⟩ ⟨x2, x3, hL, hx, hm, gx2, gx3, gr0, hP⟩
  cases hx
  refine fb_53_1 x0b (i3 x1) (i3 x2) (i3 x3) _ _ _ _ hL ?_
  have r1 := zH_k hZ 11 x0b 0 6 (lo := 0) (hi := 60) (by decide) rfl
  refine wz_br (i3Le (zm_rd (Z := Z) (ν := ν) (k := 11) (rfl : ((x0b : Nat) : Int) = x0b) (show ((0 : Nat) : Int) = 0 from rfl) (show ((6 : Nat) : Int) = 6 from rfl)) (rfl : i3 x3 = i3 x3) (by omega) (by omega) (by omega) (by omega)) (fun h2 => ?_) (fun h2 => ?_)
  · replace hP := zE_p hP h2
    exact hk _ _ _ (zconso rfl (zconso rfl (zconso (zvo (rfl : i3 x2 = i3 x2)) (zconso rfl rfl))))  (by omega) (by omega) (by omega) hP
  · replace hP := zE_n hP h2
    refine wz_i0 (i3O (n := 60) (rfl : i3 x3 = i3 x3) (by omega) (by omega) (by omega)) ?_
    have r3 := zH_k hZ 47 x0b x3 10 (lo := -1) (hi := 3) (by decide) rfl
    have r4 := zH_lt hZ x0b x3
    refine wz_br (i3NE (zm_rd (Z := Z) (ν := ν) (k := 47) (rfl : ((x0b : Nat) : Int) = x0b) (i3I (y := x3) (rfl : i3 x3 = i3 x3) (by omega) (by omega) (by omega)) (show ((10 : Nat) : Int) = 10 from rfl)) (rfl : i3 x1 = i3 x1) (by omega) (by omega) (by omega) (by omega)) (fun h5 => ?_) (fun h5 => ?_)
    · replace hP := zE_p hP h5
      obtain ⟨m2, rfl⟩ : ∃ m2, m = m2 + 1 := ⟨m - 1, by omega⟩
      exact wz_k1 ⟨m2, by omega, x2, (x3 + 1), (zconso rfl (zconso (zvo (rfl : i3 x1 = i3 x1)) (zconso (zvo (rfl : i3 x2 = i3 x2)) (zconso (zvo (i3A (rfl : i3 x3 = i3 x3) (show (1 : Int32) = i3 1 from rfl))) rfl)))), rfl,  by omega, by omega, by omega, by omega,  hP⟩
    · replace hP := zE_n hP h5
      obtain ⟨m2, rfl⟩ : ∃ m2, m = m2 + 1 := ⟨m - 1, by omega⟩
      exact wz_k1 ⟨m2, by omega, (x2 + 1), (x3 + 1), (zconso rfl (zconso (zvo (rfl : i3 x1 = i3 x1)) (zconso (zvo (i3A (rfl : i3 x2 = i3 x2) (show (1 : Int32) = i3 1 from rfl))) (zconso (zvo (i3A (rfl : i3 x3 = i3 x3) (show (1 : Int32) = i3 1 from rfl))) rfl)))), rfl,  by omega, by omega, by omega, by omega,  hP⟩
/- yX2_parcelsIn -/
def zf_53 (Z : qz_Z) (a0b : Int) (a1 : Int) : Int := (zlet2 (zl_53_1 a0b a1 61 Z 0 0) (fun y1 y2 => y1))
theorem sp_53 {s : zSM} {Z : qz_Z} {ν : qz_N} (hZ : zH s Z) (a0b : Nat) {a1 : Int} (ga1 : 0 ≤ a1 ∧ a1 ≤ 3) (hM : s.2 + 0 ≤ 1000000000) : ∃ P : Int, P = zf_53 Z a0b a1 ∧ (qf_53 [.inr (.inr (some (10, a0b, 0))), .inl (i3 a1)] (zm Z ν) = some (zm Z ν, .inl (some (.inl (i3 P)))) ∧ 0 ≤ P ∧ P ≤ 60) := by
  obtain ⟨P, hP⟩ := zx (zf_53 Z a0b a1)
  refine zc_R (Q := fun P => 0 ≤ P ∧ P ≤ 60) hP (fw_53 a0b (i3 a1) _ _ ?_)
  replace hP : zE P (zf_53 Z a0b a1) := hP
  unfold zf_53 at hP
  refine sl_53_1 (ν := ν) hZ (zbh (c := 0) (k := 0) hM (Nat.le_of_ble_eq_true rfl)) a0b (x1 := a1) (by omega) (x2 := 0) (by omega) (x3 := 0) (by omega) (by omega) (zconso rfl (zconso (zvo (rfl : i3 a1 = i3 a1)) (zconso (zvo (show (0 : Int32) = i3 0 from rfl)) (zconso (zvo (show (0 : Int32) = i3 0 from rfl)) rfl)))) rfl ?_
  intro L3 y1 y2 hL3 gy1 gy2 gL3_0 q9
  replace hP := zl_e2 hP (Eq.symm q9)
  clear q9
  refine fc_53_2 (i3 y1) _ _ _ _ hL3 ?_
  exact zlR hP (rfl : i3 y1 = i3 y1) ⟨by omega, by omega⟩
/- yX2_atDocks -/
def zl_40_1 (x0b : Int) : Nat → qz_Z → Int → Int → Int × Int
  | 0, Z, x1, x2 => (x1, x2)
  | m + 1, Z, x1, x2 => (if (Z 11 x0b 0 8) ≤ x2 then (x1, x2) else (if (Z 50 x0b x2 2) ≠ 0 then zl_40_1 x0b m Z x1 (x2 + 1) else (zlet (zf_53 Z x0b x2) (fun v5 => (if v5 ≤ 0 then zl_40_1 x0b m Z x1 (x2 + 1) else zl_40_1 x0b m Z (x1 + 1) (x2 + 1))))))
theorem sl_40_1 {s : zSM} {Z : qz_Z} {ν : qz_N} (hZ : zH s Z) (hM : s.2 + 0 ≤ 1000000000) (x0b : Nat) {x1 : Int} (gx1 : 0 ≤ x1 ∧ x1 ≤ 4) {x2 : Int} (gx2 : 0 ≤ x2 ∧ x2 ≤ 4) (gr0 : x1 ≤ x2) {k : wz_K} {R : wz_R} {L : qz_L} (hL : qz_fg [true, true, true] L = [some (.inr (.inr (some (10, x0b, 0)))), some (.inl (i3 x1)), some (.inl (i3 x2))]) {T : Int × Int} (hP : zE T (zl_40_1 x0b ((4 - x2).toNat + 1) Z x1 x2)) (hk : ∀ (L9 : qz_L) (yx1 yx2 : Int), qz_fg [false, true, false] L9 = [none, some (.inl (i3 yx1)), none] → (0 ≤ yx1 ∧ yx1 ≤ 4) → (0 ≤ yx2 ∧ yx2 ≤ 4) → (yx1 ≤ yx2) → zE T ((yx1, yx2)) → k 0 (L9, [], zm Z ν)) : wz_loop qb_40_1 65536 k R (L, [], zm Z ν) := by
  refine wz_lp sb_40_1 (fun m x => ∃ x1 : Int, ∃ x2 : Int, qz_fg [true, true, true] x.1 = [some (.inr (.inr (some (10, x0b, 0)))), some (.inl (i3 x1)), some (.inl (i3 x2))] ∧ x.2 = ([], zm Z ν) ∧ m = (4 - x2).toNat ∧ (0 ≤ x1 ∧ x1 ≤ 4) ∧ (0 ≤ x2 ∧ x2 ≤ 4) ∧ (x1 ≤ x2) ∧ zE T (zl_40_1 x0b (m + 1) Z x1 x2)) ?_ 65536 ((4 - x2).toNat) _ (by omega) ⟨x1, x2, hL, rfl, rfl, gx1, gx2, gr0, hP⟩
  clear hP gr0 gx1 gx2 hL
  clear x1 x2
  rintro m ⟨L, st, μ⟩ ⟨x1, x2, hL, hx, hm, gx1, gx2, gr0, hP⟩
  cases hx
  refine fb_40_1 x0b (i3 x1) (i3 x2) _ _ _ _ hL ?_
  have r1 := zH_k hZ 11 x0b 0 8 (lo := 0) (hi := 4) (by decide) rfl
  refine wz_br (i3Le (zm_rd (Z := Z) (ν := ν) (k := 11) (rfl : ((x0b : Nat) : Int) = x0b) (show ((0 : Nat) : Int) = 0 from rfl) (show ((8 : Nat) : Int) = 8 from rfl)) (rfl : i3 x2 = i3 x2) (by omega) (by omega) (by omega) (by omega)) (fun h2 => ?_) (fun h2 => ?_)
  · replace hP := zE_p hP h2
    exact hk _ _ _ (zconso rfl (zconso (zvo (rfl : i3 x1 = i3 x1)) (zconso rfl rfl)))  (by omega) (by omega) (by omega) hP
  · replace hP := zE_n hP h2
    refine wz_i0 (i3O (n := 4) (rfl : i3 x2 = i3 x2) (by omega) (by omega) (by omega)) ?_
    have r3 := zH_k hZ 50 x0b x2 2 (lo := 0) (hi := 1) (by decide) rfl
    refine wz_br (i3NE (zm_rd (Z := Z) (ν := ν) (k := 50) (rfl : ((x0b : Nat) : Int) = x0b) (i3I (y := x2) (rfl : i3 x2 = i3 x2) (by omega) (by omega) (by omega)) (show ((2 : Nat) : Int) = 2 from rfl)) (show (0 : Int32) = i3 0 from rfl) (by omega) (by omega) (by omega) (by omega)) (fun h4 => ?_) (fun h4 => ?_)
    · replace hP := zE_p hP h4
      obtain ⟨m2, rfl⟩ : ∃ m2, m = m2 + 1 := ⟨m - 1, by omega⟩
      exact wz_k1 ⟨m2, by omega, x1, (x2 + 1), (zconso rfl (zconso (zvo (rfl : i3 x1 = i3 x1)) (zconso (zvo (i3A (rfl : i3 x2 = i3 x2) (show (1 : Int32) = i3 1 from rfl))) rfl))), rfl,  by omega, by omega, by omega, by omega,  hP⟩
    · replace hP := zE_n hP h4
      obtain ⟨v5, hv5, c9, lv5, uv5⟩ := sp_53 (ν := ν) hZ x0b (a1 := x2) (by omega) (zbh (c := 0) (k := 0) hM (Nat.le_of_ble_eq_true rfl))
      replace hP := zl_e hP hv5
      refine wz_cI_of (zas (zcons rfl (zcons (zvi (rfl : i3 x2 = i3 x2)) rfl)) c9) ?_
      clear c9
      refine wz_br (i3Le (rfl : i3 v5 = i3 v5) (show (0 : Int32) = i3 0 from rfl) (by omega) (by omega) (by omega) (by omega)) (fun h6 => ?_) (fun h6 => ?_)
      · replace hP := zE_p hP h6
        obtain ⟨m2, rfl⟩ : ∃ m2, m = m2 + 1 := ⟨m - 1, by omega⟩
        exact wz_k1 ⟨m2, by omega, x1, (x2 + 1), (zconso rfl (zconso (zvo (rfl : i3 x1 = i3 x1)) (zconso (zvo (i3A (rfl : i3 x2 = i3 x2) (show (1 : Int32) = i3 1 from rfl))) rfl))), rfl,  by omega, by omega, by omega, by omega,  hP⟩
      · replace hP := zE_n hP h6
        obtain ⟨m2, rfl⟩ : ∃ m2, m = m2 + 1 := ⟨m - 1, by omega⟩
        exact wz_k1 ⟨m2, by omega, (x1 + 1), (x2 + 1), (zconso rfl (zconso (zvo (i3A (rfl : i3 x1 = i3 x1) (show (1 : Int32) = i3 1 from rfl))) (zconso (zvo (i3A (rfl : i3 x2 = i3 x2) (show (1 : Int32) = i3 1 from rfl))) rfl))), rfl,  by omega, by omega, by omega, by omega,  hP⟩
/- yX2_atDocks -/
def zf_40 (Z : qz_Z) (a0b : Int) : Int := (zlet2 (zl_40_1 a0b 5 Z 0 0) (fun y1 y2 => y1))
theorem sp_40 {s : zSM} {Z : qz_Z} {ν : qz_N} (hZ : zH s Z) (a0b : Nat) (hM : s.2 + 0 ≤ 1000000000) : ∃ P : Int, P = zf_40 Z a0b ∧ (qf_40 [.inr (.inr (some (10, a0b, 0)))] (zm Z ν) = some (zm Z ν, .inl (some (.inl (i3 P)))) ∧ 0 ≤ P ∧ P ≤ 4) := by
  obtain ⟨P, hP⟩ := zx (zf_40 Z a0b)
  refine zc_R (Q := fun P => 0 ≤ P ∧ P ≤ 4) hP (fw_40 a0b _ _ ?_)
  replace hP : zE P (zf_40 Z a0b) := hP
  unfold zf_40 at hP
  refine sl_40_1 (ν := ν) hZ (zbh (c := 0) (k := 0) hM (Nat.le_of_ble_eq_true rfl)) a0b (x1 := 0) (by omega) (x2 := 0) (by omega) (by omega) (zconso rfl (zconso (zvo (show (0 : Int32) = i3 0 from rfl)) (zconso (zvo (show (0 : Int32) = i3 0 from rfl)) rfl))) rfl ?_
  intro L3 y1 y2 hL3 gy1 gy2 gL3_0 q9
  replace hP := zl_e2 hP (Eq.symm q9)
  clear q9
  refine fc_40_2 (i3 y1) _ _ _ _ hL3 ?_
  exact zlR hP (rfl : i3 y1 = i3 y1) ⟨by omega, by omega⟩
/- yX11_docks -/
def zx_197 (Z : qz_Z) (a1 : Int) : qz_Z × Int × Int := (if 1 ≤ a1 ∧ a1 ≤ 4 then (zlet (zf_40 Z 0) (fun v2 => (if a1 < v2 then (Z, 0, 15) else (zlet (zdd Z 18 a1 0 0 0 0 0) (fun Z6 => (zlet (zu Z6 11 0 0 14 a1) (fun Z7 => (Z7, (Z6 11 0 0 14), 0)))))))) else (Z, 0, 13))
theorem sx_197 {M : Nat} {Z : qz_Z} {ν : qz_N} (hZ : zH ((none, M) : zSM) Z) (hM : ((none, M) : zSM).2 + 0 ≤ 1000000000) {a1 : Int} (ga1 : -2147483648 ≤ a1 ∧ a1 ≤ 2147483647) : ∃ (Z1 : qz_Z) (ν1 : qz_N) (v E : Int), (Z1, v, E) = zx_197 Z a1 ∧ qf_197 [.inr (.inr (some (0, 0, 0))), .inl (i3 a1)] (zm Z ν) = some (zm Z1 ν1, zoX v E) ∧ (fun Z1 ν1 => zH ((none, M) : zSM) Z1 ∧ zC [3, 12, 13, 14, 40, 41, 42, 43, 44, 45, 46, 47, 48, 49, 50, 51, 52, 53, 54, 61, 68, 1099, 1100, 1101, 1102, 1103, 1104, 1105, 1106, 1107, 1108, 1109, 1110, 1111, 1112, 1113, 1114, 1115, 1116] Z Z1 ∧ zU [0, 2, 3, 4, 5, 6, 7, 8, 9] Z Z1 ∧ zG 1 6 ν ν1) Z1 ν1 := by
  obtain ⟨P, hP⟩ := zx (zx_197 Z a1)
  refine zc_G (Q := fun Z1 ν1 => zH ((none, M) : zSM) Z1 ∧ zC [3, 12, 13, 14, 40, 41, 42, 43, 44, 45, 46, 47, 48, 49, 50, 51, 52, 53, 54, 61, 68, 1099, 1100, 1101, 1102, 1103, 1104, 1105, 1106, 1107, 1108, 1109, 1110, 1111, 1112, 1113, 1114, 1115, 1116] Z Z1 ∧ zU [0, 2, 3, 4, 5, 6, 7, 8, 9] Z Z1 ∧ zG 1 6 ν ν1) hP (fw_197 (i3 a1) _ _ ?_)
  replace hP : zE P (zx_197 Z a1) := hP
  unfold zx_197 at hP
  refine wz_inR (rfl : i3 a1 = i3 a1) (show (1 : Int32) = i3 1 from rfl) (show (4 : Int32) = i3 4 from rfl) (by omega) (by omega) (by omega) (by omega) (by omega) (by omega) (fun h1 => ?_) (fun h1 => ?_)
  · replace hP := zE_p hP h1
    obtain ⟨v2, hv2, c9, lv2, uv2⟩ := sp_40 (ν := ν) hZ 0 (zbh (c := 0) (k := 0) hM (Nat.le_of_ble_eq_true rfl))
    replace hP := zl_e hP hv2
    refine wz_cI_of (zas (zcons rfl rfl) c9) ?_
    clear c9
    refine wz_br (i3L (rfl : i3 a1 = i3 a1) (rfl : i3 v2 = i3 v2) (by omega) (by omega) (by omega) (by omega)) (fun h3 => ?_) (fun h3 => ?_)
    · replace hP := zE_p hP h3
      refine wz_inT_n (show (0 : Int32) = i3 0 from rfl) (by omega) (by omega) (by omega) ?_
      exact zlGe (E := 14) hP ⟨hZ, zC_r, zU_r, zG_w (zG_k rfl) (Nat.le_of_ble_eq_true rfl) (Nat.le_of_ble_eq_true rfl)⟩
    · replace hP := zE_n hP h3
      refine wz_inT_y (show (1 : Int32) = i3 1 from rfl) (by omega) (by omega) (by omega) ?_
      refine dc_J (zcons rfl (zcons (zvi (show (18 : Int32) = i3 18 from rfl)) (zcons (zvi (rfl : i3 a1 = i3 a1)) (zcons (zvi (show (0 : Int32) = i3 0 from rfl)) (zcons (zvi (show (0 : Int32) = i3 0 from rfl)) (zcons (zvi (show (0 : Int32) = i3 0 from rfl)) (zcons (zvi (show (0 : Int32) = i3 0 from rfl)) (zcons (zvi (show (0 : Int32) = i3 0 from rfl)) rfl)))))))) (dg (hZ).1 (by omega) (by omega) (by omega) (by omega) (by omega) (by omega) (by omega) ?_)
      have hZ6I := zH_dd hZ (a1 := 18) (a2 := a1) (a3 := 0) (a4 := 0) (a5 := 0) (a6 := 0) (a7 := 0) (by omega) (by omega) (by omega) (by omega) (by omega) (by omega) (by omega)
      have kZ6 : zC [3, 12, 13, 14, 40, 41, 42, 43, 44, 45, 46, 47, 48, 49, 50, 51, 52, 53, 54, 61, 68, 1099, 1100, 1101, 1102, 1103, 1104, 1105, 1106, 1107, 1108, 1109, 1110, 1111, 1112, 1113, 1114, 1115, 1116] Z (zdd Z 18 a1 0 0 0 0 0) := zC_k zdd_K (by decide) (by decide)
      have hZ6A : (zdd Z 18 a1 0 0 0 0 0) 68 0 0 0 = 18 ∧ (zdd Z 18 a1 0 0 0 0 0) 68 0 0 1 = a1 ∧ (zdd Z 18 a1 0 0 0 0 0) 68 0 0 2 = 0 ∧ (zdd Z 18 a1 0 0 0 0 0) 68 0 0 3 = 0 ∧ (zdd Z 18 a1 0 0 0 0 0) 68 0 0 4 = 0 ∧ (zdd Z 18 a1 0 0 0 0 0) 68 0 0 5 = 0 ∧ (zdd Z 18 a1 0 0 0 0 0) 68 0 0 6 = 0 := ⟨zdd_68, zdd_68, zdd_68, zdd_68, zdd_68, zdd_68, zdd_68⟩
      obtain ⟨Z6, hZ6⟩ := zx (zdd Z 18 a1 0 0 0 0 0)
      have dZ6 : ∀ {k : Nat} {i j : Int}, zhall k = true → ¬ (k = 11 ∧ (j = 15 ∨ j = 16)) → Z6 k 0 i j = Z k 0 i j := fun hk hj => by rw [hZ6]; exact zdd_h (hZ).1 hk hj
      have jZ6 : zU [0, 2, 3, 4, 5, 6, 7, 8, 9] Z (zdd Z 18 a1 0 0 0 0 0) := zU_dd (hZ).1
      rw [← hZ6] at hZ6I kZ6 jZ6 hZ6A ⊢
      have hZ6U : zU [0, 2, 3, 4, 5, 6, 7, 8, 9] Z Z6 := zU_t zU_r jZ6 (zU_b1 (List.Mem.head _) (zU_b1 (List.Mem.tail _ (List.Mem.head _)) (zU_b1 (List.Mem.tail _ (List.Mem.tail _ (List.Mem.head _))) (zU_b1 (List.Mem.tail _ (List.Mem.tail _ (List.Mem.tail _ (List.Mem.head _)))) (zU_b1 (List.Mem.tail _ (List.Mem.tail _ (List.Mem.tail _ (List.Mem.tail _ (List.Mem.head _))))) (zU_b1 (List.Mem.tail _ (List.Mem.tail _ (List.Mem.tail _ (List.Mem.tail _ (List.Mem.tail _ (List.Mem.head _)))))) (zU_b1 (List.Mem.tail _ (List.Mem.tail _ (List.Mem.tail _ (List.Mem.tail _ (List.Mem.tail _ (List.Mem.tail _ (List.Mem.head _))))))) (zU_b1 (List.Mem.tail _ (List.Mem.tail _ (List.Mem.tail _ (List.Mem.tail _ (List.Mem.tail _ (List.Mem.tail _ (List.Mem.tail _ (List.Mem.head _)))))))) (zU_b1 (List.Mem.tail _ (List.Mem.tail _ (List.Mem.tail _ (List.Mem.tail _ (List.Mem.tail _ (List.Mem.tail _ (List.Mem.tail _ (List.Mem.tail _ (List.Mem.head _))))))))) zU_b0)))))))))
      replace hP := zl_e hP hZ6
      have hZ6K : zC [3, 12, 13, 14, 40, 41, 42, 43, 44, 45, 46, 47, 48, 49, 50, 51, 52, 53, 54, 61, 68, 1099, 1100, 1101, 1102, 1103, 1104, 1105, 1106, 1107, 1108, 1109, 1110, 1111, 1112, 1113, 1114, 1115, 1116] Z Z6 := zC_t zC_r kZ6 (by decide)
      clear kZ6 hZ6
      refine fw_121 _ _ _ _ ?_
      refine wz_i1 rfl ?_
      refine wz_i0 (i3O (n := 7) (show (0 : Int32) = i3 0 from rfl) (by omega) (by omega) (by omega)) ?_
      refine wz_i0 (Eq.trans (i3To (Eq.trans (zm_rd (Z := Z6) (ν := ν) (k := 68) (show ((0 : Nat) : Int) = 0 from rfl) (show ((0 : Nat) : Int) = 0 from rfl) (show ((0 : Nat) : Int) = 0 from rfl)) (congrArg i3 ((hZ6A.1)))) (by omega) (by omega)) (decide_eq_false (by omega))) ?_
      refine wz_i0 (Eq.trans (i3T (Eq.trans (zm_rd (Z := Z6) (ν := ν) (k := 68) (show ((0 : Nat) : Int) = 0 from rfl) (show ((0 : Nat) : Int) = 0 from rfl) (show ((0 : Nat) : Int) = 0 from rfl)) (congrArg i3 ((hZ6A.1)))) (by omega) (by omega)) (decide_eq_false (by omega))) ?_
      refine wz_i0 (Eq.trans (i3T (Eq.trans (zm_rd (Z := Z6) (ν := ν) (k := 68) (show ((0 : Nat) : Int) = 0 from rfl) (show ((0 : Nat) : Int) = 0 from rfl) (show ((0 : Nat) : Int) = 0 from rfl)) (congrArg i3 ((hZ6A.1)))) (by omega) (by omega)) (decide_eq_false (by omega))) ?_
      refine wz_i0 (Eq.trans (i3T (Eq.trans (zm_rd (Z := Z6) (ν := ν) (k := 68) (show ((0 : Nat) : Int) = 0 from rfl) (show ((0 : Nat) : Int) = 0 from rfl) (show ((0 : Nat) : Int) = 0 from rfl)) (congrArg i3 ((hZ6A.1)))) (by omega) (by omega)) (decide_eq_false (by omega))) ?_
      refine wz_i0 (Eq.trans (i3T (Eq.trans (zm_rd (Z := Z6) (ν := ν) (k := 68) (show ((0 : Nat) : Int) = 0 from rfl) (show ((0 : Nat) : Int) = 0 from rfl) (show ((0 : Nat) : Int) = 0 from rfl)) (congrArg i3 ((hZ6A.1)))) (by omega) (by omega)) (decide_eq_false (by omega))) ?_
      refine wz_i0 (Eq.trans (i3T (Eq.trans (zm_rd (Z := Z6) (ν := ν) (k := 68) (show ((0 : Nat) : Int) = 0 from rfl) (show ((0 : Nat) : Int) = 0 from rfl) (show ((0 : Nat) : Int) = 0 from rfl)) (congrArg i3 ((hZ6A.1)))) (by omega) (by omega)) (decide_eq_false (by omega))) ?_
      refine wz_i0 (Eq.trans (i3T (Eq.trans (zm_rd (Z := Z6) (ν := ν) (k := 68) (show ((0 : Nat) : Int) = 0 from rfl) (show ((0 : Nat) : Int) = 0 from rfl) (show ((0 : Nat) : Int) = 0 from rfl)) (congrArg i3 ((hZ6A.1)))) (by omega) (by omega)) (decide_eq_false (by omega))) ?_
      refine wz_i0 (Eq.trans (i3T (Eq.trans (zm_rd (Z := Z6) (ν := ν) (k := 68) (show ((0 : Nat) : Int) = 0 from rfl) (show ((0 : Nat) : Int) = 0 from rfl) (show ((0 : Nat) : Int) = 0 from rfl)) (congrArg i3 ((hZ6A.1)))) (by omega) (by omega)) (decide_eq_false (by omega))) ?_
      refine wz_i0 (Eq.trans (i3T (Eq.trans (zm_rd (Z := Z6) (ν := ν) (k := 68) (show ((0 : Nat) : Int) = 0 from rfl) (show ((0 : Nat) : Int) = 0 from rfl) (show ((0 : Nat) : Int) = 0 from rfl)) (congrArg i3 ((hZ6A.1)))) (by omega) (by omega)) (decide_eq_false (by omega))) ?_
      refine wz_i0 (Eq.trans (i3T (Eq.trans (zm_rd (Z := Z6) (ν := ν) (k := 68) (show ((0 : Nat) : Int) = 0 from rfl) (show ((0 : Nat) : Int) = 0 from rfl) (show ((0 : Nat) : Int) = 0 from rfl)) (congrArg i3 ((hZ6A.1)))) (by omega) (by omega)) (decide_eq_false (by omega))) ?_
      refine wz_i0 (Eq.trans (i3T (Eq.trans (zm_rd (Z := Z6) (ν := ν) (k := 68) (show ((0 : Nat) : Int) = 0 from rfl) (show ((0 : Nat) : Int) = 0 from rfl) (show ((0 : Nat) : Int) = 0 from rfl)) (congrArg i3 ((hZ6A.1)))) (by omega) (by omega)) (decide_eq_false (by omega))) ?_
      refine wz_i0 (Eq.trans (i3T (Eq.trans (zm_rd (Z := Z6) (ν := ν) (k := 68) (show ((0 : Nat) : Int) = 0 from rfl) (show ((0 : Nat) : Int) = 0 from rfl) (show ((0 : Nat) : Int) = 0 from rfl)) (congrArg i3 ((hZ6A.1)))) (by omega) (by omega)) (decide_eq_false (by omega))) ?_
      refine wz_i0 (Eq.trans (i3T (Eq.trans (zm_rd (Z := Z6) (ν := ν) (k := 68) (show ((0 : Nat) : Int) = 0 from rfl) (show ((0 : Nat) : Int) = 0 from rfl) (show ((0 : Nat) : Int) = 0 from rfl)) (congrArg i3 ((hZ6A.1)))) (by omega) (by omega)) (decide_eq_false (by omega))) ?_
      refine wz_i0 (Eq.trans (i3T (Eq.trans (zm_rd (Z := Z6) (ν := ν) (k := 68) (show ((0 : Nat) : Int) = 0 from rfl) (show ((0 : Nat) : Int) = 0 from rfl) (show ((0 : Nat) : Int) = 0 from rfl)) (congrArg i3 ((hZ6A.1)))) (by omega) (by omega)) (decide_eq_false (by omega))) ?_
      refine wz_i0 (Eq.trans (i3T (Eq.trans (zm_rd (Z := Z6) (ν := ν) (k := 68) (show ((0 : Nat) : Int) = 0 from rfl) (show ((0 : Nat) : Int) = 0 from rfl) (show ((0 : Nat) : Int) = 0 from rfl)) (congrArg i3 ((hZ6A.1)))) (by omega) (by omega)) (decide_eq_false (by omega))) ?_
      refine wz_i0 (Eq.trans (i3T (Eq.trans (zm_rd (Z := Z6) (ν := ν) (k := 68) (show ((0 : Nat) : Int) = 0 from rfl) (show ((0 : Nat) : Int) = 0 from rfl) (show ((0 : Nat) : Int) = 0 from rfl)) (congrArg i3 ((hZ6A.1)))) (by omega) (by omega)) (decide_eq_false (by omega))) ?_
      refine wz_i0 (Eq.trans (i3T (Eq.trans (zm_rd (Z := Z6) (ν := ν) (k := 68) (show ((0 : Nat) : Int) = 0 from rfl) (show ((0 : Nat) : Int) = 0 from rfl) (show ((0 : Nat) : Int) = 0 from rfl)) (congrArg i3 ((hZ6A.1)))) (by omega) (by omega)) (decide_eq_false (by omega))) ?_
      refine wz_i0 (Eq.trans (i3T (Eq.trans (zm_rd (Z := Z6) (ν := ν) (k := 68) (show ((0 : Nat) : Int) = 0 from rfl) (show ((0 : Nat) : Int) = 0 from rfl) (show ((0 : Nat) : Int) = 0 from rfl)) (congrArg i3 ((hZ6A.1)))) (by omega) (by omega)) (decide_eq_false (by omega))) ?_
      refine wz_i0 (Eq.trans (i3T (Eq.trans (zm_rd (Z := Z6) (ν := ν) (k := 68) (show ((0 : Nat) : Int) = 0 from rfl) (show ((0 : Nat) : Int) = 0 from rfl) (show ((0 : Nat) : Int) = 0 from rfl)) (congrArg i3 ((hZ6A.1)))) (by omega) (by omega)) (decide_eq_false (by omega))) ?_
      refine wz_i1 (Eq.trans (i3T (Eq.trans (zm_rd (Z := Z6) (ν := ν) (k := 68) (show ((0 : Nat) : Int) = 0 from rfl) (show ((0 : Nat) : Int) = 0 from rfl) (show ((0 : Nat) : Int) = 0 from rfl)) (congrArg i3 ((hZ6A.1)))) (by omega) (by omega)) (decide_eq_true (by omega))) ?_
      refine wz_i1 rfl ?_
      refine wz_i0 (i3O (n := 7) (show (1 : Int32) = i3 1 from rfl) (by omega) (by omega) (by omega)) ?_
      obtain ⟨Z7, hZ7⟩ := zx (zu Z6 11 0 0 14 a1)
      replace hP := zl_e hP hZ7
      have hZ7I := zH_u hZ6I hZ7 (lo := 0) (hi := 4) (by decide) rfl (by omega) ⟨by decide, by decide⟩ (Or.inl (by decide)) rfl
      have hZ7U : zU [0, 2, 3, 4, 5, 6, 7, 8, 9] Z Z7 := zU_u hZ6U hZ7 (Or.inr (List.Mem.head _))
      have hZ7K : zC [3, 12, 13, 14, 40, 41, 42, 43, 44, 45, 46, 47, 48, 49, 50, 51, 52, 53, 54, 61, 68, 1099, 1100, 1101, 1102, 1103, 1104, 1105, 1106, 1107, 1108, 1109, 1110, 1111, 1112, 1113, 1114, 1115, 1116] Z Z7 := zC_u hZ6K hZ7 (by decide)
      intro μ9 e9
      replace e9 := e9.trans (zm_wI (Z := Z6) (ν := ν) hZ7 (show ((0 : Nat) : Int) = 0 from rfl) (show ((0 : Nat) : Int) = 0 from rfl) (show ((14 : Nat) : Int) = 14 from rfl) (Eq.trans (zm_rd (Z := Z6) (ν := ν) (k := 68) (show ((0 : Nat) : Int) = 0 from rfl) (show ((0 : Nat) : Int) = 0 from rfl) (show ((1 : Nat) : Int) = 1 from rfl)) (congrArg i3 ((hZ6A.2.1)))))
      subst e9
      have r8 := zH_k hZ6I 11 0 0 14 (lo := 0) (hi := 4) (by decide) rfl
      exact zlG hP (zm_rd (Z := Z6) (ν := ν) (k := 11) (show ((0 : Nat) : Int) = 0 from rfl) (show ((0 : Nat) : Int) = 0 from rfl) (show ((14 : Nat) : Int) = 14 from rfl)) ⟨hZ7I, hZ7K, hZ7U, zG_w zG_r (Nat.le_of_ble_eq_true rfl) (Nat.le_of_ble_eq_true rfl)⟩
  · replace hP := zE_n hP h1
    exact zlGe (E := 12) hP ⟨hZ, zC_r, zU_r, zG_w (zG_k rfl) (Nat.le_of_ble_eq_true rfl) (Nat.le_of_ble_eq_true rfl)⟩
/- yX10_dumpFault -/
def zf_165 (Z : qz_Z) (a0b : Int) (a1 : Int) : Int := (if a1 < 0 then 1 else (if a1 < (Z 11 a0b 0 3) then (if (Z 44 a0b a1 10) = 0 then 0 else (if (Z 44 a0b a1 10) ≠ 1 then 3 else 0)) else 1))
theorem sp_165 {s : zSM} {Z : qz_Z} {ν : qz_N} (hZ : zH s Z) (a0b : Nat) {a1 : Int} (ga1 : -2147483648 ≤ a1 ∧ a1 ≤ 2147483647) (hM : s.2 + 0 ≤ 1000000000) : ∃ P : Int, P = zf_165 Z a0b a1 ∧ (qf_165 [.inr (.inr (some (10, a0b, 0))), .inl (i3 a1)] (zm Z ν) = some (zm Z ν, .inl (some (.inl (i3 P)))) ∧ 0 ≤ P ∧ P ≤ 3) := by
  obtain ⟨P, hP⟩ := zx (zf_165 Z a0b a1)
  refine zc_R (Q := fun P => 0 ≤ P ∧ P ≤ 3) hP (fw_165 a0b (i3 a1) _ _ ?_)
  replace hP : zE P (zf_165 Z a0b a1) := hP
  unfold zf_165 at hP
  refine wz_br (i3L (rfl : i3 a1 = i3 a1) (show (0 : Int32) = i3 0 from rfl) (by omega) (by omega) (by omega) (by omega)) (fun h1 => ?_) (fun h1 => ?_)
  · replace hP := zE_p hP h1
    exact zlR hP (show (1 : Int32) = i3 1 from rfl) ⟨by omega, by omega⟩
  · replace hP := zE_n hP h1
    have r2 := zH_k hZ 11 a0b 0 3 (lo := 0) (hi := 48) (by decide) rfl
    refine wz_br (i3L (rfl : i3 a1 = i3 a1) (zm_rd (Z := Z) (ν := ν) (k := 11) (rfl : ((a0b : Nat) : Int) = a0b) (show ((0 : Nat) : Int) = 0 from rfl) (show ((3 : Nat) : Int) = 3 from rfl)) (by omega) (by omega) (by omega) (by omega)) (fun h3 => ?_) (fun h3 => ?_)
    · replace hP := zE_p hP h3
      refine wz_i0 (i3O (n := 48) (rfl : i3 a1 = i3 a1) (by omega) (by omega) (by omega)) ?_
      have r4 := zH_k hZ 44 a0b a1 10 (lo := 0) (hi := 4) (by decide) rfl
      refine wz_br (i3E (zm_rd (Z := Z) (ν := ν) (k := 44) (rfl : ((a0b : Nat) : Int) = a0b) (i3I (y := a1) (rfl : i3 a1 = i3 a1) (by omega) (by omega) (by omega)) (show ((10 : Nat) : Int) = 10 from rfl)) (show (0 : Int32) = i3 0 from rfl) (by omega) (by omega) (by omega) (by omega)) (fun h5 => ?_) (fun h5 => ?_)
      · replace hP := zE_p hP h5
        exact zlR hP (show (0 : Int32) = i3 0 from rfl) ⟨by omega, by omega⟩
      · replace hP := zE_n hP h5
        refine wz_br (i3NE (zm_rd (Z := Z) (ν := ν) (k := 44) (rfl : ((a0b : Nat) : Int) = a0b) (i3I (y := a1) (rfl : i3 a1 = i3 a1) (by omega) (by omega) (by omega)) (show ((10 : Nat) : Int) = 10 from rfl)) (show (1 : Int32) = i3 1 from rfl) (by omega) (by omega) (by omega) (by omega)) (fun h6 => ?_) (fun h6 => ?_)
        · replace hP := zE_p hP h6
          exact zlR hP (show (3 : Int32) = i3 3 from rfl) ⟨by omega, by omega⟩
        · replace hP := zE_n hP h6
          exact zlR hP (show (0 : Int32) = i3 0 from rfl) ⟨by omega, by omega⟩
    · replace hP := zE_n hP h3
      exact zlR hP (show (1 : Int32) = i3 1 from rfl) ⟨by omega, by omega⟩
/- yX11_dump -/
def zx_198 (Z : qz_Z) (a1 : Int) : qz_Z × Int × Int := (if a1 < 0 then (Z, 0, 24) else (if a1 < (Z 11 0 0 3) then (if (Z 44 0 a1 10) = 0 then (zlet (zdd Z 9 a1 0 0 0 0 0) (fun Z6 => (zlet2 (zf_105 Z6 0 a1 4) (fun Z7 v8 => (Z7, v8, 0))))) else (if (Z 44 0 a1 10) ≠ 1 then (Z, 0, 15) else (zlet (zdd Z 9 a1 0 0 0 0 0) (fun Z10 => (zlet2 (zf_105 Z10 0 a1 4) (fun Z11 v12 => (Z11, v12, 0))))))) else (Z, 0, 24)))
theorem sx_198 {M : Nat} {Z : qz_Z} {ν : qz_N} (hZ : zH ((none, M) : zSM) Z) (hM : ((none, M) : zSM).2 + 63 ≤ 1000000000) {a1 : Int} (ga1 : -2147483648 ≤ a1 ∧ a1 ≤ 2147483647) (hLt0 : zLt 0 Z) : ∃ (Z1 : qz_Z) (ν1 : qz_N) (v E : Int), (Z1, v, E) = zx_198 Z a1 ∧ qf_198 [.inr (.inr (some (0, 0, 0))), .inl (i3 a1)] (zm Z ν) = some (zm Z1 ν1, zoX v E) ∧ (fun Z1 ν1 => zH (zb ((none, M) : zSM) 63) Z1 ∧ zC [3, 12, 13, 14, 40, 41, 42, 43, 44, 45, 46, 47, 48, 49, 50, 51, 52, 53, 54, 61, 68, 1099, 1100, 1101, 1102, 1103, 1104, 1105, 1106, 1107, 1108, 1109, 1110, 1111, 1112, 1113, 1114, 1115, 1116] Z Z1 ∧ zU [0, 2, 3, 4, 5, 6, 7, 8, 9] Z Z1 ∧ zG 1 6 ν ν1) Z1 ν1 := by
  obtain ⟨P, hP⟩ := zx (zx_198 Z a1)
  refine zc_G (Q := fun Z1 ν1 => zH (zb ((none, M) : zSM) 63) Z1 ∧ zC [3, 12, 13, 14, 40, 41, 42, 43, 44, 45, 46, 47, 48, 49, 50, 51, 52, 53, 54, 61, 68, 1099, 1100, 1101, 1102, 1103, 1104, 1105, 1106, 1107, 1108, 1109, 1110, 1111, 1112, 1113, 1114, 1115, 1116] Z Z1 ∧ zU [0, 2, 3, 4, 5, 6, 7, 8, 9] Z Z1 ∧ zG 1 6 ν ν1) hP (fw_198 (i3 a1) _ _ ?_)
  replace hP : zE P (zx_198 Z a1) := hP
  unfold zx_198 at hP
  refine fw_165 _ _ _ _ ?_
  refine wz_br (i3L (rfl : i3 a1 = i3 a1) (show (0 : Int32) = i3 0 from rfl) (by omega) (by omega) (by omega) (by omega)) (fun h1 => ?_) (fun h1 => ?_)
  · replace hP := zE_p hP h1
    refine wz_i0 (Eq.trans (i3NE (show (1 : Int32) = i3 1 from rfl) (show (1 : Int32) = i3 1 from rfl) (by omega) (by omega) (by omega) (by omega)) (decide_eq_false (by omega))) ?_
    exact zlGe (E := 23) hP ⟨(zbw (a := 0) (c := 63) hZ (Nat.le_of_ble_eq_true rfl)), zC_r, zU_r, zG_w (zG_k rfl) (Nat.le_of_ble_eq_true rfl) (Nat.le_of_ble_eq_true rfl)⟩
  · replace hP := zE_n hP h1
    have r2 := zH_k hZ 11 0 0 3 (lo := 0) (hi := 48) (by decide) rfl
    refine wz_br (i3L (rfl : i3 a1 = i3 a1) (zm_rd (Z := Z) (ν := ν) (k := 11) (show ((0 : Nat) : Int) = 0 from rfl) (show ((0 : Nat) : Int) = 0 from rfl) (show ((3 : Nat) : Int) = 3 from rfl)) (by omega) (by omega) (by omega) (by omega)) (fun h3 => ?_) (fun h3 => ?_)
    · replace hP := zE_p hP h3
      refine wz_i0 (i3O (n := 48) (rfl : i3 a1 = i3 a1) (by omega) (by omega) (by omega)) ?_
      have r4 := zH_k hZ 44 0 a1 10 (lo := 0) (hi := 4) (by decide) rfl
      refine wz_br (i3E (zm_rd (Z := Z) (ν := ν) (k := 44) (show ((0 : Nat) : Int) = 0 from rfl) (i3I (y := a1) (rfl : i3 a1 = i3 a1) (by omega) (by omega) (by omega)) (show ((10 : Nat) : Int) = 10 from rfl)) (show (0 : Int32) = i3 0 from rfl) (by omega) (by omega) (by omega) (by omega)) (fun h5 => ?_) (fun h5 => ?_)
      · replace hP := zE_p hP h5
        refine wz_i1 (Eq.trans (i3NE (show (0 : Int32) = i3 0 from rfl) (show (1 : Int32) = i3 1 from rfl) (by omega) (by omega) (by omega) (by omega)) (decide_eq_true (by omega))) ?_
        refine wz_i1 (Eq.trans (i3NE (show (0 : Int32) = i3 0 from rfl) (show (2 : Int32) = i3 2 from rfl) (by omega) (by omega) (by omega) (by omega)) (decide_eq_true (by omega))) ?_
        refine wz_i1 (Eq.trans (i3NE (show (0 : Int32) = i3 0 from rfl) (show (3 : Int32) = i3 3 from rfl) (by omega) (by omega) (by omega) (by omega)) (decide_eq_true (by omega))) ?_
        refine dc_J (zcons rfl (zcons (zvi (show (9 : Int32) = i3 9 from rfl)) (zcons (zvi (rfl : i3 a1 = i3 a1)) (zcons (zvi (show (0 : Int32) = i3 0 from rfl)) (zcons (zvi (show (0 : Int32) = i3 0 from rfl)) (zcons (zvi (show (0 : Int32) = i3 0 from rfl)) (zcons (zvi (show (0 : Int32) = i3 0 from rfl)) (zcons (zvi (show (0 : Int32) = i3 0 from rfl)) rfl)))))))) (dg (hZ).1 (by omega) (by omega) (by omega) (by omega) (by omega) (by omega) (by omega) ?_)
        have hZ6I := zH_dd hZ (a1 := 9) (a2 := a1) (a3 := 0) (a4 := 0) (a5 := 0) (a6 := 0) (a7 := 0) (by omega) (by omega) (by omega) (by omega) (by omega) (by omega) (by omega)
        have kZ6 : zC [3, 12, 13, 14, 40, 41, 42, 43, 44, 45, 46, 47, 48, 49, 50, 51, 52, 53, 54, 61, 68, 1099, 1100, 1101, 1102, 1103, 1104, 1105, 1106, 1107, 1108, 1109, 1110, 1111, 1112, 1113, 1114, 1115, 1116] Z (zdd Z 9 a1 0 0 0 0 0) := zC_k zdd_K (by decide) (by decide)
        have hZ6A : (zdd Z 9 a1 0 0 0 0 0) 68 0 0 0 = 9 ∧ (zdd Z 9 a1 0 0 0 0 0) 68 0 0 1 = a1 ∧ (zdd Z 9 a1 0 0 0 0 0) 68 0 0 2 = 0 ∧ (zdd Z 9 a1 0 0 0 0 0) 68 0 0 3 = 0 ∧ (zdd Z 9 a1 0 0 0 0 0) 68 0 0 4 = 0 ∧ (zdd Z 9 a1 0 0 0 0 0) 68 0 0 5 = 0 ∧ (zdd Z 9 a1 0 0 0 0 0) 68 0 0 6 = 0 := ⟨zdd_68, zdd_68, zdd_68, zdd_68, zdd_68, zdd_68, zdd_68⟩
        obtain ⟨Z6, hZ6⟩ := zx (zdd Z 9 a1 0 0 0 0 0)
        have dZ6 : ∀ {k : Nat} {i j : Int}, zhall k = true → ¬ (k = 11 ∧ (j = 15 ∨ j = 16)) → Z6 k 0 i j = Z k 0 i j := fun hk hj => by rw [hZ6]; exact zdd_h (hZ).1 hk hj
        have jZ6 : zU [0, 2, 3, 4, 5, 6, 7, 8, 9] Z (zdd Z 9 a1 0 0 0 0 0) := zU_dd (hZ).1
        rw [← hZ6] at hZ6I kZ6 jZ6 hZ6A ⊢
        have hZ6U : zU [0, 2, 3, 4, 5, 6, 7, 8, 9] Z Z6 := zU_t zU_r jZ6 (zU_b1 (List.Mem.head _) (zU_b1 (List.Mem.tail _ (List.Mem.head _)) (zU_b1 (List.Mem.tail _ (List.Mem.tail _ (List.Mem.head _))) (zU_b1 (List.Mem.tail _ (List.Mem.tail _ (List.Mem.tail _ (List.Mem.head _)))) (zU_b1 (List.Mem.tail _ (List.Mem.tail _ (List.Mem.tail _ (List.Mem.tail _ (List.Mem.head _))))) (zU_b1 (List.Mem.tail _ (List.Mem.tail _ (List.Mem.tail _ (List.Mem.tail _ (List.Mem.tail _ (List.Mem.head _)))))) (zU_b1 (List.Mem.tail _ (List.Mem.tail _ (List.Mem.tail _ (List.Mem.tail _ (List.Mem.tail _ (List.Mem.tail _ (List.Mem.head _))))))) (zU_b1 (List.Mem.tail _ (List.Mem.tail _ (List.Mem.tail _ (List.Mem.tail _ (List.Mem.tail _ (List.Mem.tail _ (List.Mem.tail _ (List.Mem.head _)))))))) (zU_b1 (List.Mem.tail _ (List.Mem.tail _ (List.Mem.tail _ (List.Mem.tail _ (List.Mem.tail _ (List.Mem.tail _ (List.Mem.tail _ (List.Mem.tail _ (List.Mem.head _))))))))) zU_b0)))))))))
        replace hP := zl_e hP hZ6
        have hZ6K : zC [3, 12, 13, 14, 40, 41, 42, 43, 44, 45, 46, 47, 48, 49, 50, 51, 52, 53, 54, 61, 68, 1099, 1100, 1101, 1102, 1103, 1104, 1105, 1106, 1107, 1108, 1109, 1110, 1111, 1112, 1113, 1114, 1115, 1116] Z Z6 := zC_t zC_r kZ6 (by decide)
        clear kZ6 hZ6
        refine fw_121 _ _ _ _ ?_
        refine wz_i1 rfl ?_
        refine wz_i0 (i3O (n := 7) (show (0 : Int32) = i3 0 from rfl) (by omega) (by omega) (by omega)) ?_
        refine wz_i0 (Eq.trans (i3To (Eq.trans (zm_rd (Z := Z6) (ν := ν) (k := 68) (show ((0 : Nat) : Int) = 0 from rfl) (show ((0 : Nat) : Int) = 0 from rfl) (show ((0 : Nat) : Int) = 0 from rfl)) (congrArg i3 ((hZ6A.1)))) (by omega) (by omega)) (decide_eq_false (by omega))) ?_
        refine wz_i0 (Eq.trans (i3T (Eq.trans (zm_rd (Z := Z6) (ν := ν) (k := 68) (show ((0 : Nat) : Int) = 0 from rfl) (show ((0 : Nat) : Int) = 0 from rfl) (show ((0 : Nat) : Int) = 0 from rfl)) (congrArg i3 ((hZ6A.1)))) (by omega) (by omega)) (decide_eq_false (by omega))) ?_
        refine wz_i0 (Eq.trans (i3T (Eq.trans (zm_rd (Z := Z6) (ν := ν) (k := 68) (show ((0 : Nat) : Int) = 0 from rfl) (show ((0 : Nat) : Int) = 0 from rfl) (show ((0 : Nat) : Int) = 0 from rfl)) (congrArg i3 ((hZ6A.1)))) (by omega) (by omega)) (decide_eq_false (by omega))) ?_
        refine wz_i0 (Eq.trans (i3T (Eq.trans (zm_rd (Z := Z6) (ν := ν) (k := 68) (show ((0 : Nat) : Int) = 0 from rfl) (show ((0 : Nat) : Int) = 0 from rfl) (show ((0 : Nat) : Int) = 0 from rfl)) (congrArg i3 ((hZ6A.1)))) (by omega) (by omega)) (decide_eq_false (by omega))) ?_
        refine wz_i0 (Eq.trans (i3T (Eq.trans (zm_rd (Z := Z6) (ν := ν) (k := 68) (show ((0 : Nat) : Int) = 0 from rfl) (show ((0 : Nat) : Int) = 0 from rfl) (show ((0 : Nat) : Int) = 0 from rfl)) (congrArg i3 ((hZ6A.1)))) (by omega) (by omega)) (decide_eq_false (by omega))) ?_
        refine wz_i0 (Eq.trans (i3T (Eq.trans (zm_rd (Z := Z6) (ν := ν) (k := 68) (show ((0 : Nat) : Int) = 0 from rfl) (show ((0 : Nat) : Int) = 0 from rfl) (show ((0 : Nat) : Int) = 0 from rfl)) (congrArg i3 ((hZ6A.1)))) (by omega) (by omega)) (decide_eq_false (by omega))) ?_
        refine wz_i0 (Eq.trans (i3T (Eq.trans (zm_rd (Z := Z6) (ν := ν) (k := 68) (show ((0 : Nat) : Int) = 0 from rfl) (show ((0 : Nat) : Int) = 0 from rfl) (show ((0 : Nat) : Int) = 0 from rfl)) (congrArg i3 ((hZ6A.1)))) (by omega) (by omega)) (decide_eq_false (by omega))) ?_
        refine wz_i0 (Eq.trans (i3T (Eq.trans (zm_rd (Z := Z6) (ν := ν) (k := 68) (show ((0 : Nat) : Int) = 0 from rfl) (show ((0 : Nat) : Int) = 0 from rfl) (show ((0 : Nat) : Int) = 0 from rfl)) (congrArg i3 ((hZ6A.1)))) (by omega) (by omega)) (decide_eq_false (by omega))) ?_
        refine wz_i0 (Eq.trans (i3T (Eq.trans (zm_rd (Z := Z6) (ν := ν) (k := 68) (show ((0 : Nat) : Int) = 0 from rfl) (show ((0 : Nat) : Int) = 0 from rfl) (show ((0 : Nat) : Int) = 0 from rfl)) (congrArg i3 ((hZ6A.1)))) (by omega) (by omega)) (decide_eq_false (by omega))) ?_
        refine wz_i0 (Eq.trans (i3T (Eq.trans (zm_rd (Z := Z6) (ν := ν) (k := 68) (show ((0 : Nat) : Int) = 0 from rfl) (show ((0 : Nat) : Int) = 0 from rfl) (show ((0 : Nat) : Int) = 0 from rfl)) (congrArg i3 ((hZ6A.1)))) (by omega) (by omega)) (decide_eq_false (by omega))) ?_
        refine wz_i1 (Eq.trans (i3T (Eq.trans (zm_rd (Z := Z6) (ν := ν) (k := 68) (show ((0 : Nat) : Int) = 0 from rfl) (show ((0 : Nat) : Int) = 0 from rfl) (show ((0 : Nat) : Int) = 0 from rfl)) (congrArg i3 ((hZ6A.1)))) (by omega) (by omega)) (decide_eq_true (by omega))) ?_
        refine wz_i1 rfl ?_
        refine wz_i0 (i3O (n := 7) (show (1 : Int32) = i3 1 from rfl) (by omega) (by omega) (by omega)) ?_
        obtain ⟨Z7, v8, hv8, c9, hZ7I, kZ7, jZ7, lv8, uv8, tZ7_a0b⟩ := sp_105 (ν := ν) hZ6I 0 (a1 := a1) (by omega) (a2 := 4) (by omega) (zLt_d hLt0 dZ6) (zbh (c := 0) (k := 63) hM (Nat.le_of_ble_eq_true rfl))
        have hZ7U : zU [0, 2, 3, 4, 5, 6, 7, 8, 9] Z Z7 := zU_t hZ6U jZ7 (zU_b1 (List.Mem.head _) zU_b0)
        have hZ7K : zC [3, 12, 13, 14, 40, 41, 42, 43, 44, 45, 46, 47, 48, 49, 50, 51, 52, 53, 54, 61, 68, 1099, 1100, 1101, 1102, 1103, 1104, 1105, 1106, 1107, 1108, 1109, 1110, 1111, 1112, 1113, 1114, 1115, 1116] Z Z7 := zC_t hZ6K kZ7 (by decide)
        replace hP := zl_e2 hP hv8
        refine wz_cI_of (zas (zcons rfl (zcons (zvi (Eq.trans (zm_rd (Z := Z6) (ν := ν) (k := 68) (show ((0 : Nat) : Int) = 0 from rfl) (show ((0 : Nat) : Int) = 0 from rfl) (show ((1 : Nat) : Int) = 1 from rfl)) (congrArg i3 ((hZ6A.2.1))))) (zcons (zvi (show (4 : Int32) = i3 4 from rfl)) rfl))) c9) ?_
        clear c9 hv8
        exact zlG hP (rfl : i3 v8 = i3 v8) ⟨hZ7I, hZ7K, hZ7U, zG_w zG_r (Nat.le_of_ble_eq_true rfl) (Nat.le_of_ble_eq_true rfl)⟩
      · replace hP := zE_n hP h5
        refine wz_br (i3NE (zm_rd (Z := Z) (ν := ν) (k := 44) (show ((0 : Nat) : Int) = 0 from rfl) (i3I (y := a1) (rfl : i3 a1 = i3 a1) (by omega) (by omega) (by omega)) (show ((10 : Nat) : Int) = 10 from rfl)) (show (1 : Int32) = i3 1 from rfl) (by omega) (by omega) (by omega) (by omega)) (fun h9 => ?_) (fun h9 => ?_)
        · replace hP := zE_p hP h9
          refine wz_i1 (Eq.trans (i3NE (show (3 : Int32) = i3 3 from rfl) (show (1 : Int32) = i3 1 from rfl) (by omega) (by omega) (by omega) (by omega)) (decide_eq_true (by omega))) ?_
          refine wz_i1 (Eq.trans (i3NE (show (3 : Int32) = i3 3 from rfl) (show (2 : Int32) = i3 2 from rfl) (by omega) (by omega) (by omega) (by omega)) (decide_eq_true (by omega))) ?_
          refine wz_i0 (Eq.trans (i3NE (show (3 : Int32) = i3 3 from rfl) (show (3 : Int32) = i3 3 from rfl) (by omega) (by omega) (by omega) (by omega)) (decide_eq_false (by omega))) ?_
          exact zlGe (E := 14) hP ⟨(zbw (a := 0) (c := 63) hZ (Nat.le_of_ble_eq_true rfl)), zC_r, zU_r, zG_w (zG_k rfl) (Nat.le_of_ble_eq_true rfl) (Nat.le_of_ble_eq_true rfl)⟩
        · replace hP := zE_n hP h9
          refine wz_i1 (Eq.trans (i3NE (show (0 : Int32) = i3 0 from rfl) (show (1 : Int32) = i3 1 from rfl) (by omega) (by omega) (by omega) (by omega)) (decide_eq_true (by omega))) ?_
          refine wz_i1 (Eq.trans (i3NE (show (0 : Int32) = i3 0 from rfl) (show (2 : Int32) = i3 2 from rfl) (by omega) (by omega) (by omega) (by omega)) (decide_eq_true (by omega))) ?_
          refine wz_i1 (Eq.trans (i3NE (show (0 : Int32) = i3 0 from rfl) (show (3 : Int32) = i3 3 from rfl) (by omega) (by omega) (by omega) (by omega)) (decide_eq_true (by omega))) ?_
          refine dc_J (zcons rfl (zcons (zvi (show (9 : Int32) = i3 9 from rfl)) (zcons (zvi (rfl : i3 a1 = i3 a1)) (zcons (zvi (show (0 : Int32) = i3 0 from rfl)) (zcons (zvi (show (0 : Int32) = i3 0 from rfl)) (zcons (zvi (show (0 : Int32) = i3 0 from rfl)) (zcons (zvi (show (0 : Int32) = i3 0 from rfl)) (zcons (zvi (show (0 : Int32) = i3 0 from rfl)) rfl)))))))) (dg (hZ).1 (by omega) (by omega) (by omega) (by omega) (by omega) (by omega) (by omega) ?_)
          have hZ10I := zH_dd hZ (a1 := 9) (a2 := a1) (a3 := 0) (a4 := 0) (a5 := 0) (a6 := 0) (a7 := 0) (by omega) (by omega) (by omega) (by omega) (by omega) (by omega) (by omega)
          have kZ10 : zC [3, 12, 13, 14, 40, 41, 42, 43, 44, 45, 46, 47, 48, 49, 50, 51, 52, 53, 54, 61, 68, 1099, 1100, 1101, 1102, 1103, 1104, 1105, 1106, 1107, 1108, 1109, 1110, 1111, 1112, 1113, 1114, 1115, 1116] Z (zdd Z 9 a1 0 0 0 0 0) := zC_k zdd_K (by decide) (by decide)
          have hZ10A : (zdd Z 9 a1 0 0 0 0 0) 68 0 0 0 = 9 ∧ (zdd Z 9 a1 0 0 0 0 0) 68 0 0 1 = a1 ∧ (zdd Z 9 a1 0 0 0 0 0) 68 0 0 2 = 0 ∧ (zdd Z 9 a1 0 0 0 0 0) 68 0 0 3 = 0 ∧ (zdd Z 9 a1 0 0 0 0 0) 68 0 0 4 = 0 ∧ (zdd Z 9 a1 0 0 0 0 0) 68 0 0 5 = 0 ∧ (zdd Z 9 a1 0 0 0 0 0) 68 0 0 6 = 0 := ⟨zdd_68, zdd_68, zdd_68, zdd_68, zdd_68, zdd_68, zdd_68⟩
          obtain ⟨Z10, hZ10⟩ := zx (zdd Z 9 a1 0 0 0 0 0)
          have dZ10 : ∀ {k : Nat} {i j : Int}, zhall k = true → ¬ (k = 11 ∧ (j = 15 ∨ j = 16)) → Z10 k 0 i j = Z k 0 i j := fun hk hj => by rw [hZ10]; exact zdd_h (hZ).1 hk hj
          have jZ10 : zU [0, 2, 3, 4, 5, 6, 7, 8, 9] Z (zdd Z 9 a1 0 0 0 0 0) := zU_dd (hZ).1
          rw [← hZ10] at hZ10I kZ10 jZ10 hZ10A ⊢
          have hZ10U : zU [0, 2, 3, 4, 5, 6, 7, 8, 9] Z Z10 := zU_t zU_r jZ10 (zU_b1 (List.Mem.head _) (zU_b1 (List.Mem.tail _ (List.Mem.head _)) (zU_b1 (List.Mem.tail _ (List.Mem.tail _ (List.Mem.head _))) (zU_b1 (List.Mem.tail _ (List.Mem.tail _ (List.Mem.tail _ (List.Mem.head _)))) (zU_b1 (List.Mem.tail _ (List.Mem.tail _ (List.Mem.tail _ (List.Mem.tail _ (List.Mem.head _))))) (zU_b1 (List.Mem.tail _ (List.Mem.tail _ (List.Mem.tail _ (List.Mem.tail _ (List.Mem.tail _ (List.Mem.head _)))))) (zU_b1 (List.Mem.tail _ (List.Mem.tail _ (List.Mem.tail _ (List.Mem.tail _ (List.Mem.tail _ (List.Mem.tail _ (List.Mem.head _))))))) (zU_b1 (List.Mem.tail _ (List.Mem.tail _ (List.Mem.tail _ (List.Mem.tail _ (List.Mem.tail _ (List.Mem.tail _ (List.Mem.tail _ (List.Mem.head _)))))))) (zU_b1 (List.Mem.tail _ (List.Mem.tail _ (List.Mem.tail _ (List.Mem.tail _ (List.Mem.tail _ (List.Mem.tail _ (List.Mem.tail _ (List.Mem.tail _ (List.Mem.head _))))))))) zU_b0)))))))))
          replace hP := zl_e hP hZ10
          have hZ10K : zC [3, 12, 13, 14, 40, 41, 42, 43, 44, 45, 46, 47, 48, 49, 50, 51, 52, 53, 54, 61, 68, 1099, 1100, 1101, 1102, 1103, 1104, 1105, 1106, 1107, 1108, 1109, 1110, 1111, 1112, 1113, 1114, 1115, 1116] Z Z10 := zC_t zC_r kZ10 (by decide)
          clear kZ10 hZ10
          refine fw_121 _ _ _ _ ?_
          refine wz_i1 rfl ?_
          refine wz_i0 (i3O (n := 7) (show (0 : Int32) = i3 0 from rfl) (by omega) (by omega) (by omega)) ?_
          refine wz_i0 (Eq.trans (i3To (Eq.trans (zm_rd (Z := Z10) (ν := ν) (k := 68) (show ((0 : Nat) : Int) = 0 from rfl) (show ((0 : Nat) : Int) = 0 from rfl) (show ((0 : Nat) : Int) = 0 from rfl)) (congrArg i3 ((hZ10A.1)))) (by omega) (by omega)) (decide_eq_false (by omega))) ?_
          refine wz_i0 (Eq.trans (i3T (Eq.trans (zm_rd (Z := Z10) (ν := ν) (k := 68) (show ((0 : Nat) : Int) = 0 from rfl) (show ((0 : Nat) : Int) = 0 from rfl) (show ((0 : Nat) : Int) = 0 from rfl)) (congrArg i3 ((hZ10A.1)))) (by omega) (by omega)) (decide_eq_false (by omega))) ?_
          refine wz_i0 (Eq.trans (i3T (Eq.trans (zm_rd (Z := Z10) (ν := ν) (k := 68) (show ((0 : Nat) : Int) = 0 from rfl) (show ((0 : Nat) : Int) = 0 from rfl) (show ((0 : Nat) : Int) = 0 from rfl)) (congrArg i3 ((hZ10A.1)))) (by omega) (by omega)) (decide_eq_false (by omega))) ?_
          refine wz_i0 (Eq.trans (i3T (Eq.trans (zm_rd (Z := Z10) (ν := ν) (k := 68) (show ((0 : Nat) : Int) = 0 from rfl) (show ((0 : Nat) : Int) = 0 from rfl) (show ((0 : Nat) : Int) = 0 from rfl)) (congrArg i3 ((hZ10A.1)))) (by omega) (by omega)) (decide_eq_false (by omega))) ?_
          refine wz_i0 (Eq.trans (i3T (Eq.trans (zm_rd (Z := Z10) (ν := ν) (k := 68) (show ((0 : Nat) : Int) = 0 from rfl) (show ((0 : Nat) : Int) = 0 from rfl) (show ((0 : Nat) : Int) = 0 from rfl)) (congrArg i3 ((hZ10A.1)))) (by omega) (by omega)) (decide_eq_false (by omega))) ?_
          refine wz_i0 (Eq.trans (i3T (Eq.trans (zm_rd (Z := Z10) (ν := ν) (k := 68) (show ((0 : Nat) : Int) = 0 from rfl) (show ((0 : Nat) : Int) = 0 from rfl) (show ((0 : Nat) : Int) = 0 from rfl)) (congrArg i3 ((hZ10A.1)))) (by omega) (by omega)) (decide_eq_false (by omega))) ?_
          refine wz_i0 (Eq.trans (i3T (Eq.trans (zm_rd (Z := Z10) (ν := ν) (k := 68) (show ((0 : Nat) : Int) = 0 from rfl) (show ((0 : Nat) : Int) = 0 from rfl) (show ((0 : Nat) : Int) = 0 from rfl)) (congrArg i3 ((hZ10A.1)))) (by omega) (by omega)) (decide_eq_false (by omega))) ?_
          refine wz_i0 (Eq.trans (i3T (Eq.trans (zm_rd (Z := Z10) (ν := ν) (k := 68) (show ((0 : Nat) : Int) = 0 from rfl) (show ((0 : Nat) : Int) = 0 from rfl) (show ((0 : Nat) : Int) = 0 from rfl)) (congrArg i3 ((hZ10A.1)))) (by omega) (by omega)) (decide_eq_false (by omega))) ?_
          refine wz_i0 (Eq.trans (i3T (Eq.trans (zm_rd (Z := Z10) (ν := ν) (k := 68) (show ((0 : Nat) : Int) = 0 from rfl) (show ((0 : Nat) : Int) = 0 from rfl) (show ((0 : Nat) : Int) = 0 from rfl)) (congrArg i3 ((hZ10A.1)))) (by omega) (by omega)) (decide_eq_false (by omega))) ?_
          refine wz_i0 (Eq.trans (i3T (Eq.trans (zm_rd (Z := Z10) (ν := ν) (k := 68) (show ((0 : Nat) : Int) = 0 from rfl) (show ((0 : Nat) : Int) = 0 from rfl) (show ((0 : Nat) : Int) = 0 from rfl)) (congrArg i3 ((hZ10A.1)))) (by omega) (by omega)) (decide_eq_false (by omega))) ?_
          refine wz_i1 (Eq.trans (i3T (Eq.trans (zm_rd (Z := Z10) (ν := ν) (k := 68) (show ((0 : Nat) : Int) = 0 from rfl) (show ((0 : Nat) : Int) = 0 from rfl) (show ((0 : Nat) : Int) = 0 from rfl)) (congrArg i3 ((hZ10A.1)))) (by omega) (by omega)) (decide_eq_true (by omega))) ?_
          refine wz_i1 rfl ?_
          refine wz_i0 (i3O (n := 7) (show (1 : Int32) = i3 1 from rfl) (by omega) (by omega) (by omega)) ?_
          obtain ⟨Z11, v12, hv12, c9, hZ11I, kZ11, jZ11, lv12, uv12, tZ11_a0b⟩ := sp_105 (ν := ν) hZ10I 0 (a1 := a1) (by omega) (a2 := 4) (by omega) (zLt_d hLt0 dZ10) (zbh (c := 0) (k := 63) hM (Nat.le_of_ble_eq_true rfl))
          have hZ11U : zU [0, 2, 3, 4, 5, 6, 7, 8, 9] Z Z11 := zU_t hZ10U jZ11 (zU_b1 (List.Mem.head _) zU_b0)
          have hZ11K : zC [3, 12, 13, 14, 40, 41, 42, 43, 44, 45, 46, 47, 48, 49, 50, 51, 52, 53, 54, 61, 68, 1099, 1100, 1101, 1102, 1103, 1104, 1105, 1106, 1107, 1108, 1109, 1110, 1111, 1112, 1113, 1114, 1115, 1116] Z Z11 := zC_t hZ10K kZ11 (by decide)
          replace hP := zl_e2 hP hv12
          refine wz_cI_of (zas (zcons rfl (zcons (zvi (Eq.trans (zm_rd (Z := Z10) (ν := ν) (k := 68) (show ((0 : Nat) : Int) = 0 from rfl) (show ((0 : Nat) : Int) = 0 from rfl) (show ((1 : Nat) : Int) = 1 from rfl)) (congrArg i3 ((hZ10A.2.1))))) (zcons (zvi (show (4 : Int32) = i3 4 from rfl)) rfl))) c9) ?_
          clear c9 hv12
          exact zlG hP (rfl : i3 v12 = i3 v12) ⟨hZ11I, hZ11K, hZ11U, zG_w zG_r (Nat.le_of_ble_eq_true rfl) (Nat.le_of_ble_eq_true rfl)⟩
    · replace hP := zE_n hP h3
      refine wz_i0 (Eq.trans (i3NE (show (1 : Int32) = i3 1 from rfl) (show (1 : Int32) = i3 1 from rfl) (by omega) (by omega) (by omega) (by omega)) (decide_eq_false (by omega))) ?_
      exact zlGe (E := 23) hP ⟨(zbw (a := 0) (c := 63) hZ (Nat.le_of_ble_eq_true rfl)), zC_r, zU_r, zG_w (zG_k rfl) (Nat.le_of_ble_eq_true rfl) (Nat.le_of_ble_eq_true rfl)⟩
/- yX11_entry -/
def zx_199 (Z : qz_Z) (a1 : Int) (a2 : Int) : qz_Z × Int × Int := (if 0 ≤ a1 ∧ a1 < (min 60 (Z 11 0 0 12)) then (if 0 ≤ a2 ∧ a2 ≤ 4 then (Z, (Z 53 0 ((((Z 11 0 0 12) - 1) - a1) % 60) a2), 0) else (Z, 0, 13)) else (Z, 0, 24))
theorem sx_199 {M : Nat} {Z : qz_Z} {ν : qz_N} (hZ : zH ((none, M) : zSM) Z) (hM : ((none, M) : zSM).2 + 0 ≤ 1000000000) {a1 : Int} (ga1 : -2147483648 ≤ a1 ∧ a1 ≤ 2147483647) {a2 : Int} (ga2 : -2147483648 ≤ a2 ∧ a2 ≤ 2147483647) : ∃ (Z1 : qz_Z) (ν1 : qz_N) (v E : Int), (Z1, v, E) = zx_199 Z a1 a2 ∧ qf_199 [.inr (.inr (some (0, 0, 0))), .inl (i3 a1), .inl (i3 a2)] (zm Z ν) = some (zm Z1 ν1, zoX v E) ∧ (fun Z1 ν1 => zH ((none, M) : zSM) Z1 ∧ zC [] Z Z1 ∧ zU [] Z Z1 ∧ zG 1 6 ν ν1) Z1 ν1 := by
  obtain ⟨P, hP⟩ := zx (zx_199 Z a1 a2)
  refine zc_G (Q := fun Z1 ν1 => zH ((none, M) : zSM) Z1 ∧ zC [] Z Z1 ∧ zU [] Z Z1 ∧ zG 1 6 ν ν1) hP (fw_199 (i3 a1) (i3 a2) _ _ ?_)
  replace hP : zE P (zx_199 Z a1 a2) := hP
  unfold zx_199 at hP
  have r1 := zH_c12 hZ 0 (zbh (c := 0) (k := 0) hM (Nat.le_of_ble_eq_true rfl))
  refine wz_thing (rfl : i3 a1 = i3 a1) (i3Mn (show (60 : Int32) = i3 60 from rfl) (zm_rd (Z := Z) (ν := ν) (k := 11) (show ((0 : Nat) : Int) = 0 from rfl) (show ((0 : Nat) : Int) = 0 from rfl) (show ((12 : Nat) : Int) = 12 from rfl)) (by omega) (by omega) (by omega) (by omega)) (by omega) (by omega) (by omega) (by omega) (fun h2 => ?_) (fun h2 => ?_)
  · replace hP := zE_p hP h2
    refine wz_inR (rfl : i3 a2 = i3 a2) (show (0 : Int32) = i3 0 from rfl) (show (4 : Int32) = i3 4 from rfl) (by omega) (by omega) (by omega) (by omega) (by omega) (by omega) (fun h3 => ?_) (fun h3 => ?_)
    · replace hP := zE_p hP h3
      refine wz_i0 (i3O (n := 60) (i3R (i3S (i3S (zm_rd (Z := Z) (ν := ν) (k := 11) (show ((0 : Nat) : Int) = 0 from rfl) (show ((0 : Nat) : Int) = 0 from rfl) (show ((12 : Nat) : Int) = 12 from rfl)) (show (1 : Int32) = i3 1 from rfl)) (rfl : i3 a1 = i3 a1)) (show (60 : Int32) = i3 60 from rfl) (by omega) (by omega) (by omega) (by omega)) (by omega) (by omega) (by omega)) ?_
      refine wz_i0 (i3O (n := 5) (rfl : i3 a2 = i3 a2) (by omega) (by omega) (by omega)) ?_
      have r4 := zH_f hZ 53 0 ((((Z 11 0 0 12) - 1) - a1) % 60) a2
      exact zlG hP (zm_rd (Z := Z) (ν := ν) (k := 53) (show ((0 : Nat) : Int) = 0 from rfl) (i3I (y := ((((Z 11 0 0 12) - 1) - a1) % 60)) (i3R (i3S (i3S (zm_rd (Z := Z) (ν := ν) (k := 11) (show ((0 : Nat) : Int) = 0 from rfl) (show ((0 : Nat) : Int) = 0 from rfl) (show ((12 : Nat) : Int) = 12 from rfl)) (show (1 : Int32) = i3 1 from rfl)) (rfl : i3 a1 = i3 a1)) (show (60 : Int32) = i3 60 from rfl) (by omega) (by omega) (by omega) (by omega)) (by omega) (by omega) (by omega)) (i3I (y := a2) (rfl : i3 a2 = i3 a2) (by omega) (by omega) (by omega))) ⟨hZ, zC_r, zU_r, zG_w zG_r (Nat.le_of_ble_eq_true rfl) (Nat.le_of_ble_eq_true rfl)⟩
    · replace hP := zE_n hP h3
      exact zlGe (E := 12) hP ⟨hZ, zC_r, zU_r, zG_w (zG_k rfl) (Nat.le_of_ble_eq_true rfl) (Nat.le_of_ble_eq_true rfl)⟩
  · replace hP := zE_n hP h2
    exact zlGe (E := 23) hP ⟨hZ, zC_r, zU_r, zG_w (zG_k rfl) (Nat.le_of_ble_eq_true rfl) (Nat.le_of_ble_eq_true rfl)⟩
/- yX2_fewestLoads -/
def zl_44_1 (x1 : Int) (x2 : Int) (x4 : Int) : Nat → qz_Z → Int → qz_Z × Int
  | 0, Z, x5 => (Z, x5)
  | m + 1, Z, x5 => (if x1 ≤ x5 then (Z, x5) else (if (z2 (fun x y => x &&& y) (z2 (fun x y => x >>> (y &&& 31)) x4 x5) 1) ≠ 1 then zl_44_1 x1 x2 x4 m Z (x5 + 1) else (if x2 < (w3 ((z2 (fun x y => x - x / y * y) (Z 70 0 0 (z2 (fun x y => x &&& y) x4 (z2 (fun x y => x ^^^ y) (z2 (fun x y => x <<< (y &&& 31)) 1 x5) (-1)))) 1000) + (Z 69 0 0 x5))) then (zlet (zu Z 70 0 0 x4 (min (w3 ((w3 ((w3 ((z2 (fun x y => x / y) (Z 70 0 0 (z2 (fun x y => x &&& y) x4 (z2 (fun x y => x ^^^ y) (z2 (fun x y => x <<< (y &&& 31)) 1 x5) (-1)))) 1000) + 1)) * 1000)) + (Z 69 0 0 x5))) (Z 70 0 0 x4))) (fun Z21 => zl_44_1 x1 x2 x4 m Z21 (x5 + 1))) else (zlet (zu Z 70 0 0 x4 (min (w3 ((Z 70 0 0 (z2 (fun x y => x &&& y) x4 (z2 (fun x y => x ^^^ y) (z2 (fun x y => x <<< (y &&& 31)) 1 x5) (-1)))) + (Z 69 0 0 x5))) (Z 70 0 0 x4))) (fun Z24 => zl_44_1 x1 x2 x4 m Z24 (x5 + 1))))))
theorem sl_44_1 {s : zSM} {Zs Z : qz_Z} {ν : qz_N} (hZ : zH s Z) (hM : s.2 + 0 ≤ 1000000000) (hK : zC [70] Zs Z) {x1 : Int} (gx1 : 0 ≤ x1 ∧ x1 ≤ 10) {x2 : Int} (gx2 : 10 ≤ x2 ∧ x2 ≤ 99) {x4 : Int} (gx4 : 1 ≤ x4 ∧ x4 ≤ 1023) {x5 : Int} (gx5 : 0 ≤ x5 ∧ x5 ≤ 10) (hU : zU [] Zs Z) {k : wz_K} {R : wz_R} {L : qz_L} (hL : qz_fg [true, true, true, true, true, true, false, false, false] L = [some (.inr (.inr (some (69, 0, 0)))), some (.inl (i3 x1)), some (.inl (i3 x2)), some (.inr (.inr (some (70, 0, 0)))), some (.inl (i3 x4)), some (.inl (i3 x5)), none, none, none]) {T : qz_Z × Int} (hP : zE T (zl_44_1 x1 x2 x4 ((10 - x5).toNat + 1) Z x5)) (hk : ∀ (L9 : qz_L) (Z9 : qz_Z) (yx5 : Int), qz_fg [true, true, true, true, true, false, false, false, false] L9 = [some (.inr (.inr (some (69, 0, 0)))), some (.inl (i3 x1)), some (.inl (i3 x2)), some (.inr (.inr (some (70, 0, 0)))), some (.inl (i3 x4)), none, none, none, none] → zH s Z9 → zC [70] Zs Z9 → zU [] Zs Z9 → (0 ≤ yx5 ∧ yx5 ≤ 10) → zE T ((Z9, yx5)) → k 0 (L9, [], zm Z9 ν)) : wz_loop qb_44_1 65536 k R (L, [], zm Z ν) := by
  refine wz_lp sb_44_1 (fun m x => ∃ Z : qz_Z, ∃ x5 : Int, qz_fg [true, true, true, true, true, true, false, false, false] x.1 = [some (.inr (.inr (some (69, 0, 0)))), some (.inl (i3 x1)), some (.inl (i3 x2)), some (.inr (.inr (some (70, 0, 0)))), some (.inl (i3 x4)), some (.inl (i3 x5)), none, none, none] ∧ x.2 = ([], zm Z ν) ∧ zH s Z ∧ zC [70] Zs Z ∧ zU [] Zs Z ∧ m = (10 - x5).toNat ∧ (0 ≤ x5 ∧ x5 ≤ 10) ∧ zE T (zl_44_1 x1 x2 x4 (m + 1) Z x5)) ?_ 65536 ((10 - x5).toNat) _ (by omega) ⟨Z, x5, hL, rfl, hZ, hK, hU, rfl, gx5, hP⟩
  clear hP gx5 hZ hK hU hL
  clear x5
  clear Z
  rintro m ⟨L, st, μ⟩ ⟨Z, x5, hL, hx, hZ, hK, hU, hm, gx5, hP⟩
  cases hx
  refine fb_44_1 (i3 x1) (i3 x2) (i3 x4) (i3 x5) _ _ _ _ hL ?_
  refine wz_br (i3Le (rfl : i3 x1 = i3 x1) (rfl : i3 x5 = i3 x5) (by omega) (by omega) (by omega) (by omega)) (fun h1 => ?_) (fun h1 => ?_)
  · replace hP := zE_p hP h1
    exact hk _ _ _ (zconso rfl (zconso (zvo (rfl : i3 x1 = i3 x1)) (zconso (zvo (rfl : i3 x2 = i3 x2)) (zconso rfl (zconso (zvo (rfl : i3 x4 = i3 x4)) (zconso rfl (zconso rfl (zconso rfl (zconso rfl rfl))))))))) hZ hK hU (by omega)  hP
  · replace hP := zE_n hP h1
    have r2 := z2_r (fun x y => x >>> (y &&& 31)) x4 x5
    have r3 := z2_r (fun x y => x &&& y) (z2 (fun x y => x >>> (y &&& 31)) x4 x5) 1
    have r4 := z2_and (z2 (fun x y => x >>> (y &&& 31)) x4 x5) (y := 1) (by omega) (by omega)
    refine wz_br (i3NE (i3Z (fun x y => x &&& y) (i3Z (fun x y => x >>> (y &&& 31)) (rfl : i3 x4 = i3 x4) (rfl : i3 x5 = i3 x5)) (show (1 : Int32) = i3 1 from rfl)) (show (1 : Int32) = i3 1 from rfl) (by omega) (by omega) (by omega) (by omega)) (fun h5 => ?_) (fun h5 => ?_)
    · replace hP := zE_p hP h5
      obtain ⟨m2, rfl⟩ : ∃ m2, m = m2 + 1 := ⟨m - 1, by omega⟩
      exact wz_k1 ⟨m2, by omega, Z, (x5 + 1), (zconso rfl (zconso (zvo (rfl : i3 x1 = i3 x1)) (zconso (zvo (rfl : i3 x2 = i3 x2)) (zconso rfl (zconso (zvo (rfl : i3 x4 = i3 x4)) (zconso (zvo (i3A (rfl : i3 x5 = i3 x5) (show (1 : Int32) = i3 1 from rfl))) (zconso rfl (zconso rfl (zconso rfl rfl))))))))), rfl, hZ, hK, hU, by omega, by omega,  hP⟩
    · replace hP := zE_n hP h5
      have r6 := z2_r (fun x y => x <<< (y &&& 31)) 1 x5
      have r7 := z2_shl10 (n := x5) (by omega) (by omega)
      have r8 := z2_r (fun x y => x ^^^ y) (z2 (fun x y => x <<< (y &&& 31)) 1 x5) (-1)
      have r9 := z2_r (fun x y => x &&& y) x4 (z2 (fun x y => x ^^^ y) (z2 (fun x y => x <<< (y &&& 31)) 1 x5) (-1))
      have r10 := z2_andl (z2 (fun x y => x ^^^ y) (z2 (fun x y => x <<< (y &&& 31)) 1 x5) (-1)) (x := x4) (by omega) (by omega)
      refine wz_i0 (i3O (n := 1024) (i3Z (fun x y => x &&& y) (rfl : i3 x4 = i3 x4) (i3Z (fun x y => x ^^^ y) (i3Z (fun x y => x <<< (y &&& 31)) (show (1 : Int32) = i3 1 from rfl) (rfl : i3 x5 = i3 x5)) (show (-1 : Int32) = i3 (-1) from rfl))) (by omega) (by omega) (by omega)) ?_
      refine wz_i0 (i3O (n := 24) (rfl : i3 x5 = i3 x5) (by omega) (by omega) (by omega)) ?_
      have r11 := zH_f hZ 70 0 0 (z2 (fun x y => x &&& y) x4 (z2 (fun x y => x ^^^ y) (z2 (fun x y => x <<< (y &&& 31)) 1 x5) (-1)))
      have r12 := z2_r (fun x y => x - x / y * y) (Z 70 0 0 (z2 (fun x y => x &&& y) x4 (z2 (fun x y => x ^^^ y) (z2 (fun x y => x <<< (y &&& 31)) 1 x5) (-1)))) 1000
      have r13 := zH_f hZ 69 0 0 x5
      have r14 := w3_r ((z2 (fun x y => x - x / y * y) (Z 70 0 0 (z2 (fun x y => x &&& y) x4 (z2 (fun x y => x ^^^ y) (z2 (fun x y => x <<< (y &&& 31)) 1 x5) (-1)))) 1000) + (Z 69 0 0 x5))
      refine wz_br (i3L (rfl : i3 x2 = i3 x2) (i3W (i3A (i3Z (fun x y => x - x / y * y) (zm_rd (Z := Z) (ν := ν) (k := 70) (show ((0 : Nat) : Int) = 0 from rfl) (show ((0 : Nat) : Int) = 0 from rfl) (i3I (y := (z2 (fun x y => x &&& y) x4 (z2 (fun x y => x ^^^ y) (z2 (fun x y => x <<< (y &&& 31)) 1 x5) (-1)))) (i3Z (fun x y => x &&& y) (rfl : i3 x4 = i3 x4) (i3Z (fun x y => x ^^^ y) (i3Z (fun x y => x <<< (y &&& 31)) (show (1 : Int32) = i3 1 from rfl) (rfl : i3 x5 = i3 x5)) (show (-1 : Int32) = i3 (-1) from rfl))) (by omega) (by omega) (by omega))) (show (1000 : Int32) = i3 1000 from rfl)) (zm_rd (Z := Z) (ν := ν) (k := 69) (show ((0 : Nat) : Int) = 0 from rfl) (show ((0 : Nat) : Int) = 0 from rfl) (i3I (y := x5) (rfl : i3 x5 = i3 x5) (by omega) (by omega) (by omega))))) (by omega) (by omega) (by omega) (by omega)) (fun h15 => ?_) (fun h15 => ?_)
      · replace hP := zE_p hP h15
        refine wz_i0 (i3O (n := 24) (rfl : i3 x5 = i3 x5) (by omega) (by omega) (by omega)) ?_
        refine wz_i0 (i3O (n := 1024) (rfl : i3 x4 = i3 x4) (by omega) (by omega) (by omega)) ?_
        refine wz_i0 (i3O (n := 1024) (rfl : i3 x4 = i3 x4) (by omega) (by omega) (by omega)) ?_
        have r16 := z2_r (fun x y => x / y) (Z 70 0 0 (z2 (fun x y => x &&& y) x4 (z2 (fun x y => x ^^^ y) (z2 (fun x y => x <<< (y &&& 31)) 1 x5) (-1)))) 1000
        have r17 := w3_r ((z2 (fun x y => x / y) (Z 70 0 0 (z2 (fun x y => x &&& y) x4 (z2 (fun x y => x ^^^ y) (z2 (fun x y => x <<< (y &&& 31)) 1 x5) (-1)))) 1000) + 1)
        have r18 := w3_r ((w3 ((z2 (fun x y => x / y) (Z 70 0 0 (z2 (fun x y => x &&& y) x4 (z2 (fun x y => x ^^^ y) (z2 (fun x y => x <<< (y &&& 31)) 1 x5) (-1)))) 1000) + 1)) * 1000)
        have r19 := w3_r ((w3 ((w3 ((z2 (fun x y => x / y) (Z 70 0 0 (z2 (fun x y => x &&& y) x4 (z2 (fun x y => x ^^^ y) (z2 (fun x y => x <<< (y &&& 31)) 1 x5) (-1)))) 1000) + 1)) * 1000)) + (Z 69 0 0 x5))
        have r20 := zH_f hZ 70 0 0 x4
        obtain ⟨Z21, hZ21⟩ := zx (zu Z 70 0 0 x4 (min (w3 ((w3 ((w3 ((z2 (fun x y => x / y) (Z 70 0 0 (z2 (fun x y => x &&& y) x4 (z2 (fun x y => x ^^^ y) (z2 (fun x y => x <<< (y &&& 31)) 1 x5) (-1)))) 1000) + 1)) * 1000)) + (Z 69 0 0 x5))) (Z 70 0 0 x4)))
        replace hP := zl_e hP hZ21
        have hZ21I := zH_u hZ hZ21 (lo := -2147483648) (hi := 2147483647) (by decide) rfl (by omega) ⟨by decide, by decide⟩ (Or.inl (by decide)) rfl
        have hZ21U : zU [] Zs Z21 := zU_u hU hZ21 (Or.inl rfl)
        have hZ21K : zC [70] Zs Z21 := zC_u hK hZ21 rfl
        intro μ9 e9
        replace e9 := e9.trans (zm_wI (Z := Z) (ν := ν) hZ21 (show ((0 : Nat) : Int) = 0 from rfl) (show ((0 : Nat) : Int) = 0 from rfl) (i3I (y := x4) (rfl : i3 x4 = i3 x4) (by omega) (by omega) (by omega)) (i3Mn (i3W (i3A (i3W (i3M (i3W (i3A (i3Z (fun x y => x / y) (zm_rd (Z := Z) (ν := ν) (k := 70) (show ((0 : Nat) : Int) = 0 from rfl) (show ((0 : Nat) : Int) = 0 from rfl) (i3I (y := (z2 (fun x y => x &&& y) x4 (z2 (fun x y => x ^^^ y) (z2 (fun x y => x <<< (y &&& 31)) 1 x5) (-1)))) (i3Z (fun x y => x &&& y) (rfl : i3 x4 = i3 x4) (i3Z (fun x y => x ^^^ y) (i3Z (fun x y => x <<< (y &&& 31)) (show (1 : Int32) = i3 1 from rfl) (rfl : i3 x5 = i3 x5)) (show (-1 : Int32) = i3 (-1) from rfl))) (by omega) (by omega) (by omega))) (show (1000 : Int32) = i3 1000 from rfl)) (show (1 : Int32) = i3 1 from rfl))) (show (1000 : Int32) = i3 1000 from rfl))) (zm_rd (Z := Z) (ν := ν) (k := 69) (show ((0 : Nat) : Int) = 0 from rfl) (show ((0 : Nat) : Int) = 0 from rfl) (i3I (y := x5) (rfl : i3 x5 = i3 x5) (by omega) (by omega) (by omega))))) (zm_rd (Z := Z) (ν := ν) (k := 70) (show ((0 : Nat) : Int) = 0 from rfl) (show ((0 : Nat) : Int) = 0 from rfl) (i3I (y := x4) (rfl : i3 x4 = i3 x4) (by omega) (by omega) (by omega))) (by omega) (by omega) (by omega) (by omega)))
        subst e9
        obtain ⟨m2, rfl⟩ : ∃ m2, m = m2 + 1 := ⟨m - 1, by omega⟩
        exact wz_k1 ⟨m2, by omega, Z21, (x5 + 1), (zconso rfl (zconso (zvo (rfl : i3 x1 = i3 x1)) (zconso (zvo (rfl : i3 x2 = i3 x2)) (zconso rfl (zconso (zvo (rfl : i3 x4 = i3 x4)) (zconso (zvo (i3A (rfl : i3 x5 = i3 x5) (show (1 : Int32) = i3 1 from rfl))) (zconso rfl (zconso rfl (zconso rfl rfl))))))))), rfl, hZ21I, hZ21K, hZ21U, by omega, by omega,  hP⟩
      · replace hP := zE_n hP h15
        refine wz_i0 (i3O (n := 24) (rfl : i3 x5 = i3 x5) (by omega) (by omega) (by omega)) ?_
        refine wz_i0 (i3O (n := 1024) (rfl : i3 x4 = i3 x4) (by omega) (by omega) (by omega)) ?_
        refine wz_i0 (i3O (n := 1024) (rfl : i3 x4 = i3 x4) (by omega) (by omega) (by omega)) ?_
        have r22 := w3_r ((Z 70 0 0 (z2 (fun x y => x &&& y) x4 (z2 (fun x y => x ^^^ y) (z2 (fun x y => x <<< (y &&& 31)) 1 x5) (-1)))) + (Z 69 0 0 x5))
        have r23 := zH_f hZ 70 0 0 x4
        obtain ⟨Z24, hZ24⟩ := zx (zu Z 70 0 0 x4 (min (w3 ((Z 70 0 0 (z2 (fun x y => x &&& y) x4 (z2 (fun x y => x ^^^ y) (z2 (fun x y => x <<< (y &&& 31)) 1 x5) (-1)))) + (Z 69 0 0 x5))) (Z 70 0 0 x4)))
        replace hP := zl_e hP hZ24
        have hZ24I := zH_u hZ hZ24 (lo := -2147483648) (hi := 2147483647) (by decide) rfl (by omega) ⟨by decide, by decide⟩ (Or.inl (by decide)) rfl
        have hZ24U : zU [] Zs Z24 := zU_u hU hZ24 (Or.inl rfl)
        have hZ24K : zC [70] Zs Z24 := zC_u hK hZ24 rfl
        intro μ9 e9
        replace e9 := e9.trans (zm_wI (Z := Z) (ν := ν) hZ24 (show ((0 : Nat) : Int) = 0 from rfl) (show ((0 : Nat) : Int) = 0 from rfl) (i3I (y := x4) (rfl : i3 x4 = i3 x4) (by omega) (by omega) (by omega)) (i3Mn (i3W (i3A (zm_rd (Z := Z) (ν := ν) (k := 70) (show ((0 : Nat) : Int) = 0 from rfl) (show ((0 : Nat) : Int) = 0 from rfl) (i3I (y := (z2 (fun x y => x &&& y) x4 (z2 (fun x y => x ^^^ y) (z2 (fun x y => x <<< (y &&& 31)) 1 x5) (-1)))) (i3Z (fun x y => x &&& y) (rfl : i3 x4 = i3 x4) (i3Z (fun x y => x ^^^ y) (i3Z (fun x y => x <<< (y &&& 31)) (show (1 : Int32) = i3 1 from rfl) (rfl : i3 x5 = i3 x5)) (show (-1 : Int32) = i3 (-1) from rfl))) (by omega) (by omega) (by omega))) (zm_rd (Z := Z) (ν := ν) (k := 69) (show ((0 : Nat) : Int) = 0 from rfl) (show ((0 : Nat) : Int) = 0 from rfl) (i3I (y := x5) (rfl : i3 x5 = i3 x5) (by omega) (by omega) (by omega))))) (zm_rd (Z := Z) (ν := ν) (k := 70) (show ((0 : Nat) : Int) = 0 from rfl) (show ((0 : Nat) : Int) = 0 from rfl) (i3I (y := x4) (rfl : i3 x4 = i3 x4) (by omega) (by omega) (by omega))) (by omega) (by omega) (by omega) (by omega)))
        subst e9
        obtain ⟨m2, rfl⟩ : ∃ m2, m = m2 + 1 := ⟨m - 1, by omega⟩
        exact wz_k1 ⟨m2, by omega, Z24, (x5 + 1), (zconso rfl (zconso (zvo (rfl : i3 x1 = i3 x1)) (zconso (zvo (rfl : i3 x2 = i3 x2)) (zconso rfl (zconso (zvo (rfl : i3 x4 = i3 x4)) (zconso (zvo (i3A (rfl : i3 x5 = i3 x5) (show (1 : Int32) = i3 1 from rfl))) (zconso rfl (zconso rfl (zconso rfl rfl))))))))), rfl, hZ24I, hZ24K, hZ24U, by omega, by omega,  hP⟩
/- yX2_fewestLoads -/
def zl_44_3 (x1 : Int) (x2 : Int) : Nat → qz_Z → Int → qz_Z × Int
  | 0, Z, x4 => (Z, x4)
  | m + 1, Z, x4 => (if (z2 (fun x y => x <<< (y &&& 31)) 1 x1) ≤ x4 then (Z, x4) else (zlet (zu Z 70 0 0 x4 ((x1 + 1) * 1000)) (fun Z4 => (zlet2 (zl_44_1 x1 x2 x4 11 Z4 0) (fun Z6 y5 => zl_44_3 x1 x2 m Z6 (x4 + 1))))))
theorem sl_44_3 {s : zSM} {Zs Z : qz_Z} {ν : qz_N} (hZ : zH s Z) (hM : s.2 + 0 ≤ 1000000000) (hK : zC [70] Zs Z) {x1 : Int} (gx1 : 0 ≤ x1 ∧ x1 ≤ 10) {x2 : Int} (gx2 : 10 ≤ x2 ∧ x2 ≤ 99) {x4 : Int} (gx4 : 1 ≤ x4 ∧ x4 ≤ 1024) (hU : zU [] Zs Z) {k : wz_K} {R : wz_R} {L : qz_L} (hL : qz_fg [true, true, true, true, true, false, false, false, false] L = [some (.inr (.inr (some (69, 0, 0)))), some (.inl (i3 x1)), some (.inl (i3 x2)), some (.inr (.inr (some (70, 0, 0)))), some (.inl (i3 x4)), none, none, none, none]) {T : qz_Z × Int} (hP : zE T (zl_44_3 x1 x2 ((1024 - x4).toNat + 1) Z x4)) (hk : ∀ (L9 : qz_L) (Z9 : qz_Z) (yx4 : Int), qz_fg [false, true, false, true, false, false, false, false, false] L9 = [none, some (.inl (i3 x1)), none, some (.inr (.inr (some (70, 0, 0)))), none, none, none, none, none] → zH s Z9 → zC [70] Zs Z9 → zU [] Zs Z9 → (1 ≤ yx4 ∧ yx4 ≤ 1024) → zE T ((Z9, yx4)) → k 0 (L9, [], zm Z9 ν)) : wz_loop qb_44_3 65536 k R (L, [], zm Z ν) := by
  refine wz_lp sb_44_3 (fun m x => ∃ Z : qz_Z, ∃ x4 : Int, qz_fg [true, true, true, true, true, false, false, false, false] x.1 = [some (.inr (.inr (some (69, 0, 0)))), some (.inl (i3 x1)), some (.inl (i3 x2)), some (.inr (.inr (some (70, 0, 0)))), some (.inl (i3 x4)), none, none, none, none] ∧ x.2 = ([], zm Z ν) ∧ zH s Z ∧ zC [70] Zs Z ∧ zU [] Zs Z ∧ m = (1024 - x4).toNat ∧ (1 ≤ x4 ∧ x4 ≤ 1024) ∧ zE T (zl_44_3 x1 x2 (m + 1) Z x4)) ?_ 65536 ((1024 - x4).toNat) _ (by omega) ⟨Z, x4, hL, rfl, hZ, hK, hU, rfl, gx4, hP⟩
  clear hP gx4 hZ hK hU hL
  clear x4
  clear Z
  rintro m ⟨L, st, μ⟩ ⟨Z, x4, hL, hx, hZ, hK, hU, hm, gx4, hP⟩
  cases hx
  refine fb_44_3 (i3 x1) (i3 x2) (i3 x4) _ _ _ _ hL ?_
  have r1 := z2_r (fun x y => x <<< (y &&& 31)) 1 x1
  have r2 := z2_shl10 (n := x1) (by omega) (by omega)
  refine wz_br (i3Le (i3Z (fun x y => x <<< (y &&& 31)) (show (1 : Int32) = i3 1 from rfl) (rfl : i3 x1 = i3 x1)) (rfl : i3 x4 = i3 x4) (by omega) (by omega) (by omega) (by omega)) (fun h3 => ?_) (fun h3 => ?_)
  · replace hP := zE_p hP h3
    exact hk _ _ _ (zconso rfl (zconso (zvo (rfl : i3 x1 = i3 x1)) (zconso rfl (zconso rfl (zconso rfl (zconso rfl (zconso rfl (zconso rfl (zconso rfl rfl))))))))) hZ hK hU (by omega)  hP
  · replace hP := zE_n hP h3
    refine wz_i0 (i3O (n := 1024) (rfl : i3 x4 = i3 x4) (by omega) (by omega) (by omega)) ?_
    obtain ⟨Z4, hZ4⟩ := zx (zu Z 70 0 0 x4 ((x1 + 1) * 1000))
    replace hP := zl_e hP hZ4
    have hZ4I := zH_u hZ hZ4 (lo := -2147483648) (hi := 2147483647) (by decide) rfl (by omega) ⟨by decide, by decide⟩ (Or.inl (by decide)) rfl
    have hZ4U : zU [] Zs Z4 := zU_u hU hZ4 (Or.inl rfl)
    have hZ4K : zC [70] Zs Z4 := zC_u hK hZ4 rfl
    intro μ9 e9
    replace e9 := e9.trans (zm_wI (Z := Z) (ν := ν) hZ4 (show ((0 : Nat) : Int) = 0 from rfl) (show ((0 : Nat) : Int) = 0 from rfl) (i3I (y := x4) (rfl : i3 x4 = i3 x4) (by omega) (by omega) (by omega)) (i3M (i3A (rfl : i3 x1 = i3 x1) (show (1 : Int32) = i3 1 from rfl)) (show (1000 : Int32) = i3 1000 from rfl)))
    subst e9
    refine sl_44_1 (ν := ν) hZ4I (zbh (c := 0) (k := 0) hM (Nat.le_of_ble_eq_true rfl)) zC_r (x1 := x1) (by omega) (x2 := x2) (by omega) (x4 := x4) (by omega) (x5 := 0) (by omega) zU_r  (zconso rfl (zconso (zvo (rfl : i3 x1 = i3 x1)) (zconso (zvo (rfl : i3 x2 = i3 x2)) (zconso rfl (zconso (zvo (rfl : i3 x4 = i3 x4)) (zconso (zvo (show (0 : Int32) = i3 0 from rfl)) (zconso rfl (zconso rfl (zconso rfl rfl))))))))) rfl ?_
    intro L7 Z6 y5 hL7 hZ6I kZ6 jZ6 gy5 q9
    replace hP := zl_e2 hP (Eq.symm q9)
    clear q9
    have hZ6U : zU [] Zs Z6 := zU_t hZ4U jZ6 zU_b0
    have hZ6K : zC [70] Zs Z6 := zC_t hZ4K kZ6 (by decide)
    refine fc_44_2 (i3 x1) (i3 x2) (i3 x4) _ _ _ _ hL7 ?_
    obtain ⟨m2, rfl⟩ : ∃ m2, m = m2 + 1 := ⟨m - 1, by omega⟩
    refine wz_kbs (n := 1) (?_)
    exact wz_k1 ⟨m2, by omega, Z6, (x4 + 1), (zconso rfl (zconso (zvo (rfl : i3 x1 = i3 x1)) (zconso (zvo (rfl : i3 x2 = i3 x2)) (zconso rfl (zconso (zvo (i3A (rfl : i3 x4 = i3 x4) (show (1 : Int32) = i3 1 from rfl))) (zconso rfl (zconso rfl (zconso rfl (zconso rfl rfl))))))))), rfl, hZ6I, hZ6K, hZ6U, by omega, by omega,  hP⟩
/- yX2_fewestLoads -/
def zf_44 (Z : qz_Z) (a1 : Int) (a2 : Int) : qz_Z × Int := (zlet (zu Z 70 0 0 0 a2) (fun Z1 => (zlet2 (zl_44_3 a1 a2 1024 Z1 1) (fun Z3 y2 => (Z3, (z2 (fun x y => x / y) (Z3 70 0 0 ((-1) + (z2 (fun x y => x <<< (y &&& 31)) 1 a1))) 1000))))))
theorem sp_44 {s : zSM} {Z : qz_Z} {ν : qz_N} (hZ : zH s Z) {a1 : Int} (ga1 : 0 ≤ a1 ∧ a1 ≤ 10) {a2 : Int} (ga2 : 10 ≤ a2 ∧ a2 ≤ 99) (hM : s.2 + 0 ≤ 1000000000) : ∃ (Z1 : qz_Z) (P : Int), (Z1, P) = zf_44 Z a1 a2 ∧ (qf_44 [.inr (.inr (some (69, 0, 0))), .inl (i3 a1), .inl (i3 a2), .inr (.inr (some (70, 0, 0)))] (zm Z ν) = some (zm Z1 ν, .inl (some (.inl (i3 P)))) ∧ zH s Z1 ∧ zC [70] Z Z1 ∧ zU [] Z Z1 ∧ -2147483648 ≤ P ∧ P ≤ 2147483647) := by
  obtain ⟨P, hP⟩ := zx (zf_44 Z a1 a2)
  refine zc_W (Q := fun Z1 P => zH s Z1 ∧ zC [70] Z Z1 ∧ zU [] Z Z1 ∧ -2147483648 ≤ P ∧ P ≤ 2147483647) hP (fw_44 (i3 a1) (i3 a2) _ _ ?_)
  replace hP : zE P (zf_44 Z a1 a2) := hP
  unfold zf_44 at hP
  obtain ⟨Z1, hZ1⟩ := zx (zu Z 70 0 0 0 a2)
  replace hP := zl_e hP hZ1
  have hZ1I := zH_u hZ hZ1 (lo := -2147483648) (hi := 2147483647) (by decide) rfl (by omega) ⟨by decide, by decide⟩ (Or.inl (by decide)) rfl
  have hZ1U : zU [] Z Z1 := zU_u zU_r hZ1 (Or.inl rfl)
  have hZ1K : zC [70] Z Z1 := zC_u zC_r hZ1 (by decide)
  intro μ9 e9
  replace e9 := e9.trans (zm_wI (Z := Z) (ν := ν) hZ1 (show ((0 : Nat) : Int) = 0 from rfl) (show ((0 : Nat) : Int) = 0 from rfl) (show ((0 : Nat) : Int) = 0 from rfl) (rfl : i3 a2 = i3 a2))
  subst e9
  refine sl_44_3 (ν := ν) hZ1I (zbh (c := 0) (k := 0) hM (Nat.le_of_ble_eq_true rfl)) zC_r (x1 := a1) (by omega) (x2 := a2) (by omega) (x4 := 1) (by omega) zU_r  (zconso rfl (zconso (zvo (rfl : i3 a1 = i3 a1)) (zconso (zvo (rfl : i3 a2 = i3 a2)) (zconso rfl (zconso (zvo (show (1 : Int32) = i3 1 from rfl)) (zconso rfl (zconso rfl (zconso rfl (zconso rfl rfl))))))))) rfl ?_
  intro L4 Z3 y2 hL4 hZ3I kZ3 jZ3 gy2 q9
  replace hP := zl_e2 hP (Eq.symm q9)
  clear q9
  have hZ3U : zU [] Z Z3 := zU_t hZ1U jZ3 zU_b0
  have hZ3K : zC [70] Z Z3 := zC_t hZ1K kZ3 (by decide)
  refine fc_44_4 (i3 a1) _ _ _ _ hL4 ?_
  have r5 := z2_r (fun x y => x <<< (y &&& 31)) 1 a1
  have r6 := z2_shl10 (n := a1) (by omega) (by omega)
  refine wz_i0 (i3O (n := 1024) (i3S (i3Z (fun x y => x <<< (y &&& 31)) (show (1 : Int32) = i3 1 from rfl) (rfl : i3 a1 = i3 a1)) (show (1 : Int32) = i3 1 from rfl)) (by omega) (by omega) (by omega)) ?_
  have r7 := zH_f hZ3I 70 0 0 ((-1) + (z2 (fun x y => x <<< (y &&& 31)) 1 a1))
  have r8 := z2_r (fun x y => x / y) (Z3 70 0 0 ((-1) + (z2 (fun x y => x <<< (y &&& 31)) 1 a1))) 1000
  exact zlW hP (i3Z (fun x y => x / y) (zm_rd (Z := Z3) (ν := ν) (k := 70) (show ((0 : Nat) : Int) = 0 from rfl) (show ((0 : Nat) : Int) = 0 from rfl) (i3I (y := ((-1) + (z2 (fun x y => x <<< (y &&& 31)) 1 a1))) (i3S (i3Z (fun x y => x <<< (y &&& 31)) (show (1 : Int32) = i3 1 from rfl) (rfl : i3 a1 = i3 a1)) (show (1 : Int32) = i3 1 from rfl)) (by omega) (by omega) (by omega))) (show (1000 : Int32) = i3 1000 from rfl)) ⟨hZ3I, hZ3K, hZ3U, by omega, by omega⟩
/- yX2_greatest -/
def zl_46_1 (x1 : Int) : Nat → qz_Z → Int → Int → Int × Int
  | 0, Z, x2, x3 => (x2, x3)
  | m + 1, Z, x2, x3 => (if x1 ≤ x3 then (x2, x3) else zl_46_1 x1 m Z (max x2 (Z 69 0 0 x3)) (x3 + 1))
theorem sl_46_1 {s : zSM} {Z : qz_Z} {ν : qz_N} (hZ : zH s Z) (hM : s.2 + 0 ≤ 1000000000) {x1 : Int} (gx1 : 0 ≤ x1 ∧ x1 ≤ 10) {x2 : Int} (gx2 : 0 ≤ x2 ∧ x2 ≤ 2147483647) {x3 : Int} (gx3 : 0 ≤ x3 ∧ x3 ≤ 10) {k : wz_K} {R : wz_R} {L : qz_L} (hL : qz_fg [true, true, true, true] L = [some (.inr (.inr (some (69, 0, 0)))), some (.inl (i3 x1)), some (.inl (i3 x2)), some (.inl (i3 x3))]) {T : Int × Int} (hP : zE T (zl_46_1 x1 ((10 - x3).toNat + 1) Z x2 x3)) (hk : ∀ (L9 : qz_L) (yx2 yx3 : Int), qz_fg [false, false, true, false] L9 = [none, none, some (.inl (i3 yx2)), none] → (0 ≤ yx2 ∧ yx2 ≤ 2147483647) → (0 ≤ yx3 ∧ yx3 ≤ 10) → zE T ((yx2, yx3)) → k 0 (L9, [], zm Z ν)) : wz_loop qb_46_1 65536 k R (L, [], zm Z ν) := by
  refine wz_lp sb_46_1 (fun m x => ∃ x2 : Int, ∃ x3 : Int, qz_fg [true, true, true, true] x.1 = [some (.inr (.inr (some (69, 0, 0)))), some (.inl (i3 x1)), some (.inl (i3 x2)), some (.inl (i3 x3))] ∧ x.2 = ([], zm Z ν) ∧ m = (10 - x3).toNat ∧ (0 ≤ x2 ∧ x2 ≤ 2147483647) ∧ (0 ≤ x3 ∧ x3 ≤ 10) ∧ zE T (zl_46_1 x1 (m + 1) Z x2 x3)) ?_ 65536 ((10 - x3).toNat) _ (by omega) ⟨x2, x3, hL, rfl, rfl, gx2, gx3, hP⟩
  clear hP gx2 gx3 hL
  clear x2 x3
  rintro m ⟨L, st, μ⟩ ⟨x2, x3, hL, hx, hm, gx2, gx3, hP⟩
  cases hx
  refine fb_46_1 (i3 x1) (i3 x2) (i3 x3) _ _ _ _ hL ?_
  refine wz_br (i3Le (rfl : i3 x1 = i3 x1) (rfl : i3 x3 = i3 x3) (by omega) (by omega) (by omega) (by omega)) (fun h1 => ?_) (fun h1 => ?_)
  · replace hP := zE_p hP h1
    exact hk _ _ _ (zconso rfl (zconso rfl (zconso (zvo (rfl : i3 x2 = i3 x2)) (zconso rfl rfl))))  (by omega) (by omega)  hP
  · replace hP := zE_n hP h1
    refine wz_i0 (i3O (n := 24) (rfl : i3 x3 = i3 x3) (by omega) (by omega) (by omega)) ?_
    have r2 := zH_f hZ 69 0 0 x3
    obtain ⟨m2, rfl⟩ : ∃ m2, m = m2 + 1 := ⟨m - 1, by omega⟩
    exact wz_k1 ⟨m2, by omega, (max x2 (Z 69 0 0 x3)), (x3 + 1), (zconso rfl (zconso (zvo (rfl : i3 x1 = i3 x1)) (zconso (zvo (i3Mx (rfl : i3 x2 = i3 x2) (zm_rd (Z := Z) (ν := ν) (k := 69) (show ((0 : Nat) : Int) = 0 from rfl) (show ((0 : Nat) : Int) = 0 from rfl) (i3I (y := x3) (rfl : i3 x3 = i3 x3) (by omega) (by omega) (by omega))) (by omega) (by omega) (by omega) (by omega))) (zconso (zvo (i3A (rfl : i3 x3 = i3 x3) (show (1 : Int32) = i3 1 from rfl))) rfl)))), rfl,  by omega, by omega, by omega,  hP⟩
/- yX2_greatest -/
def zf_46 (Z : qz_Z) (a1 : Int) : Int := (zlet2 (zl_46_1 a1 11 Z 0 0) (fun y1 y2 => y1))
theorem sp_46 {s : zSM} {Z : qz_Z} {ν : qz_N} (hZ : zH s Z) {a1 : Int} (ga1 : 0 ≤ a1 ∧ a1 ≤ 10) (hM : s.2 + 0 ≤ 1000000000) : ∃ P : Int, P = zf_46 Z a1 ∧ (qf_46 [.inr (.inr (some (69, 0, 0))), .inl (i3 a1)] (zm Z ν) = some (zm Z ν, .inl (some (.inl (i3 P)))) ∧ 0 ≤ P ∧ P ≤ 2147483647) := by
  obtain ⟨P, hP⟩ := zx (zf_46 Z a1)
  refine zc_R (Q := fun P => 0 ≤ P ∧ P ≤ 2147483647) hP (fw_46 (i3 a1) _ _ ?_)
  replace hP : zE P (zf_46 Z a1) := hP
  unfold zf_46 at hP
  refine sl_46_1 (ν := ν) hZ (zbh (c := 0) (k := 0) hM (Nat.le_of_ble_eq_true rfl)) (x1 := a1) (by omega) (x2 := 0) (by omega) (x3 := 0) (by omega)  (zconso rfl (zconso (zvo (rfl : i3 a1 = i3 a1)) (zconso (zvo (show (0 : Int32) = i3 0 from rfl)) (zconso (zvo (show (0 : Int32) = i3 0 from rfl)) rfl)))) rfl ?_
  intro L3 y1 y2 hL3 gy1 gy2 q9
  replace hP := zl_e2 hP (Eq.symm q9)
  clear q9
  refine fc_46_2 (i3 y1) _ _ _ _ hL3 ?_
  exact zlR hP (rfl : i3 y1 = i3 y1) ⟨by omega, by omega⟩
/- yX2_partedFor -/
def zl_54_1 (x0b : Int) (x1 : Int) : Nat → qz_Z → Int → Int → qz_Z × Int × Int
  | 0, Z, x3, x4 => (Z, x3, x4)
  | m + 1, Z, x3, x4 => (if (Z 11 x0b 0 6) ≤ x4 then (Z, x3, x4) else (if (Z 47 x0b x4 9) ≠ 0 then zl_54_1 x0b x1 m Z x3 (x4 + 1) else (if x1 = 5 then (if 10 ≤ x3 then zl_54_1 x0b x1 m Z (x3 + 1) (x4 + 1) else (zlet (zu Z 69 0 0 x3 (Z 47 x0b x4 3)) (fun Z9 => zl_54_1 x0b x1 m Z9 (x3 + 1) (x4 + 1)))) else (if (Z 45 x0b (Z 47 x0b x4 1) 0) ≠ x1 then zl_54_1 x0b x1 m Z x3 (x4 + 1) else (if 10 ≤ x3 then zl_54_1 x0b x1 m Z (x3 + 1) (x4 + 1) else (zlet (zu Z 69 0 0 x3 (Z 47 x0b x4 3)) (fun Z15 => zl_54_1 x0b x1 m Z15 (x3 + 1) (x4 + 1))))))))
theorem sl_54_1 {s : zSM} {Zs Z : qz_Z} {ν : qz_N} (hZ : zH s Z) (hM : s.2 + 0 ≤ 1000000000) (hK : zC [69] Zs Z) (x0b : Nat) {x1 : Int} (gx1 : 0 ≤ x1 ∧ x1 ≤ 5) {x3 : Int} (gx3 : 0 ≤ x3 ∧ x3 ≤ 60) {x4 : Int} (gx4 : 0 ≤ x4 ∧ x4 ≤ 60) (hU : zU [] Zs Z) (gr0 : x3 ≤ x4) {k : wz_K} {R : wz_R} {L : qz_L} (hL : qz_fg [true, true, true, true, true, false] L = [some (.inr (.inr (some (10, x0b, 0)))), some (.inl (i3 x1)), some (.inr (.inr (some (69, 0, 0)))), some (.inl (i3 x3)), some (.inl (i3 x4)), none]) {T : qz_Z × Int × Int} (hP : zE T (zl_54_1 x0b x1 ((60 - x4).toNat + 1) Z x3 x4)) (hk : ∀ (L9 : qz_L) (Z9 : qz_Z) (yx3 yx4 : Int), qz_fg [false, false, false, true, false, false] L9 = [none, none, none, some (.inl (i3 yx3)), none, none] → zH s Z9 → zC [69] Zs Z9 → zU [] Zs Z9 → (0 ≤ yx3 ∧ yx3 ≤ 60) → (0 ≤ yx4 ∧ yx4 ≤ 60) → (yx3 ≤ yx4) → zE T ((Z9, yx3, yx4)) → k 0 (L9, [], zm Z9 ν)) : wz_loop qb_54_1 65536 k R (L, [], zm Z ν) := by
  refine wz_lp sb_54_1 (fun m x => ∃ Z : qz_Z, ∃ x3 : Int, ∃ x4 : Int, qz_fg [true, true, true, true, true, false] x.1 = [some (.inr (.inr (some (10, x0b, 0)))), some (.inl (i3 x1)), some (.inr (.inr (some (69, 0, 0)))), some (.inl (i3 x3)), some (.inl (i3 x4)), none] ∧ x.2 = ([], zm Z ν) ∧ zH s Z ∧ zC [69] Zs Z ∧ zU [] Zs Z ∧ m = (60 - x4).toNat ∧ (0 ≤ x3 ∧ x3 ≤ 60) ∧ (0 ≤ x4 ∧ x4 ≤ 60) ∧ (x3 ≤ x4) ∧ zE T (zl_54_1 x0b x1 (m + 1) Z x3 x4)) ?_ 65536 ((60 - x4).toNat) _ (by omega) ⟨Z, x3, x4, hL, rfl, hZ, hK, hU, rfl, gx3, gx4, gr0, hP⟩
  clear hP gr0 gx3 gx4 hZ hK hU hL
  clear x3 x4
  clear Z
  rintro m ⟨L, st, μ⟩ ⟨Z, x3, x4, hL, hx, hZ, hK, hU, hm, gx3, gx4, gr0, hP⟩
  cases hx
  refine fb_54_1 x0b (i3 x1) (i3 x3) (i3 x4) _ _ _ _ hL ?_
  have r1 := zH_k hZ 11 x0b 0 6 (lo := 0) (hi := 60) (by decide) rfl
  refine wz_br (i3Le (zm_rd (Z := Z) (ν := ν) (k := 11) (rfl : ((x0b : Nat) : Int) = x0b) (show ((0 : Nat) : Int) = 0 from rfl) (show ((6 : Nat) : Int) = 6 from rfl)) (rfl : i3 x4 = i3 x4) (by omega) (by omega) (by omega) (by omega)) (fun h2 => ?_) (fun h2 => ?_)
  · replace hP := zE_p hP h2
    exact hk _ _ _ _ (zconso rfl (zconso rfl (zconso rfl (zconso (zvo (rfl : i3 x3 = i3 x3)) (zconso rfl (zconso rfl rfl)))))) hZ hK hU (by omega) (by omega) (by omega) hP
  · replace hP := zE_n hP h2
    refine wz_i0 (i3O (n := 60) (rfl : i3 x4 = i3 x4) (by omega) (by omega) (by omega)) ?_
    have r3 := zH_k hZ 47 x0b x4 9 (lo := 0) (hi := 3) (by decide) rfl
    have r4 := zH_lt hZ x0b x4
    refine wz_br (i3NE (zm_rd (Z := Z) (ν := ν) (k := 47) (rfl : ((x0b : Nat) : Int) = x0b) (i3I (y := x4) (rfl : i3 x4 = i3 x4) (by omega) (by omega) (by omega)) (show ((9 : Nat) : Int) = 9 from rfl)) (show (0 : Int32) = i3 0 from rfl) (by omega) (by omega) (by omega) (by omega)) (fun h5 => ?_) (fun h5 => ?_)
    · replace hP := zE_p hP h5
      obtain ⟨m2, rfl⟩ : ∃ m2, m = m2 + 1 := ⟨m - 1, by omega⟩
      exact wz_k1 ⟨m2, by omega, Z, x3, (x4 + 1), (zconso rfl (zconso (zvo (rfl : i3 x1 = i3 x1)) (zconso rfl (zconso (zvo (rfl : i3 x3 = i3 x3)) (zconso (zvo (i3A (rfl : i3 x4 = i3 x4) (show (1 : Int32) = i3 1 from rfl))) (zconso rfl rfl)))))), rfl, hZ, hK, hU, by omega, by omega, by omega, by omega,  hP⟩
    · replace hP := zE_n hP h5
      refine wz_br (i3E (rfl : i3 x1 = i3 x1) (show (5 : Int32) = i3 5 from rfl) (by omega) (by omega) (by omega) (by omega)) (fun h6 => ?_) (fun h6 => ?_)
      · replace hP := zE_p hP h6
        refine wz_br (i3Le (show (10 : Int32) = i3 10 from rfl) (rfl : i3 x3 = i3 x3) (by omega) (by omega) (by omega) (by omega)) (fun h7 => ?_) (fun h7 => ?_)
        · replace hP := zE_p hP h7
          obtain ⟨m2, rfl⟩ : ∃ m2, m = m2 + 1 := ⟨m - 1, by omega⟩
          exact wz_k1 ⟨m2, by omega, Z, (x3 + 1), (x4 + 1), (zconso rfl (zconso (zvo (rfl : i3 x1 = i3 x1)) (zconso rfl (zconso (zvo (i3A (rfl : i3 x3 = i3 x3) (show (1 : Int32) = i3 1 from rfl))) (zconso (zvo (i3A (rfl : i3 x4 = i3 x4) (show (1 : Int32) = i3 1 from rfl))) (zconso rfl rfl)))))), rfl, hZ, hK, hU, by omega, by omega, by omega, by omega,  hP⟩
        · replace hP := zE_n hP h7
          refine wz_i0 (i3O (n := 24) (rfl : i3 x3 = i3 x3) (by omega) (by omega) (by omega)) ?_
          have r8 := zH_k hZ 47 x0b x4 3 (lo := 0) (hi := 40) (by decide) rfl
          obtain ⟨Z9, hZ9⟩ := zx (zu Z 69 0 0 x3 (Z 47 x0b x4 3))
          replace hP := zl_e hP hZ9
          have hZ9I := zH_u hZ hZ9 (lo := -2147483648) (hi := 2147483647) (by decide) rfl (by omega) ⟨by decide, by decide⟩ (Or.inl (by decide)) rfl
          have hZ9U : zU [] Zs Z9 := zU_u hU hZ9 (Or.inl rfl)
          have hZ9K : zC [69] Zs Z9 := zC_u hK hZ9 rfl
          intro μ9 e9
          replace e9 := e9.trans (zm_wI (Z := Z) (ν := ν) hZ9 (show ((0 : Nat) : Int) = 0 from rfl) (show ((0 : Nat) : Int) = 0 from rfl) (i3I (y := x3) (rfl : i3 x3 = i3 x3) (by omega) (by omega) (by omega)) (zm_rd (Z := Z) (ν := ν) (k := 47) (rfl : ((x0b : Nat) : Int) = x0b) (i3I (y := x4) (rfl : i3 x4 = i3 x4) (by omega) (by omega) (by omega)) (show ((3 : Nat) : Int) = 3 from rfl)))
          subst e9
          obtain ⟨m2, rfl⟩ : ∃ m2, m = m2 + 1 := ⟨m - 1, by omega⟩
          exact wz_k1 ⟨m2, by omega, Z9, (x3 + 1), (x4 + 1), (zconso rfl (zconso (zvo (rfl : i3 x1 = i3 x1)) (zconso rfl (zconso (zvo (i3A (rfl : i3 x3 = i3 x3) (show (1 : Int32) = i3 1 from rfl))) (zconso (zvo (i3A (rfl : i3 x4 = i3 x4) (show (1 : Int32) = i3 1 from rfl))) (zconso rfl rfl)))))), rfl, hZ9I, hZ9K, hZ9U, by omega, by omega, by omega, by omega,  hP⟩
      · replace hP := zE_n hP h6
        have r10 := zH_k hZ 47 x0b x4 1 (lo := 0) (hi := 7) (by decide) rfl
        refine wz_i0 (i3O (n := 8) (zm_rd (Z := Z) (ν := ν) (k := 47) (rfl : ((x0b : Nat) : Int) = x0b) (i3I (y := x4) (rfl : i3 x4 = i3 x4) (by omega) (by omega) (by omega)) (show ((1 : Nat) : Int) = 1 from rfl)) (by omega) (by omega) (by omega)) ?_
        have r11 := zH_k hZ 45 x0b (Z 47 x0b x4 1) 0 (lo := 0) (hi := 4) (by decide) rfl
        refine wz_br (i3NE (zm_rd (Z := Z) (ν := ν) (k := 45) (rfl : ((x0b : Nat) : Int) = x0b) (i3I (y := (Z 47 x0b x4 1)) (zm_rd (Z := Z) (ν := ν) (k := 47) (rfl : ((x0b : Nat) : Int) = x0b) (i3I (y := x4) (rfl : i3 x4 = i3 x4) (by omega) (by omega) (by omega)) (show ((1 : Nat) : Int) = 1 from rfl)) (by omega) (by omega) (by omega)) (show ((0 : Nat) : Int) = 0 from rfl)) (rfl : i3 x1 = i3 x1) (by omega) (by omega) (by omega) (by omega)) (fun h12 => ?_) (fun h12 => ?_)
        · replace hP := zE_p hP h12
          obtain ⟨m2, rfl⟩ : ∃ m2, m = m2 + 1 := ⟨m - 1, by omega⟩
          exact wz_k1 ⟨m2, by omega, Z, x3, (x4 + 1), (zconso rfl (zconso (zvo (rfl : i3 x1 = i3 x1)) (zconso rfl (zconso (zvo (rfl : i3 x3 = i3 x3)) (zconso (zvo (i3A (rfl : i3 x4 = i3 x4) (show (1 : Int32) = i3 1 from rfl))) (zconso rfl rfl)))))), rfl, hZ, hK, hU, by omega, by omega, by omega, by omega,  hP⟩
        · replace hP := zE_n hP h12
          refine wz_br (i3Le (show (10 : Int32) = i3 10 from rfl) (rfl : i3 x3 = i3 x3) (by omega) (by omega) (by omega) (by omega)) (fun h13 => ?_) (fun h13 => ?_)
          · replace hP := zE_p hP h13
            obtain ⟨m2, rfl⟩ : ∃ m2, m = m2 + 1 := ⟨m - 1, by omega⟩
            exact wz_k1 ⟨m2, by omega, Z, (x3 + 1), (x4 + 1), (zconso rfl (zconso (zvo (rfl : i3 x1 = i3 x1)) (zconso rfl (zconso (zvo (i3A (rfl : i3 x3 = i3 x3) (show (1 : Int32) = i3 1 from rfl))) (zconso (zvo (i3A (rfl : i3 x4 = i3 x4) (show (1 : Int32) = i3 1 from rfl))) (zconso rfl rfl)))))), rfl, hZ, hK, hU, by omega, by omega, by omega, by omega,  hP⟩
          · replace hP := zE_n hP h13
            refine wz_i0 (i3O (n := 24) (rfl : i3 x3 = i3 x3) (by omega) (by omega) (by omega)) ?_
            have r14 := zH_k hZ 47 x0b x4 3 (lo := 0) (hi := 40) (by decide) rfl
            obtain ⟨Z15, hZ15⟩ := zx (zu Z 69 0 0 x3 (Z 47 x0b x4 3))
            replace hP := zl_e hP hZ15
            have hZ15I := zH_u hZ hZ15 (lo := -2147483648) (hi := 2147483647) (by decide) rfl (by omega) ⟨by decide, by decide⟩ (Or.inl (by decide)) rfl
            have hZ15U : zU [] Zs Z15 := zU_u hU hZ15 (Or.inl rfl)
            have hZ15K : zC [69] Zs Z15 := zC_u hK hZ15 rfl
            intro μ9 e9
            replace e9 := e9.trans (zm_wI (Z := Z) (ν := ν) hZ15 (show ((0 : Nat) : Int) = 0 from rfl) (show ((0 : Nat) : Int) = 0 from rfl) (i3I (y := x3) (rfl : i3 x3 = i3 x3) (by omega) (by omega) (by omega)) (zm_rd (Z := Z) (ν := ν) (k := 47) (rfl : ((x0b : Nat) : Int) = x0b) (i3I (y := x4) (rfl : i3 x4 = i3 x4) (by omega) (by omega) (by omega)) (show ((3 : Nat) : Int) = 3 from rfl)))
            subst e9
            obtain ⟨m2, rfl⟩ : ∃ m2, m = m2 + 1 := ⟨m - 1, by omega⟩
            exact wz_k1 ⟨m2, by omega, Z15, (x3 + 1), (x4 + 1), (zconso rfl (zconso (zvo (rfl : i3 x1 = i3 x1)) (zconso rfl (zconso (zvo (i3A (rfl : i3 x3 = i3 x3) (show (1 : Int32) = i3 1 from rfl))) (zconso (zvo (i3A (rfl : i3 x4 = i3 x4) (show (1 : Int32) = i3 1 from rfl))) (zconso rfl rfl)))))), rfl, hZ15I, hZ15K, hZ15U, by omega, by omega, by omega, by omega,  hP⟩
/- yX2_partedFor -/
def zf_54 (Z : qz_Z) (a0b : Int) (a1 : Int) : qz_Z × Int := (zlet3 (zl_54_1 a0b a1 61 Z 0 0) (fun Z3 y1 y2 => (Z3, y1)))
theorem sp_54 {s : zSM} {Z : qz_Z} {ν : qz_N} (hZ : zH s Z) (a0b : Nat) {a1 : Int} (ga1 : 0 ≤ a1 ∧ a1 ≤ 5) (hM : s.2 + 0 ≤ 1000000000) : ∃ (Z1 : qz_Z) (P : Int), (Z1, P) = zf_54 Z a0b a1 ∧ (qf_54 [.inr (.inr (some (10, a0b, 0))), .inl (i3 a1), .inr (.inr (some (69, 0, 0)))] (zm Z ν) = some (zm Z1 ν, .inl (some (.inl (i3 P)))) ∧ zH s Z1 ∧ zC [69] Z Z1 ∧ zU [] Z Z1 ∧ 0 ≤ P ∧ P ≤ 60) := by
  obtain ⟨P, hP⟩ := zx (zf_54 Z a0b a1)
  refine zc_W (Q := fun Z1 P => zH s Z1 ∧ zC [69] Z Z1 ∧ zU [] Z Z1 ∧ 0 ≤ P ∧ P ≤ 60) hP (fw_54 a0b (i3 a1) _ _ ?_)
  replace hP : zE P (zf_54 Z a0b a1) := hP
  unfold zf_54 at hP
  refine sl_54_1 (ν := ν) hZ (zbh (c := 0) (k := 0) hM (Nat.le_of_ble_eq_true rfl)) zC_r a0b (x1 := a1) (by omega) (x3 := 0) (by omega) (x4 := 0) (by omega) zU_r (by omega) (zconso rfl (zconso (zvo (rfl : i3 a1 = i3 a1)) (zconso rfl (zconso (zvo (show (0 : Int32) = i3 0 from rfl)) (zconso (zvo (show (0 : Int32) = i3 0 from rfl)) (zconso rfl rfl)))))) rfl ?_
  intro L4 Z3 y1 y2 hL4 hZ3I kZ3 jZ3 gy1 gy2 gL4_0 q9
  replace hP := zl_e3 hP (Eq.symm q9)
  clear q9
  have hZ3U : zU [] Z Z3 := zU_t zU_r jZ3 zU_b0
  have hZ3K : zC [69] Z Z3 := zC_t zC_r kZ3 (by decide)
  refine fc_54_2 (i3 y1) _ _ _ _ hL4 ?_
  exact zlW hP (rfl : i3 y1 = i3 y1) ⟨hZ3I, hZ3K, hZ3U, by omega, by omega⟩
/- yX11_fewest -/
def zx_200 (Z : qz_Z) (a1 : Int) (a2 : Int) : qz_Z × Int × Int := (if 0 ≤ a2 ∧ a2 < 6 then (if 10 ≤ a1 ∧ a1 ≤ 99 then (zlet2 (zf_54 Z 0 a2) (fun Z3 v4 => (if 10 < v4 then (Z3, 0, 15) else (zlet (zf_46 Z3 v4) (fun v7 => (if a1 < v7 then (Z3, 0, 15) else (zlet2 (zf_44 Z3 v4 a1) (fun Z11 v12 => (Z11, v12, 0))))))))) else (Z, 0, 13)) else (Z, 0, 24))
theorem sx_200 {M : Nat} {Z : qz_Z} {ν : qz_N} (hZ : zH ((none, M) : zSM) Z) (hM : ((none, M) : zSM).2 + 0 ≤ 1000000000) {a1 : Int} (ga1 : -2147483648 ≤ a1 ∧ a1 ≤ 2147483647) {a2 : Int} (ga2 : -2147483648 ≤ a2 ∧ a2 ≤ 2147483647) : ∃ (Z1 : qz_Z) (ν1 : qz_N) (v E : Int), (Z1, v, E) = zx_200 Z a1 a2 ∧ qf_200 [.inr (.inr (some (0, 0, 0))), .inl (i3 a1), .inl (i3 a2)] (zm Z ν) = some (zm Z1 ν1, zoX v E) ∧ (fun Z1 ν1 => zH ((none, M) : zSM) Z1 ∧ zC [69, 70] Z Z1 ∧ zU [] Z Z1 ∧ zG 1 6 ν ν1) Z1 ν1 := by
  obtain ⟨P, hP⟩ := zx (zx_200 Z a1 a2)
  refine zc_G (Q := fun Z1 ν1 => zH ((none, M) : zSM) Z1 ∧ zC [69, 70] Z Z1 ∧ zU [] Z Z1 ∧ zG 1 6 ν ν1) hP (fw_200 (i3 a1) (i3 a2) _ _ ?_)
  replace hP : zE P (zx_200 Z a1 a2) := hP
  unfold zx_200 at hP
  refine wz_thing (rfl : i3 a2 = i3 a2) (show (6 : Int32) = i3 6 from rfl) (by omega) (by omega) (by omega) (by omega) (fun h1 => ?_) (fun h1 => ?_)
  · replace hP := zE_p hP h1
    refine wz_inR (rfl : i3 a1 = i3 a1) (show (10 : Int32) = i3 10 from rfl) (show (99 : Int32) = i3 99 from rfl) (by omega) (by omega) (by omega) (by omega) (by omega) (by omega) (fun h2 => ?_) (fun h2 => ?_)
    · replace hP := zE_p hP h2
      obtain ⟨Z3, v4, hv4, c9, hZ3I, kZ3, jZ3, lv4, uv4⟩ := sp_54 (ν := ν) hZ 0 (a1 := a2) (by omega) (zbh (c := 0) (k := 0) hM (Nat.le_of_ble_eq_true rfl))
      have hZ3U : zU [] Z Z3 := zU_t zU_r jZ3 zU_b0
      have hZ3K : zC [69, 70] Z Z3 := zC_t zC_r kZ3 (by decide)
      replace hP := zl_e2 hP hv4
      refine wz_cI_of (zas (zcons rfl (zcons (zvi (rfl : i3 a2 = i3 a2)) (zcons rfl rfl))) c9) ?_
      clear c9 hv4
      refine wz_br (i3L (show (10 : Int32) = i3 10 from rfl) (rfl : i3 v4 = i3 v4) (by omega) (by omega) (by omega) (by omega)) (fun h5 => ?_) (fun h5 => ?_)
      · replace hP := zE_p hP h5
        refine wz_inT_n (show (0 : Int32) = i3 0 from rfl) (by omega) (by omega) (by omega) ?_
        exact zlGe (E := 14) hP ⟨hZ3I, hZ3K, hZ3U, zG_w (zG_k rfl) (Nat.le_of_ble_eq_true rfl) (Nat.le_of_ble_eq_true rfl)⟩
      · replace hP := zE_n hP h5
        obtain ⟨v7, hv7, c9, lv7, uv7⟩ := sp_46 (ν := ν) hZ3I (a1 := v4) (by omega) (zbh (c := 0) (k := 0) hM (Nat.le_of_ble_eq_true rfl))
        replace hP := zl_e hP hv7
        refine wz_cI_of (zas (zcons rfl (zcons (zvi (rfl : i3 v4 = i3 v4)) rfl)) c9) ?_
        clear c9
        refine wz_br (i3L (rfl : i3 a1 = i3 a1) (rfl : i3 v7 = i3 v7) (by omega) (by omega) (by omega) (by omega)) (fun h8 => ?_) (fun h8 => ?_)
        · replace hP := zE_p hP h8
          refine wz_inT_n (show (0 : Int32) = i3 0 from rfl) (by omega) (by omega) (by omega) ?_
          exact zlGe (E := 14) hP ⟨hZ3I, hZ3K, hZ3U, zG_w (zG_k rfl) (Nat.le_of_ble_eq_true rfl) (Nat.le_of_ble_eq_true rfl)⟩
        · replace hP := zE_n hP h8
          refine wz_inT_y (show (1 : Int32) = i3 1 from rfl) (by omega) (by omega) (by omega) ?_
          obtain ⟨Z11, v12, hv12, c9, hZ11I, kZ11, jZ11, lv12, uv12⟩ := sp_44 (ν := ν) hZ3I (a1 := v4) (by omega) (a2 := a1) (by omega) (zbh (c := 0) (k := 0) hM (Nat.le_of_ble_eq_true rfl))
          have hZ11U : zU [] Z Z11 := zU_t hZ3U jZ11 zU_b0
          have hZ11K : zC [69, 70] Z Z11 := zC_t hZ3K kZ11 (by decide)
          replace hP := zl_e2 hP hv12
          refine wz_cI_of (zas (zcons rfl (zcons (zvi (rfl : i3 v4 = i3 v4)) (zcons (zvi (rfl : i3 a1 = i3 a1)) (zcons rfl rfl)))) c9) ?_
          clear c9 hv12
          exact zlG hP (rfl : i3 v12 = i3 v12) ⟨hZ11I, hZ11K, hZ11U, zG_w zG_r (Nat.le_of_ble_eq_true rfl) (Nat.le_of_ble_eq_true rfl)⟩
    · replace hP := zE_n hP h2
      exact zlGe (E := 12) hP ⟨hZ, zC_r, zU_r, zG_w (zG_k rfl) (Nat.le_of_ble_eq_true rfl) (Nat.le_of_ble_eq_true rfl)⟩
  · replace hP := zE_n hP h1
    exact zlGe (E := 23) hP ⟨hZ, zC_r, zU_r, zG_w (zG_k rfl) (Nat.le_of_ble_eq_true rfl) (Nat.le_of_ble_eq_true rfl)⟩
/- yX11_found -/
def zx_201 (Z : qz_Z) (a1 : Int) (a2 : Int) : qz_Z × Int × Int := (if 0 ≤ a1 ∧ a1 < (min 24 (Z 11 0 0 11)) then (if 0 ≤ a2 ∧ a2 ≤ 5 then (Z, (Z 52 0 ((max 0 (((Z 11 0 0 11) - 1) - a1)) % 24) a2), 0) else (Z, 0, 13)) else (Z, 0, 24))
theorem sx_201 {M : Nat} {Z : qz_Z} {ν : qz_N} (hZ : zH ((none, M) : zSM) Z) (hM : ((none, M) : zSM).2 + 0 ≤ 1000000000) {a1 : Int} (ga1 : -2147483648 ≤ a1 ∧ a1 ≤ 2147483647) {a2 : Int} (ga2 : -2147483648 ≤ a2 ∧ a2 ≤ 2147483647) : ∃ (Z1 : qz_Z) (ν1 : qz_N) (v E : Int), (Z1, v, E) = zx_201 Z a1 a2 ∧ qf_201 [.inr (.inr (some (0, 0, 0))), .inl (i3 a1), .inl (i3 a2)] (zm Z ν) = some (zm Z1 ν1, zoX v E) ∧ (fun Z1 ν1 => zH ((none, M) : zSM) Z1 ∧ zC [] Z Z1 ∧ zU [] Z Z1 ∧ zG 1 6 ν ν1) Z1 ν1 := by
  obtain ⟨P, hP⟩ := zx (zx_201 Z a1 a2)
  refine zc_G (Q := fun Z1 ν1 => zH ((none, M) : zSM) Z1 ∧ zC [] Z Z1 ∧ zU [] Z Z1 ∧ zG 1 6 ν ν1) hP (fw_201 (i3 a1) (i3 a2) _ _ ?_)
  replace hP : zE P (zx_201 Z a1 a2) := hP
  unfold zx_201 at hP
  have r1 := zH_c11 hZ 0 (zbh (c := 0) (k := 0) hM (Nat.le_of_ble_eq_true rfl))
  refine wz_thing (rfl : i3 a1 = i3 a1) (i3Mn (show (24 : Int32) = i3 24 from rfl) (zm_rd (Z := Z) (ν := ν) (k := 11) (show ((0 : Nat) : Int) = 0 from rfl) (show ((0 : Nat) : Int) = 0 from rfl) (show ((11 : Nat) : Int) = 11 from rfl)) (by omega) (by omega) (by omega) (by omega)) (by omega) (by omega) (by omega) (by omega) (fun h2 => ?_) (fun h2 => ?_)
  · replace hP := zE_p hP h2
    refine wz_inR (rfl : i3 a2 = i3 a2) (show (0 : Int32) = i3 0 from rfl) (show (5 : Int32) = i3 5 from rfl) (by omega) (by omega) (by omega) (by omega) (by omega) (by omega) (fun h3 => ?_) (fun h3 => ?_)
    · replace hP := zE_p hP h3
      refine wz_i0 (i3O (n := 24) (i3R (i3Mx (show (0 : Int32) = i3 0 from rfl) (i3S (i3S (zm_rd (Z := Z) (ν := ν) (k := 11) (show ((0 : Nat) : Int) = 0 from rfl) (show ((0 : Nat) : Int) = 0 from rfl) (show ((11 : Nat) : Int) = 11 from rfl)) (show (1 : Int32) = i3 1 from rfl)) (rfl : i3 a1 = i3 a1)) (by omega) (by omega) (by omega) (by omega)) (show (24 : Int32) = i3 24 from rfl) (by omega) (by omega) (by omega) (by omega)) (by omega) (by omega) (by omega)) ?_
      refine wz_i0 (i3O (n := 6) (rfl : i3 a2 = i3 a2) (by omega) (by omega) (by omega)) ?_
      have r4 := zH_f hZ 52 0 ((max 0 (((Z 11 0 0 11) - 1) - a1)) % 24) a2
      exact zlG hP (zm_rd (Z := Z) (ν := ν) (k := 52) (show ((0 : Nat) : Int) = 0 from rfl) (i3I (y := ((max 0 (((Z 11 0 0 11) - 1) - a1)) % 24)) (i3R (i3Mx (show (0 : Int32) = i3 0 from rfl) (i3S (i3S (zm_rd (Z := Z) (ν := ν) (k := 11) (show ((0 : Nat) : Int) = 0 from rfl) (show ((0 : Nat) : Int) = 0 from rfl) (show ((11 : Nat) : Int) = 11 from rfl)) (show (1 : Int32) = i3 1 from rfl)) (rfl : i3 a1 = i3 a1)) (by omega) (by omega) (by omega) (by omega)) (show (24 : Int32) = i3 24 from rfl) (by omega) (by omega) (by omega) (by omega)) (by omega) (by omega) (by omega)) (i3I (y := a2) (rfl : i3 a2 = i3 a2) (by omega) (by omega) (by omega))) ⟨hZ, zC_r, zU_r, zG_w zG_r (Nat.le_of_ble_eq_true rfl) (Nat.le_of_ble_eq_true rfl)⟩
    · replace hP := zE_n hP h3
      exact zlGe (E := 12) hP ⟨hZ, zC_r, zU_r, zG_w (zG_k rfl) (Nat.le_of_ble_eq_true rfl) (Nat.le_of_ble_eq_true rfl)⟩
  · replace hP := zE_n hP h2
    exact zlGe (E := 23) hP ⟨hZ, zC_r, zU_r, zG_w (zG_k rfl) (Nat.le_of_ble_eq_true rfl) (Nat.le_of_ble_eq_true rfl)⟩
/- yX11_gas -/
def zx_202 (Z : qz_Z) (a1 : Int) (a2 : Int) : qz_Z × Int × Int := (if 0 ≤ a1 ∧ a1 < (Z 11 0 0 2) then (if a2 = 0 then (zlet (zdd Z 6 a1 0 0 0 0 0) (fun Z4 => (zlet (zu Z4 43 0 a1 4 0) (fun Z5 => (if (Z4 43 0 a1 4) ≠ 1 then (Z5, 0, 0) else (Z5, 1, 0)))))) else (zlet (zdd Z 6 a1 1 0 0 0 0) (fun Z8 => (zlet (zu Z8 43 0 a1 4 1) (fun Z9 => (if (Z8 43 0 a1 4) ≠ 1 then (Z9, 0, 0) else (Z9, 1, 0))))))) else (Z, 0, 24))
theorem sx_202 {M : Nat} {Z : qz_Z} {ν : qz_N} (hZ : zH ((none, M) : zSM) Z) (hM : ((none, M) : zSM).2 + 0 ≤ 1000000000) {a1 : Int} (ga1 : -2147483648 ≤ a1 ∧ a1 ≤ 2147483647) {a2 : Int} (ga2 : -2147483648 ≤ a2 ∧ a2 ≤ 2147483647) : ∃ (Z1 : qz_Z) (ν1 : qz_N) (v E : Int), (Z1, v, E) = zx_202 Z a1 a2 ∧ qf_202 [.inr (.inr (some (0, 0, 0))), .inl (i3 a1), .inl (i3 a2)] (zm Z ν) = some (zm Z1 ν1, zoX v E) ∧ (fun Z1 ν1 => zH ((none, M) : zSM) Z1 ∧ zC [3, 12, 13, 14, 40, 41, 42, 43, 44, 45, 46, 47, 48, 49, 50, 51, 52, 53, 54, 61, 68, 1099, 1100, 1101, 1102, 1103, 1104, 1105, 1106, 1107, 1108, 1109, 1110, 1111, 1112, 1113, 1114, 1115, 1116] Z Z1 ∧ zU [0, 2, 3, 4, 5, 6, 7, 8, 9] Z Z1 ∧ zG 1 6 ν ν1) Z1 ν1 := by
  obtain ⟨P, hP⟩ := zx (zx_202 Z a1 a2)
  refine zc_G (Q := fun Z1 ν1 => zH ((none, M) : zSM) Z1 ∧ zC [3, 12, 13, 14, 40, 41, 42, 43, 44, 45, 46, 47, 48, 49, 50, 51, 52, 53, 54, 61, 68, 1099, 1100, 1101, 1102, 1103, 1104, 1105, 1106, 1107, 1108, 1109, 1110, 1111, 1112, 1113, 1114, 1115, 1116] Z Z1 ∧ zU [0, 2, 3, 4, 5, 6, 7, 8, 9] Z Z1 ∧ zG 1 6 ν ν1) hP (fw_202 (i3 a1) (i3 a2) _ _ ?_)
  replace hP : zE P (zx_202 Z a1 a2) := hP
  unfold zx_202 at hP
  have r1 := zH_k hZ 11 0 0 2 (lo := 0) (hi := 6) (by decide) rfl
  refine wz_thing (rfl : i3 a1 = i3 a1) (zm_rd (Z := Z) (ν := ν) (k := 11) (show ((0 : Nat) : Int) = 0 from rfl) (show ((0 : Nat) : Int) = 0 from rfl) (show ((2 : Nat) : Int) = 2 from rfl)) (by omega) (by omega) (by omega) (by omega) (fun h2 => ?_) (fun h2 => ?_)
  · replace hP := zE_p hP h2
    refine wz_br (i3E (rfl : i3 a2 = i3 a2) (show (0 : Int32) = i3 0 from rfl) (by omega) (by omega) (by omega) (by omega)) (fun h3 => ?_) (fun h3 => ?_)
    · replace hP := zE_p hP h3
      refine dc_J (zcons rfl (zcons (zvi (show (6 : Int32) = i3 6 from rfl)) (zcons (zvi (rfl : i3 a1 = i3 a1)) (zcons (zvi (show (0 : Int32) = i3 0 from rfl)) (zcons (zvi (show (0 : Int32) = i3 0 from rfl)) (zcons (zvi (show (0 : Int32) = i3 0 from rfl)) (zcons (zvi (show (0 : Int32) = i3 0 from rfl)) (zcons (zvi (show (0 : Int32) = i3 0 from rfl)) rfl)))))))) (dg (hZ).1 (by omega) (by omega) (by omega) (by omega) (by omega) (by omega) (by omega) ?_)
      have hZ4I := zH_dd hZ (a1 := 6) (a2 := a1) (a3 := 0) (a4 := 0) (a5 := 0) (a6 := 0) (a7 := 0) (by omega) (by omega) (by omega) (by omega) (by omega) (by omega) (by omega)
      have kZ4 : zC [3, 12, 13, 14, 40, 41, 42, 43, 44, 45, 46, 47, 48, 49, 50, 51, 52, 53, 54, 61, 68, 1099, 1100, 1101, 1102, 1103, 1104, 1105, 1106, 1107, 1108, 1109, 1110, 1111, 1112, 1113, 1114, 1115, 1116] Z (zdd Z 6 a1 0 0 0 0 0) := zC_k zdd_K (by decide) (by decide)
      have hZ4A : (zdd Z 6 a1 0 0 0 0 0) 68 0 0 0 = 6 ∧ (zdd Z 6 a1 0 0 0 0 0) 68 0 0 1 = a1 ∧ (zdd Z 6 a1 0 0 0 0 0) 68 0 0 2 = 0 ∧ (zdd Z 6 a1 0 0 0 0 0) 68 0 0 3 = 0 ∧ (zdd Z 6 a1 0 0 0 0 0) 68 0 0 4 = 0 ∧ (zdd Z 6 a1 0 0 0 0 0) 68 0 0 5 = 0 ∧ (zdd Z 6 a1 0 0 0 0 0) 68 0 0 6 = 0 := ⟨zdd_68, zdd_68, zdd_68, zdd_68, zdd_68, zdd_68, zdd_68⟩
      obtain ⟨Z4, hZ4⟩ := zx (zdd Z 6 a1 0 0 0 0 0)
      have dZ4 : ∀ {k : Nat} {i j : Int}, zhall k = true → ¬ (k = 11 ∧ (j = 15 ∨ j = 16)) → Z4 k 0 i j = Z k 0 i j := fun hk hj => by rw [hZ4]; exact zdd_h (hZ).1 hk hj
      have jZ4 : zU [0, 2, 3, 4, 5, 6, 7, 8, 9] Z (zdd Z 6 a1 0 0 0 0 0) := zU_dd (hZ).1
      rw [← hZ4] at hZ4I kZ4 jZ4 hZ4A ⊢
      have hZ4U : zU [0, 2, 3, 4, 5, 6, 7, 8, 9] Z Z4 := zU_t zU_r jZ4 (zU_b1 (List.Mem.head _) (zU_b1 (List.Mem.tail _ (List.Mem.head _)) (zU_b1 (List.Mem.tail _ (List.Mem.tail _ (List.Mem.head _))) (zU_b1 (List.Mem.tail _ (List.Mem.tail _ (List.Mem.tail _ (List.Mem.head _)))) (zU_b1 (List.Mem.tail _ (List.Mem.tail _ (List.Mem.tail _ (List.Mem.tail _ (List.Mem.head _))))) (zU_b1 (List.Mem.tail _ (List.Mem.tail _ (List.Mem.tail _ (List.Mem.tail _ (List.Mem.tail _ (List.Mem.head _)))))) (zU_b1 (List.Mem.tail _ (List.Mem.tail _ (List.Mem.tail _ (List.Mem.tail _ (List.Mem.tail _ (List.Mem.tail _ (List.Mem.head _))))))) (zU_b1 (List.Mem.tail _ (List.Mem.tail _ (List.Mem.tail _ (List.Mem.tail _ (List.Mem.tail _ (List.Mem.tail _ (List.Mem.tail _ (List.Mem.head _)))))))) (zU_b1 (List.Mem.tail _ (List.Mem.tail _ (List.Mem.tail _ (List.Mem.tail _ (List.Mem.tail _ (List.Mem.tail _ (List.Mem.tail _ (List.Mem.tail _ (List.Mem.head _))))))))) zU_b0)))))))))
      replace hP := zl_e hP hZ4
      have hZ4K : zC [3, 12, 13, 14, 40, 41, 42, 43, 44, 45, 46, 47, 48, 49, 50, 51, 52, 53, 54, 61, 68, 1099, 1100, 1101, 1102, 1103, 1104, 1105, 1106, 1107, 1108, 1109, 1110, 1111, 1112, 1113, 1114, 1115, 1116] Z Z4 := zC_t zC_r kZ4 (by decide)
      clear kZ4 hZ4
      refine fw_121 _ _ _ _ ?_
      refine wz_i1 rfl ?_
      refine wz_i0 (i3O (n := 7) (show (0 : Int32) = i3 0 from rfl) (by omega) (by omega) (by omega)) ?_
      refine wz_i0 (Eq.trans (i3To (Eq.trans (zm_rd (Z := Z4) (ν := ν) (k := 68) (show ((0 : Nat) : Int) = 0 from rfl) (show ((0 : Nat) : Int) = 0 from rfl) (show ((0 : Nat) : Int) = 0 from rfl)) (congrArg i3 ((hZ4A.1)))) (by omega) (by omega)) (decide_eq_false (by omega))) ?_
      refine wz_i0 (Eq.trans (i3T (Eq.trans (zm_rd (Z := Z4) (ν := ν) (k := 68) (show ((0 : Nat) : Int) = 0 from rfl) (show ((0 : Nat) : Int) = 0 from rfl) (show ((0 : Nat) : Int) = 0 from rfl)) (congrArg i3 ((hZ4A.1)))) (by omega) (by omega)) (decide_eq_false (by omega))) ?_
      refine wz_i0 (Eq.trans (i3T (Eq.trans (zm_rd (Z := Z4) (ν := ν) (k := 68) (show ((0 : Nat) : Int) = 0 from rfl) (show ((0 : Nat) : Int) = 0 from rfl) (show ((0 : Nat) : Int) = 0 from rfl)) (congrArg i3 ((hZ4A.1)))) (by omega) (by omega)) (decide_eq_false (by omega))) ?_
      refine wz_i0 (Eq.trans (i3T (Eq.trans (zm_rd (Z := Z4) (ν := ν) (k := 68) (show ((0 : Nat) : Int) = 0 from rfl) (show ((0 : Nat) : Int) = 0 from rfl) (show ((0 : Nat) : Int) = 0 from rfl)) (congrArg i3 ((hZ4A.1)))) (by omega) (by omega)) (decide_eq_false (by omega))) ?_
      refine wz_i0 (Eq.trans (i3T (Eq.trans (zm_rd (Z := Z4) (ν := ν) (k := 68) (show ((0 : Nat) : Int) = 0 from rfl) (show ((0 : Nat) : Int) = 0 from rfl) (show ((0 : Nat) : Int) = 0 from rfl)) (congrArg i3 ((hZ4A.1)))) (by omega) (by omega)) (decide_eq_false (by omega))) ?_
      refine wz_i0 (Eq.trans (i3T (Eq.trans (zm_rd (Z := Z4) (ν := ν) (k := 68) (show ((0 : Nat) : Int) = 0 from rfl) (show ((0 : Nat) : Int) = 0 from rfl) (show ((0 : Nat) : Int) = 0 from rfl)) (congrArg i3 ((hZ4A.1)))) (by omega) (by omega)) (decide_eq_false (by omega))) ?_
      refine wz_i0 (Eq.trans (i3T (Eq.trans (zm_rd (Z := Z4) (ν := ν) (k := 68) (show ((0 : Nat) : Int) = 0 from rfl) (show ((0 : Nat) : Int) = 0 from rfl) (show ((0 : Nat) : Int) = 0 from rfl)) (congrArg i3 ((hZ4A.1)))) (by omega) (by omega)) (decide_eq_false (by omega))) ?_
      refine wz_i1 (Eq.trans (i3T (Eq.trans (zm_rd (Z := Z4) (ν := ν) (k := 68) (show ((0 : Nat) : Int) = 0 from rfl) (show ((0 : Nat) : Int) = 0 from rfl) (show ((0 : Nat) : Int) = 0 from rfl)) (congrArg i3 ((hZ4A.1)))) (by omega) (by omega)) (decide_eq_true (by omega))) ?_
      refine wz_i1 rfl ?_
      refine wz_i0 (i3O (n := 7) (show (1 : Int32) = i3 1 from rfl) (by omega) (by omega) (by omega)) ?_
      refine wz_i0 (i3O (n := 6) (Eq.trans (zm_rd (Z := Z4) (ν := ν) (k := 68) (show ((0 : Nat) : Int) = 0 from rfl) (show ((0 : Nat) : Int) = 0 from rfl) (show ((1 : Nat) : Int) = 1 from rfl)) (congrArg i3 ((hZ4A.2.1)))) (by omega) (by omega) (by omega)) ?_
      refine wz_i1 rfl ?_
      refine wz_i0 (i3O (n := 7) (show (2 : Int32) = i3 2 from rfl) (by omega) (by omega) (by omega)) ?_
      obtain ⟨Z5, hZ5⟩ := zx (zu Z4 43 0 a1 4 0)
      replace hP := zl_e hP hZ5
      have hZ5I := zH_0 hZ4I hZ5 (by decide) (Or.inl (by decide))
      have hZ5U : zU [0, 2, 3, 4, 5, 6, 7, 8, 9] Z Z5 := zU_u hZ4U hZ5 (Or.inr (List.Mem.head _))
      have hZ5K : zC [3, 12, 13, 14, 40, 41, 42, 43, 44, 45, 46, 47, 48, 49, 50, 51, 52, 53, 54, 61, 68, 1099, 1100, 1101, 1102, 1103, 1104, 1105, 1106, 1107, 1108, 1109, 1110, 1111, 1112, 1113, 1114, 1115, 1116] Z Z5 := zC_u hZ4K hZ5 (by decide)
      intro μ9 e9
      replace e9 := e9.trans (zm_wI (Z := Z4) (ν := ν) hZ5 (show ((0 : Nat) : Int) = 0 from rfl) (i3I (y := a1) (Eq.trans (zm_rd (Z := Z4) (ν := ν) (k := 68) (show ((0 : Nat) : Int) = 0 from rfl) (show ((0 : Nat) : Int) = 0 from rfl) (show ((1 : Nat) : Int) = 1 from rfl)) (congrArg i3 ((hZ4A.2.1)))) (by omega) (by omega) (by omega)) (show ((4 : Nat) : Int) = 4 from rfl) (Eq.trans (zm_rd (Z := Z4) (ν := ν) (k := 68) (show ((0 : Nat) : Int) = 0 from rfl) (show ((0 : Nat) : Int) = 0 from rfl) (show ((2 : Nat) : Int) = 2 from rfl)) (congrArg i3 ((hZ4A.2.2.1)))))
      subst e9
      have r6 := zH_k hZ4I 43 0 a1 4 (lo := 0) (hi := 1) (by decide) rfl
      refine wz_br (i3NE (zm_rd (Z := Z4) (ν := ν) (k := 43) (show ((0 : Nat) : Int) = 0 from rfl) (i3I (y := a1) (Eq.trans (zm_rd (Z := Z4) (ν := ν) (k := 68) (show ((0 : Nat) : Int) = 0 from rfl) (show ((0 : Nat) : Int) = 0 from rfl) (show ((1 : Nat) : Int) = 1 from rfl)) (congrArg i3 ((hZ4A.2.1)))) (by omega) (by omega) (by omega)) (show ((4 : Nat) : Int) = 4 from rfl)) (show (1 : Int32) = i3 1 from rfl) (by omega) (by omega) (by omega) (by omega)) (fun h7 => ?_) (fun h7 => ?_)
      · replace hP := zE_p hP h7
        exact zlG hP (show (0 : Int32) = i3 0 from rfl) ⟨hZ5I, hZ5K, hZ5U, zG_w zG_r (Nat.le_of_ble_eq_true rfl) (Nat.le_of_ble_eq_true rfl)⟩
      · replace hP := zE_n hP h7
        exact zlG hP (show (1 : Int32) = i3 1 from rfl) ⟨hZ5I, hZ5K, hZ5U, zG_w zG_r (Nat.le_of_ble_eq_true rfl) (Nat.le_of_ble_eq_true rfl)⟩
    · replace hP := zE_n hP h3
      refine dc_J (zcons rfl (zcons (zvi (show (6 : Int32) = i3 6 from rfl)) (zcons (zvi (rfl : i3 a1 = i3 a1)) (zcons (zvi (show (1 : Int32) = i3 1 from rfl)) (zcons (zvi (show (0 : Int32) = i3 0 from rfl)) (zcons (zvi (show (0 : Int32) = i3 0 from rfl)) (zcons (zvi (show (0 : Int32) = i3 0 from rfl)) (zcons (zvi (show (0 : Int32) = i3 0 from rfl)) rfl)))))))) (dg (hZ).1 (by omega) (by omega) (by omega) (by omega) (by omega) (by omega) (by omega) ?_)
      have hZ8I := zH_dd hZ (a1 := 6) (a2 := a1) (a3 := 1) (a4 := 0) (a5 := 0) (a6 := 0) (a7 := 0) (by omega) (by omega) (by omega) (by omega) (by omega) (by omega) (by omega)
      have kZ8 : zC [3, 12, 13, 14, 40, 41, 42, 43, 44, 45, 46, 47, 48, 49, 50, 51, 52, 53, 54, 61, 68, 1099, 1100, 1101, 1102, 1103, 1104, 1105, 1106, 1107, 1108, 1109, 1110, 1111, 1112, 1113, 1114, 1115, 1116] Z (zdd Z 6 a1 1 0 0 0 0) := zC_k zdd_K (by decide) (by decide)
      have hZ8A : (zdd Z 6 a1 1 0 0 0 0) 68 0 0 0 = 6 ∧ (zdd Z 6 a1 1 0 0 0 0) 68 0 0 1 = a1 ∧ (zdd Z 6 a1 1 0 0 0 0) 68 0 0 2 = 1 ∧ (zdd Z 6 a1 1 0 0 0 0) 68 0 0 3 = 0 ∧ (zdd Z 6 a1 1 0 0 0 0) 68 0 0 4 = 0 ∧ (zdd Z 6 a1 1 0 0 0 0) 68 0 0 5 = 0 ∧ (zdd Z 6 a1 1 0 0 0 0) 68 0 0 6 = 0 := ⟨zdd_68, zdd_68, zdd_68, zdd_68, zdd_68, zdd_68, zdd_68⟩
      obtain ⟨Z8, hZ8⟩ := zx (zdd Z 6 a1 1 0 0 0 0)
      have dZ8 : ∀ {k : Nat} {i j : Int}, zhall k = true → ¬ (k = 11 ∧ (j = 15 ∨ j = 16)) → Z8 k 0 i j = Z k 0 i j := fun hk hj => by rw [hZ8]; exact zdd_h (hZ).1 hk hj
      have jZ8 : zU [0, 2, 3, 4, 5, 6, 7, 8, 9] Z (zdd Z 6 a1 1 0 0 0 0) := zU_dd (hZ).1
      rw [← hZ8] at hZ8I kZ8 jZ8 hZ8A ⊢
      have hZ8U : zU [0, 2, 3, 4, 5, 6, 7, 8, 9] Z Z8 := zU_t zU_r jZ8 (zU_b1 (List.Mem.head _) (zU_b1 (List.Mem.tail _ (List.Mem.head _)) (zU_b1 (List.Mem.tail _ (List.Mem.tail _ (List.Mem.head _))) (zU_b1 (List.Mem.tail _ (List.Mem.tail _ (List.Mem.tail _ (List.Mem.head _)))) (zU_b1 (List.Mem.tail _ (List.Mem.tail _ (List.Mem.tail _ (List.Mem.tail _ (List.Mem.head _))))) (zU_b1 (List.Mem.tail _ (List.Mem.tail _ (List.Mem.tail _ (List.Mem.tail _ (List.Mem.tail _ (List.Mem.head _)))))) (zU_b1 (List.Mem.tail _ (List.Mem.tail _ (List.Mem.tail _ (List.Mem.tail _ (List.Mem.tail _ (List.Mem.tail _ (List.Mem.head _))))))) (zU_b1 (List.Mem.tail _ (List.Mem.tail _ (List.Mem.tail _ (List.Mem.tail _ (List.Mem.tail _ (List.Mem.tail _ (List.Mem.tail _ (List.Mem.head _)))))))) (zU_b1 (List.Mem.tail _ (List.Mem.tail _ (List.Mem.tail _ (List.Mem.tail _ (List.Mem.tail _ (List.Mem.tail _ (List.Mem.tail _ (List.Mem.tail _ (List.Mem.head _))))))))) zU_b0)))))))))
      replace hP := zl_e hP hZ8
      have hZ8K : zC [3, 12, 13, 14, 40, 41, 42, 43, 44, 45, 46, 47, 48, 49, 50, 51, 52, 53, 54, 61, 68, 1099, 1100, 1101, 1102, 1103, 1104, 1105, 1106, 1107, 1108, 1109, 1110, 1111, 1112, 1113, 1114, 1115, 1116] Z Z8 := zC_t zC_r kZ8 (by decide)
      clear kZ8 hZ8
      refine fw_121 _ _ _ _ ?_
      refine wz_i1 rfl ?_
      refine wz_i0 (i3O (n := 7) (show (0 : Int32) = i3 0 from rfl) (by omega) (by omega) (by omega)) ?_
      refine wz_i0 (Eq.trans (i3To (Eq.trans (zm_rd (Z := Z8) (ν := ν) (k := 68) (show ((0 : Nat) : Int) = 0 from rfl) (show ((0 : Nat) : Int) = 0 from rfl) (show ((0 : Nat) : Int) = 0 from rfl)) (congrArg i3 ((hZ8A.1)))) (by omega) (by omega)) (decide_eq_false (by omega))) ?_
      refine wz_i0 (Eq.trans (i3T (Eq.trans (zm_rd (Z := Z8) (ν := ν) (k := 68) (show ((0 : Nat) : Int) = 0 from rfl) (show ((0 : Nat) : Int) = 0 from rfl) (show ((0 : Nat) : Int) = 0 from rfl)) (congrArg i3 ((hZ8A.1)))) (by omega) (by omega)) (decide_eq_false (by omega))) ?_
      refine wz_i0 (Eq.trans (i3T (Eq.trans (zm_rd (Z := Z8) (ν := ν) (k := 68) (show ((0 : Nat) : Int) = 0 from rfl) (show ((0 : Nat) : Int) = 0 from rfl) (show ((0 : Nat) : Int) = 0 from rfl)) (congrArg i3 ((hZ8A.1)))) (by omega) (by omega)) (decide_eq_false (by omega))) ?_
      refine wz_i0 (Eq.trans (i3T (Eq.trans (zm_rd (Z := Z8) (ν := ν) (k := 68) (show ((0 : Nat) : Int) = 0 from rfl) (show ((0 : Nat) : Int) = 0 from rfl) (show ((0 : Nat) : Int) = 0 from rfl)) (congrArg i3 ((hZ8A.1)))) (by omega) (by omega)) (decide_eq_false (by omega))) ?_
      refine wz_i0 (Eq.trans (i3T (Eq.trans (zm_rd (Z := Z8) (ν := ν) (k := 68) (show ((0 : Nat) : Int) = 0 from rfl) (show ((0 : Nat) : Int) = 0 from rfl) (show ((0 : Nat) : Int) = 0 from rfl)) (congrArg i3 ((hZ8A.1)))) (by omega) (by omega)) (decide_eq_false (by omega))) ?_
      refine wz_i0 (Eq.trans (i3T (Eq.trans (zm_rd (Z := Z8) (ν := ν) (k := 68) (show ((0 : Nat) : Int) = 0 from rfl) (show ((0 : Nat) : Int) = 0 from rfl) (show ((0 : Nat) : Int) = 0 from rfl)) (congrArg i3 ((hZ8A.1)))) (by omega) (by omega)) (decide_eq_false (by omega))) ?_
      refine wz_i0 (Eq.trans (i3T (Eq.trans (zm_rd (Z := Z8) (ν := ν) (k := 68) (show ((0 : Nat) : Int) = 0 from rfl) (show ((0 : Nat) : Int) = 0 from rfl) (show ((0 : Nat) : Int) = 0 from rfl)) (congrArg i3 ((hZ8A.1)))) (by omega) (by omega)) (decide_eq_false (by omega))) ?_
      refine wz_i1 (Eq.trans (i3T (Eq.trans (zm_rd (Z := Z8) (ν := ν) (k := 68) (show ((0 : Nat) : Int) = 0 from rfl) (show ((0 : Nat) : Int) = 0 from rfl) (show ((0 : Nat) : Int) = 0 from rfl)) (congrArg i3 ((hZ8A.1)))) (by omega) (by omega)) (decide_eq_true (by omega))) ?_
      refine wz_i1 rfl ?_
      refine wz_i0 (i3O (n := 7) (show (1 : Int32) = i3 1 from rfl) (by omega) (by omega) (by omega)) ?_
      refine wz_i0 (i3O (n := 6) (Eq.trans (zm_rd (Z := Z8) (ν := ν) (k := 68) (show ((0 : Nat) : Int) = 0 from rfl) (show ((0 : Nat) : Int) = 0 from rfl) (show ((1 : Nat) : Int) = 1 from rfl)) (congrArg i3 ((hZ8A.2.1)))) (by omega) (by omega) (by omega)) ?_
      refine wz_i1 rfl ?_
      refine wz_i0 (i3O (n := 7) (show (2 : Int32) = i3 2 from rfl) (by omega) (by omega) (by omega)) ?_
      obtain ⟨Z9, hZ9⟩ := zx (zu Z8 43 0 a1 4 1)
      replace hP := zl_e hP hZ9
      have hZ9I := zH_u hZ8I hZ9 (lo := 0) (hi := 1) (by decide) rfl (by omega) ⟨by decide, by decide⟩ (Or.inl (by decide)) rfl
      have hZ9U : zU [0, 2, 3, 4, 5, 6, 7, 8, 9] Z Z9 := zU_u hZ8U hZ9 (Or.inr (List.Mem.head _))
      have hZ9K : zC [3, 12, 13, 14, 40, 41, 42, 43, 44, 45, 46, 47, 48, 49, 50, 51, 52, 53, 54, 61, 68, 1099, 1100, 1101, 1102, 1103, 1104, 1105, 1106, 1107, 1108, 1109, 1110, 1111, 1112, 1113, 1114, 1115, 1116] Z Z9 := zC_u hZ8K hZ9 (by decide)
      intro μ9 e9
      replace e9 := e9.trans (zm_wI (Z := Z8) (ν := ν) hZ9 (show ((0 : Nat) : Int) = 0 from rfl) (i3I (y := a1) (Eq.trans (zm_rd (Z := Z8) (ν := ν) (k := 68) (show ((0 : Nat) : Int) = 0 from rfl) (show ((0 : Nat) : Int) = 0 from rfl) (show ((1 : Nat) : Int) = 1 from rfl)) (congrArg i3 ((hZ8A.2.1)))) (by omega) (by omega) (by omega)) (show ((4 : Nat) : Int) = 4 from rfl) (Eq.trans (zm_rd (Z := Z8) (ν := ν) (k := 68) (show ((0 : Nat) : Int) = 0 from rfl) (show ((0 : Nat) : Int) = 0 from rfl) (show ((2 : Nat) : Int) = 2 from rfl)) (congrArg i3 ((hZ8A.2.2.1)))))
      subst e9
      have r10 := zH_k hZ8I 43 0 a1 4 (lo := 0) (hi := 1) (by decide) rfl
      refine wz_br (i3NE (zm_rd (Z := Z8) (ν := ν) (k := 43) (show ((0 : Nat) : Int) = 0 from rfl) (i3I (y := a1) (Eq.trans (zm_rd (Z := Z8) (ν := ν) (k := 68) (show ((0 : Nat) : Int) = 0 from rfl) (show ((0 : Nat) : Int) = 0 from rfl) (show ((1 : Nat) : Int) = 1 from rfl)) (congrArg i3 ((hZ8A.2.1)))) (by omega) (by omega) (by omega)) (show ((4 : Nat) : Int) = 4 from rfl)) (show (1 : Int32) = i3 1 from rfl) (by omega) (by omega) (by omega) (by omega)) (fun h11 => ?_) (fun h11 => ?_)
      · replace hP := zE_p hP h11
        exact zlG hP (show (0 : Int32) = i3 0 from rfl) ⟨hZ9I, hZ9K, hZ9U, zG_w zG_r (Nat.le_of_ble_eq_true rfl) (Nat.le_of_ble_eq_true rfl)⟩
      · replace hP := zE_n hP h11
        exact zlG hP (show (1 : Int32) = i3 1 from rfl) ⟨hZ9I, hZ9K, hZ9U, zG_w zG_r (Nat.le_of_ble_eq_true rfl) (Nat.le_of_ble_eq_true rfl)⟩
  · replace hP := zE_n hP h2
    exact zlGe (E := 23) hP ⟨hZ, zC_r, zU_r, zG_w (zG_k rfl) (Nat.le_of_ble_eq_true rfl) (Nat.le_of_ble_eq_true rfl)⟩
/- yX11_grade -/
def zx_203 (Z : qz_Z) (a1 : Int) (a2 : Int) (a3 : Int) (a4 : Int) : qz_Z × Int × Int := (if 0 ≤ a1 ∧ a1 < (Z 11 0 0 3) then (if 1 ≤ a2 ∧ a2 ≤ 20 then (if 0 ≤ a3 ∧ a3 ≤ 9 then (if 0 ≤ a4 ∧ a4 ≤ 65535 then (if (Z 44 0 a1 10) ≠ 0 then (Z, 0, 15) else (if (Z 44 0 a1 4) < a2 then (Z, 0, 15) else (zlet (zdd Z 3 a1 a2 a3 a4 0 0) (fun Z13 => (zlet2 (zf_95 Z13 0 a1 a2 a3 a4) (fun Z14 v15 => (Z14, v15, 0))))))) else (Z, 0, 13)) else (Z, 0, 13)) else (Z, 0, 13)) else (Z, 0, 24))
theorem sx_203 {M : Nat} {Z : qz_Z} {ν : qz_N} (hZ : zH ((none, M) : zSM) Z) (hM : ((none, M) : zSM).2 + 1 ≤ 1000000000) {a1 : Int} (ga1 : -2147483648 ≤ a1 ∧ a1 ≤ 2147483647) {a2 : Int} (ga2 : -2147483648 ≤ a2 ∧ a2 ≤ 2147483647) {a3 : Int} (ga3 : -2147483648 ≤ a3 ∧ a3 ≤ 2147483647) {a4 : Int} (ga4 : -2147483648 ≤ a4 ∧ a4 ≤ 2147483647) : ∃ (Z1 : qz_Z) (ν1 : qz_N) (v E : Int), (Z1, v, E) = zx_203 Z a1 a2 a3 a4 ∧ qf_203 [.inr (.inr (some (0, 0, 0))), .inl (i3 a1), .inl (i3 a2), .inl (i3 a3), .inl (i3 a4)] (zm Z ν) = some (zm Z1 ν1, zoX v E) ∧ (fun Z1 ν1 => zH (zb ((none, M) : zSM) 1) Z1 ∧ zC [3, 12, 13, 14, 40, 41, 42, 43, 44, 45, 46, 47, 48, 49, 50, 51, 52, 53, 54, 61, 68, 1099, 1100, 1101, 1102, 1103, 1104, 1105, 1106, 1107, 1108, 1109, 1110, 1111, 1112, 1113, 1114, 1115, 1116] Z Z1 ∧ zU [0, 2, 3, 4, 5, 6, 7, 8, 9] Z Z1 ∧ zG 1 6 ν ν1) Z1 ν1 := by
  obtain ⟨P, hP⟩ := zx (zx_203 Z a1 a2 a3 a4)
  refine zc_G (Q := fun Z1 ν1 => zH (zb ((none, M) : zSM) 1) Z1 ∧ zC [3, 12, 13, 14, 40, 41, 42, 43, 44, 45, 46, 47, 48, 49, 50, 51, 52, 53, 54, 61, 68, 1099, 1100, 1101, 1102, 1103, 1104, 1105, 1106, 1107, 1108, 1109, 1110, 1111, 1112, 1113, 1114, 1115, 1116] Z Z1 ∧ zU [0, 2, 3, 4, 5, 6, 7, 8, 9] Z Z1 ∧ zG 1 6 ν ν1) hP (fw_203 (i3 a1) (i3 a2) (i3 a3) (i3 a4) _ _ ?_)
  replace hP : zE P (zx_203 Z a1 a2 a3 a4) := hP
  unfold zx_203 at hP
  have r1 := zH_k hZ 11 0 0 3 (lo := 0) (hi := 48) (by decide) rfl
  refine wz_thing (rfl : i3 a1 = i3 a1) (zm_rd (Z := Z) (ν := ν) (k := 11) (show ((0 : Nat) : Int) = 0 from rfl) (show ((0 : Nat) : Int) = 0 from rfl) (show ((3 : Nat) : Int) = 3 from rfl)) (by omega) (by omega) (by omega) (by omega) (fun h2 => ?_) (fun h2 => ?_)
  · replace hP := zE_p hP h2
    refine wz_inR (rfl : i3 a2 = i3 a2) (show (1 : Int32) = i3 1 from rfl) (show (20 : Int32) = i3 20 from rfl) (by omega) (by omega) (by omega) (by omega) (by omega) (by omega) (fun h3 => ?_) (fun h3 => ?_)
    · replace hP := zE_p hP h3
      refine wz_inR (rfl : i3 a3 = i3 a3) (show (0 : Int32) = i3 0 from rfl) (show (9 : Int32) = i3 9 from rfl) (by omega) (by omega) (by omega) (by omega) (by omega) (by omega) (fun h4 => ?_) (fun h4 => ?_)
      · replace hP := zE_p hP h4
        refine wz_inR (rfl : i3 a4 = i3 a4) (show (0 : Int32) = i3 0 from rfl) (show (65535 : Int32) = i3 65535 from rfl) (by omega) (by omega) (by omega) (by omega) (by omega) (by omega) (fun h5 => ?_) (fun h5 => ?_)
        · replace hP := zE_p hP h5
          refine wz_i0 (i3O (n := 48) (rfl : i3 a1 = i3 a1) (by omega) (by omega) (by omega)) ?_
          have r6 := zH_k hZ 44 0 a1 10 (lo := 0) (hi := 4) (by decide) rfl
          refine wz_br (i3NE (zm_rd (Z := Z) (ν := ν) (k := 44) (show ((0 : Nat) : Int) = 0 from rfl) (i3I (y := a1) (rfl : i3 a1 = i3 a1) (by omega) (by omega) (by omega)) (show ((10 : Nat) : Int) = 10 from rfl)) (show (0 : Int32) = i3 0 from rfl) (by omega) (by omega) (by omega) (by omega)) (fun h7 => ?_) (fun h7 => ?_)
          · replace hP := zE_p hP h7
            refine wz_inT_n (show (0 : Int32) = i3 0 from rfl) (by omega) (by omega) (by omega) ?_
            exact zlGe (E := 14) hP ⟨(zbw (a := 0) (c := 1) hZ (Nat.le_of_ble_eq_true rfl)), zC_r, zU_r, zG_w (zG_k rfl) (Nat.le_of_ble_eq_true rfl) (Nat.le_of_ble_eq_true rfl)⟩
          · replace hP := zE_n hP h7
            refine wz_i0 (i3O (n := 48) (rfl : i3 a1 = i3 a1) (by omega) (by omega) (by omega)) ?_
            have r9 := zH_k hZ 44 0 a1 4 (lo := 0) (hi := 40) (by decide) rfl
            refine wz_br (i3L (zm_rd (Z := Z) (ν := ν) (k := 44) (show ((0 : Nat) : Int) = 0 from rfl) (i3I (y := a1) (rfl : i3 a1 = i3 a1) (by omega) (by omega) (by omega)) (show ((4 : Nat) : Int) = 4 from rfl)) (rfl : i3 a2 = i3 a2) (by omega) (by omega) (by omega) (by omega)) (fun h10 => ?_) (fun h10 => ?_)
            · replace hP := zE_p hP h10
              refine wz_inT_n (show (0 : Int32) = i3 0 from rfl) (by omega) (by omega) (by omega) ?_
              exact zlGe (E := 14) hP ⟨(zbw (a := 0) (c := 1) hZ (Nat.le_of_ble_eq_true rfl)), zC_r, zU_r, zG_w (zG_k rfl) (Nat.le_of_ble_eq_true rfl) (Nat.le_of_ble_eq_true rfl)⟩
            · replace hP := zE_n hP h10
              refine wz_inT_y (show (1 : Int32) = i3 1 from rfl) (by omega) (by omega) (by omega) ?_
              refine dc_J (zcons rfl (zcons (zvi (show (3 : Int32) = i3 3 from rfl)) (zcons (zvi (rfl : i3 a1 = i3 a1)) (zcons (zvi (rfl : i3 a2 = i3 a2)) (zcons (zvi (rfl : i3 a3 = i3 a3)) (zcons (zvi (rfl : i3 a4 = i3 a4)) (zcons (zvi (show (0 : Int32) = i3 0 from rfl)) (zcons (zvi (show (0 : Int32) = i3 0 from rfl)) rfl)))))))) (dg (hZ).1 (by omega) (by omega) (by omega) (by omega) (by omega) (by omega) (by omega) ?_)
              have hZ13I := zH_dd hZ (a1 := 3) (a2 := a1) (a3 := a2) (a4 := a3) (a5 := a4) (a6 := 0) (a7 := 0) (by omega) (by omega) (by omega) (by omega) (by omega) (by omega) (by omega)
              have kZ13 : zC [3, 12, 13, 14, 40, 41, 42, 43, 44, 45, 46, 47, 48, 49, 50, 51, 52, 53, 54, 61, 68, 1099, 1100, 1101, 1102, 1103, 1104, 1105, 1106, 1107, 1108, 1109, 1110, 1111, 1112, 1113, 1114, 1115, 1116] Z (zdd Z 3 a1 a2 a3 a4 0 0) := zC_k zdd_K (by decide) (by decide)
              have hZ13A : (zdd Z 3 a1 a2 a3 a4 0 0) 68 0 0 0 = 3 ∧ (zdd Z 3 a1 a2 a3 a4 0 0) 68 0 0 1 = a1 ∧ (zdd Z 3 a1 a2 a3 a4 0 0) 68 0 0 2 = a2 ∧ (zdd Z 3 a1 a2 a3 a4 0 0) 68 0 0 3 = a3 ∧ (zdd Z 3 a1 a2 a3 a4 0 0) 68 0 0 4 = a4 ∧ (zdd Z 3 a1 a2 a3 a4 0 0) 68 0 0 5 = 0 ∧ (zdd Z 3 a1 a2 a3 a4 0 0) 68 0 0 6 = 0 := ⟨zdd_68, zdd_68, zdd_68, zdd_68, zdd_68, zdd_68, zdd_68⟩
              obtain ⟨Z13, hZ13⟩ := zx (zdd Z 3 a1 a2 a3 a4 0 0)
              have dZ13 : ∀ {k : Nat} {i j : Int}, zhall k = true → ¬ (k = 11 ∧ (j = 15 ∨ j = 16)) → Z13 k 0 i j = Z k 0 i j := fun hk hj => by rw [hZ13]; exact zdd_h (hZ).1 hk hj
              have jZ13 : zU [0, 2, 3, 4, 5, 6, 7, 8, 9] Z (zdd Z 3 a1 a2 a3 a4 0 0) := zU_dd (hZ).1
              rw [← hZ13] at hZ13I kZ13 jZ13 hZ13A ⊢
              have hZ13U : zU [0, 2, 3, 4, 5, 6, 7, 8, 9] Z Z13 := zU_t zU_r jZ13 (zU_b1 (List.Mem.head _) (zU_b1 (List.Mem.tail _ (List.Mem.head _)) (zU_b1 (List.Mem.tail _ (List.Mem.tail _ (List.Mem.head _))) (zU_b1 (List.Mem.tail _ (List.Mem.tail _ (List.Mem.tail _ (List.Mem.head _)))) (zU_b1 (List.Mem.tail _ (List.Mem.tail _ (List.Mem.tail _ (List.Mem.tail _ (List.Mem.head _))))) (zU_b1 (List.Mem.tail _ (List.Mem.tail _ (List.Mem.tail _ (List.Mem.tail _ (List.Mem.tail _ (List.Mem.head _)))))) (zU_b1 (List.Mem.tail _ (List.Mem.tail _ (List.Mem.tail _ (List.Mem.tail _ (List.Mem.tail _ (List.Mem.tail _ (List.Mem.head _))))))) (zU_b1 (List.Mem.tail _ (List.Mem.tail _ (List.Mem.tail _ (List.Mem.tail _ (List.Mem.tail _ (List.Mem.tail _ (List.Mem.tail _ (List.Mem.head _)))))))) (zU_b1 (List.Mem.tail _ (List.Mem.tail _ (List.Mem.tail _ (List.Mem.tail _ (List.Mem.tail _ (List.Mem.tail _ (List.Mem.tail _ (List.Mem.tail _ (List.Mem.head _))))))))) zU_b0)))))))))
              replace hP := zl_e hP hZ13
              have hZ13K : zC [3, 12, 13, 14, 40, 41, 42, 43, 44, 45, 46, 47, 48, 49, 50, 51, 52, 53, 54, 61, 68, 1099, 1100, 1101, 1102, 1103, 1104, 1105, 1106, 1107, 1108, 1109, 1110, 1111, 1112, 1113, 1114, 1115, 1116] Z Z13 := zC_t zC_r kZ13 (by decide)
              clear kZ13 hZ13
              refine fw_121 _ _ _ _ ?_
              refine wz_i1 rfl ?_
              refine wz_i0 (i3O (n := 7) (show (0 : Int32) = i3 0 from rfl) (by omega) (by omega) (by omega)) ?_
              refine wz_i0 (Eq.trans (i3To (Eq.trans (zm_rd (Z := Z13) (ν := ν) (k := 68) (show ((0 : Nat) : Int) = 0 from rfl) (show ((0 : Nat) : Int) = 0 from rfl) (show ((0 : Nat) : Int) = 0 from rfl)) (congrArg i3 ((hZ13A.1)))) (by omega) (by omega)) (decide_eq_false (by omega))) ?_
              refine wz_i0 (Eq.trans (i3T (Eq.trans (zm_rd (Z := Z13) (ν := ν) (k := 68) (show ((0 : Nat) : Int) = 0 from rfl) (show ((0 : Nat) : Int) = 0 from rfl) (show ((0 : Nat) : Int) = 0 from rfl)) (congrArg i3 ((hZ13A.1)))) (by omega) (by omega)) (decide_eq_false (by omega))) ?_
              refine wz_i0 (Eq.trans (i3T (Eq.trans (zm_rd (Z := Z13) (ν := ν) (k := 68) (show ((0 : Nat) : Int) = 0 from rfl) (show ((0 : Nat) : Int) = 0 from rfl) (show ((0 : Nat) : Int) = 0 from rfl)) (congrArg i3 ((hZ13A.1)))) (by omega) (by omega)) (decide_eq_false (by omega))) ?_
              refine wz_i0 (Eq.trans (i3T (Eq.trans (zm_rd (Z := Z13) (ν := ν) (k := 68) (show ((0 : Nat) : Int) = 0 from rfl) (show ((0 : Nat) : Int) = 0 from rfl) (show ((0 : Nat) : Int) = 0 from rfl)) (congrArg i3 ((hZ13A.1)))) (by omega) (by omega)) (decide_eq_false (by omega))) ?_
              refine wz_i1 (Eq.trans (i3T (Eq.trans (zm_rd (Z := Z13) (ν := ν) (k := 68) (show ((0 : Nat) : Int) = 0 from rfl) (show ((0 : Nat) : Int) = 0 from rfl) (show ((0 : Nat) : Int) = 0 from rfl)) (congrArg i3 ((hZ13A.1)))) (by omega) (by omega)) (decide_eq_true (by omega))) ?_
              refine wz_i1 rfl ?_
              refine wz_i0 (i3O (n := 7) (show (1 : Int32) = i3 1 from rfl) (by omega) (by omega) (by omega)) ?_
              refine wz_i1 rfl ?_
              refine wz_i0 (i3O (n := 7) (show (2 : Int32) = i3 2 from rfl) (by omega) (by omega) (by omega)) ?_
              refine wz_i1 rfl ?_
              refine wz_i0 (i3O (n := 7) (show (3 : Int32) = i3 3 from rfl) (by omega) (by omega) (by omega)) ?_
              refine wz_i1 rfl ?_
              refine wz_i0 (i3O (n := 7) (show (4 : Int32) = i3 4 from rfl) (by omega) (by omega) (by omega)) ?_
              obtain ⟨Z14, v15, hv15, c9, hZ14I, kZ14, jZ14, lv15, uv15⟩ := sp_95 (ν := ν) hZ13I 0 (a1 := a1) (by omega) (a2 := a2) (by omega) (a3 := a3) (by omega) (a4 := a4) (by omega) (zbh (c := 0) (k := 1) hM (Nat.le_of_ble_eq_true rfl))
              have hZ14U : zU [0, 2, 3, 4, 5, 6, 7, 8, 9] Z Z14 := zU_t hZ13U jZ14 (zU_b1 (List.Mem.head _) zU_b0)
              have hZ14K : zC [3, 12, 13, 14, 40, 41, 42, 43, 44, 45, 46, 47, 48, 49, 50, 51, 52, 53, 54, 61, 68, 1099, 1100, 1101, 1102, 1103, 1104, 1105, 1106, 1107, 1108, 1109, 1110, 1111, 1112, 1113, 1114, 1115, 1116] Z Z14 := zC_t hZ13K kZ14 (by decide)
              replace hP := zl_e2 hP hv15
              refine wz_cI_of (zas (zcons rfl (zcons (zvi (Eq.trans (zm_rd (Z := Z13) (ν := ν) (k := 68) (show ((0 : Nat) : Int) = 0 from rfl) (show ((0 : Nat) : Int) = 0 from rfl) (show ((1 : Nat) : Int) = 1 from rfl)) (congrArg i3 ((hZ13A.2.1))))) (zcons (zvi (Eq.trans (zm_rd (Z := Z13) (ν := ν) (k := 68) (show ((0 : Nat) : Int) = 0 from rfl) (show ((0 : Nat) : Int) = 0 from rfl) (show ((2 : Nat) : Int) = 2 from rfl)) (congrArg i3 ((hZ13A.2.2.1))))) (zcons (zvi (Eq.trans (zm_rd (Z := Z13) (ν := ν) (k := 68) (show ((0 : Nat) : Int) = 0 from rfl) (show ((0 : Nat) : Int) = 0 from rfl) (show ((3 : Nat) : Int) = 3 from rfl)) (congrArg i3 ((hZ13A.2.2.2.1))))) (zcons (zvi (Eq.trans (zm_rd (Z := Z13) (ν := ν) (k := 68) (show ((0 : Nat) : Int) = 0 from rfl) (show ((0 : Nat) : Int) = 0 from rfl) (show ((4 : Nat) : Int) = 4 from rfl)) (congrArg i3 ((hZ13A.2.2.2.2.1))))) rfl))))) c9) ?_
              clear c9 hv15
              exact zlG hP (rfl : i3 v15 = i3 v15) ⟨hZ14I, hZ14K, hZ14U, zG_w zG_r (Nat.le_of_ble_eq_true rfl) (Nat.le_of_ble_eq_true rfl)⟩
        · replace hP := zE_n hP h5
          exact zlGe (E := 12) hP ⟨(zbw (a := 0) (c := 1) hZ (Nat.le_of_ble_eq_true rfl)), zC_r, zU_r, zG_w (zG_k rfl) (Nat.le_of_ble_eq_true rfl) (Nat.le_of_ble_eq_true rfl)⟩
      · replace hP := zE_n hP h4
        exact zlGe (E := 12) hP ⟨(zbw (a := 0) (c := 1) hZ (Nat.le_of_ble_eq_true rfl)), zC_r, zU_r, zG_w (zG_k rfl) (Nat.le_of_ble_eq_true rfl) (Nat.le_of_ble_eq_true rfl)⟩
    · replace hP := zE_n hP h3
      exact zlGe (E := 12) hP ⟨(zbw (a := 0) (c := 1) hZ (Nat.le_of_ble_eq_true rfl)), zC_r, zU_r, zG_w (zG_k rfl) (Nat.le_of_ble_eq_true rfl) (Nat.le_of_ble_eq_true rfl)⟩
  · replace hP := zE_n hP h2
    exact zlGe (E := 23) hP ⟨(zbw (a := 0) (c := 1) hZ (Nat.le_of_ble_eq_true rfl)), zC_r, zU_r, zG_w (zG_k rfl) (Nat.le_of_ble_eq_true rfl) (Nat.le_of_ble_eq_true rfl)⟩
/- yX11_grower -/
def zx_204 (Z : qz_Z) (a1 : Int) (a2 : Int) : qz_Z × Int × Int := (if 0 ≤ a1 ∧ a1 ≤ 25 then (if 0 ≤ a2 ∧ a2 ≤ 9 then (if 6 ≤ (Z 11 0 0 1) then (Z, 0, 15) else (zlet (zdd Z 1 a1 a2 0 0 0 0) (fun Z7 => (zlet (zu Z7 42 0 (Z7 11 0 0 1) 0 a1) (fun Z10 => (zlet (zu Z10 42 0 (Z7 11 0 0 1) 1 a2) (fun Z11 => (zlet (zu Z11 11 0 0 1 ((Z11 11 0 0 1) + 1)) (fun Z14 => (Z14, (Z11 11 0 0 1), 0)))))))))) else (Z, 0, 13)) else (Z, 0, 13))
theorem sx_204 {M : Nat} {Z : qz_Z} {ν : qz_N} (hZ : zH ((none, M) : zSM) Z) (hM : ((none, M) : zSM).2 + 0 ≤ 1000000000) {a1 : Int} (ga1 : -2147483648 ≤ a1 ∧ a1 ≤ 2147483647) {a2 : Int} (ga2 : -2147483648 ≤ a2 ∧ a2 ≤ 2147483647) : ∃ (Z1 : qz_Z) (ν1 : qz_N) (v E : Int), (Z1, v, E) = zx_204 Z a1 a2 ∧ qf_204 [.inr (.inr (some (0, 0, 0))), .inl (i3 a1), .inl (i3 a2)] (zm Z ν) = some (zm Z1 ν1, zoX v E) ∧ (fun Z1 ν1 => zH ((none, M) : zSM) Z1 ∧ zC [3, 12, 13, 14, 40, 41, 42, 43, 44, 45, 46, 47, 48, 49, 50, 51, 52, 53, 54, 61, 68, 1099, 1100, 1101, 1102, 1103, 1104, 1105, 1106, 1107, 1108, 1109, 1110, 1111, 1112, 1113, 1114, 1115, 1116] Z Z1 ∧ zU [0, 2, 3, 4, 5, 6, 7, 8, 9] Z Z1 ∧ zG 1 6 ν ν1) Z1 ν1 := by
  obtain ⟨P, hP⟩ := zx (zx_204 Z a1 a2)
  refine zc_G (Q := fun Z1 ν1 => zH ((none, M) : zSM) Z1 ∧ zC [3, 12, 13, 14, 40, 41, 42, 43, 44, 45, 46, 47, 48, 49, 50, 51, 52, 53, 54, 61, 68, 1099, 1100, 1101, 1102, 1103, 1104, 1105, 1106, 1107, 1108, 1109, 1110, 1111, 1112, 1113, 1114, 1115, 1116] Z Z1 ∧ zU [0, 2, 3, 4, 5, 6, 7, 8, 9] Z Z1 ∧ zG 1 6 ν ν1) hP (fw_204 (i3 a1) (i3 a2) _ _ ?_)
  replace hP : zE P (zx_204 Z a1 a2) := hP
  unfold zx_204 at hP
  refine wz_inR (rfl : i3 a1 = i3 a1) (show (0 : Int32) = i3 0 from rfl) (show (25 : Int32) = i3 25 from rfl) (by omega) (by omega) (by omega) (by omega) (by omega) (by omega) (fun h1 => ?_) (fun h1 => ?_)
  · replace hP := zE_p hP h1
    refine wz_inR (rfl : i3 a2 = i3 a2) (show (0 : Int32) = i3 0 from rfl) (show (9 : Int32) = i3 9 from rfl) (by omega) (by omega) (by omega) (by omega) (by omega) (by omega) (fun h2 => ?_) (fun h2 => ?_)
    · replace hP := zE_p hP h2
      have r3 := zH_k hZ 11 0 0 1 (lo := 0) (hi := 6) (by decide) rfl
      refine wz_br (i3Le (show (6 : Int32) = i3 6 from rfl) (zm_rd (Z := Z) (ν := ν) (k := 11) (show ((0 : Nat) : Int) = 0 from rfl) (show ((0 : Nat) : Int) = 0 from rfl) (show ((1 : Nat) : Int) = 1 from rfl)) (by omega) (by omega) (by omega) (by omega)) (fun h4 => ?_) (fun h4 => ?_)
      · replace hP := zE_p hP h4
        refine wz_inT_n (show (0 : Int32) = i3 0 from rfl) (by omega) (by omega) (by omega) ?_
        exact zlGe (E := 14) hP ⟨hZ, zC_r, zU_r, zG_w (zG_k rfl) (Nat.le_of_ble_eq_true rfl) (Nat.le_of_ble_eq_true rfl)⟩
      · replace hP := zE_n hP h4
        refine wz_inT_y (show (1 : Int32) = i3 1 from rfl) (by omega) (by omega) (by omega) ?_
        refine dc_J (zcons rfl (zcons (zvi (show (1 : Int32) = i3 1 from rfl)) (zcons (zvi (rfl : i3 a1 = i3 a1)) (zcons (zvi (rfl : i3 a2 = i3 a2)) (zcons (zvi (show (0 : Int32) = i3 0 from rfl)) (zcons (zvi (show (0 : Int32) = i3 0 from rfl)) (zcons (zvi (show (0 : Int32) = i3 0 from rfl)) (zcons (zvi (show (0 : Int32) = i3 0 from rfl)) rfl)))))))) (dg (hZ).1 (by omega) (by omega) (by omega) (by omega) (by omega) (by omega) (by omega) ?_)
        have hZ7I := zH_dd hZ (a1 := 1) (a2 := a1) (a3 := a2) (a4 := 0) (a5 := 0) (a6 := 0) (a7 := 0) (by omega) (by omega) (by omega) (by omega) (by omega) (by omega) (by omega)
        have kZ7 : zC [3, 12, 13, 14, 40, 41, 42, 43, 44, 45, 46, 47, 48, 49, 50, 51, 52, 53, 54, 61, 68, 1099, 1100, 1101, 1102, 1103, 1104, 1105, 1106, 1107, 1108, 1109, 1110, 1111, 1112, 1113, 1114, 1115, 1116] Z (zdd Z 1 a1 a2 0 0 0 0) := zC_k zdd_K (by decide) (by decide)
        have hZ7A : (zdd Z 1 a1 a2 0 0 0 0) 68 0 0 0 = 1 ∧ (zdd Z 1 a1 a2 0 0 0 0) 68 0 0 1 = a1 ∧ (zdd Z 1 a1 a2 0 0 0 0) 68 0 0 2 = a2 ∧ (zdd Z 1 a1 a2 0 0 0 0) 68 0 0 3 = 0 ∧ (zdd Z 1 a1 a2 0 0 0 0) 68 0 0 4 = 0 ∧ (zdd Z 1 a1 a2 0 0 0 0) 68 0 0 5 = 0 ∧ (zdd Z 1 a1 a2 0 0 0 0) 68 0 0 6 = 0 := ⟨zdd_68, zdd_68, zdd_68, zdd_68, zdd_68, zdd_68, zdd_68⟩
        obtain ⟨Z7, hZ7⟩ := zx (zdd Z 1 a1 a2 0 0 0 0)
        have dZ7 : ∀ {k : Nat} {i j : Int}, zhall k = true → ¬ (k = 11 ∧ (j = 15 ∨ j = 16)) → Z7 k 0 i j = Z k 0 i j := fun hk hj => by rw [hZ7]; exact zdd_h (hZ).1 hk hj
        have jZ7 : zU [0, 2, 3, 4, 5, 6, 7, 8, 9] Z (zdd Z 1 a1 a2 0 0 0 0) := zU_dd (hZ).1
        rw [← hZ7] at hZ7I kZ7 jZ7 hZ7A ⊢
        have hZ7U : zU [0, 2, 3, 4, 5, 6, 7, 8, 9] Z Z7 := zU_t zU_r jZ7 (zU_b1 (List.Mem.head _) (zU_b1 (List.Mem.tail _ (List.Mem.head _)) (zU_b1 (List.Mem.tail _ (List.Mem.tail _ (List.Mem.head _))) (zU_b1 (List.Mem.tail _ (List.Mem.tail _ (List.Mem.tail _ (List.Mem.head _)))) (zU_b1 (List.Mem.tail _ (List.Mem.tail _ (List.Mem.tail _ (List.Mem.tail _ (List.Mem.head _))))) (zU_b1 (List.Mem.tail _ (List.Mem.tail _ (List.Mem.tail _ (List.Mem.tail _ (List.Mem.tail _ (List.Mem.head _)))))) (zU_b1 (List.Mem.tail _ (List.Mem.tail _ (List.Mem.tail _ (List.Mem.tail _ (List.Mem.tail _ (List.Mem.tail _ (List.Mem.head _))))))) (zU_b1 (List.Mem.tail _ (List.Mem.tail _ (List.Mem.tail _ (List.Mem.tail _ (List.Mem.tail _ (List.Mem.tail _ (List.Mem.tail _ (List.Mem.head _)))))))) (zU_b1 (List.Mem.tail _ (List.Mem.tail _ (List.Mem.tail _ (List.Mem.tail _ (List.Mem.tail _ (List.Mem.tail _ (List.Mem.tail _ (List.Mem.tail _ (List.Mem.head _))))))))) zU_b0)))))))))
        replace hP := zl_e hP hZ7
        have hZ7K : zC [3, 12, 13, 14, 40, 41, 42, 43, 44, 45, 46, 47, 48, 49, 50, 51, 52, 53, 54, 61, 68, 1099, 1100, 1101, 1102, 1103, 1104, 1105, 1106, 1107, 1108, 1109, 1110, 1111, 1112, 1113, 1114, 1115, 1116] Z Z7 := zC_t zC_r kZ7 (by decide)
        clear kZ7 hZ7
        refine fw_121 _ _ _ _ ?_
        refine wz_i1 rfl ?_
        refine wz_i0 (i3O (n := 7) (show (0 : Int32) = i3 0 from rfl) (by omega) (by omega) (by omega)) ?_
        refine wz_i0 (Eq.trans (i3To (Eq.trans (zm_rd (Z := Z7) (ν := ν) (k := 68) (show ((0 : Nat) : Int) = 0 from rfl) (show ((0 : Nat) : Int) = 0 from rfl) (show ((0 : Nat) : Int) = 0 from rfl)) (congrArg i3 ((hZ7A.1)))) (by omega) (by omega)) (decide_eq_false (by omega))) ?_
        refine wz_i0 (Eq.trans (i3T (Eq.trans (zm_rd (Z := Z7) (ν := ν) (k := 68) (show ((0 : Nat) : Int) = 0 from rfl) (show ((0 : Nat) : Int) = 0 from rfl) (show ((0 : Nat) : Int) = 0 from rfl)) (congrArg i3 ((hZ7A.1)))) (by omega) (by omega)) (decide_eq_false (by omega))) ?_
        refine wz_i1 (Eq.trans (i3T (Eq.trans (zm_rd (Z := Z7) (ν := ν) (k := 68) (show ((0 : Nat) : Int) = 0 from rfl) (show ((0 : Nat) : Int) = 0 from rfl) (show ((0 : Nat) : Int) = 0 from rfl)) (congrArg i3 ((hZ7A.1)))) (by omega) (by omega)) (decide_eq_true (by omega))) ?_
        refine wz_i1 rfl ?_
        refine wz_i0 (i3O (n := 7) (show (1 : Int32) = i3 1 from rfl) (by omega) (by omega) (by omega)) ?_
        refine wz_i1 rfl ?_
        refine wz_i0 (i3O (n := 7) (show (2 : Int32) = i3 2 from rfl) (by omega) (by omega) (by omega)) ?_
        have r8 := zH_k hZ7I 11 0 0 1 (lo := 0) (hi := 6) (by decide) rfl
        have q9 := dZ7 (k := 11) (i := 0) (j := 1) (by decide) (by omega)
        refine wz_i0 (i3O (n := 6) (zm_rd (Z := Z7) (ν := ν) (k := 11) (show ((0 : Nat) : Int) = 0 from rfl) (show ((0 : Nat) : Int) = 0 from rfl) (show ((1 : Nat) : Int) = 1 from rfl)) (by omega) (by omega) (by omega)) ?_
        obtain ⟨Z10, hZ10⟩ := zx (zu Z7 42 0 (Z7 11 0 0 1) 0 a1)
        replace hP := zl_e hP hZ10
        have hZ10I := zH_u hZ7I hZ10 (lo := 0) (hi := 25) (by decide) rfl (by omega) ⟨by decide, by decide⟩ (Or.inl (by decide)) rfl
        have hZ10U : zU [0, 2, 3, 4, 5, 6, 7, 8, 9] Z Z10 := zU_u hZ7U hZ10 (Or.inr (List.Mem.head _))
        have hZ10K : zC [3, 12, 13, 14, 40, 41, 42, 43, 44, 45, 46, 47, 48, 49, 50, 51, 52, 53, 54, 61, 68, 1099, 1100, 1101, 1102, 1103, 1104, 1105, 1106, 1107, 1108, 1109, 1110, 1111, 1112, 1113, 1114, 1115, 1116] Z Z10 := zC_u hZ7K hZ10 (by decide)
        intro μ9 e9
        replace e9 := e9.trans (zm_wI (Z := Z7) (ν := ν) hZ10 (show ((0 : Nat) : Int) = 0 from rfl) (i3I (y := (Z7 11 0 0 1)) (zm_rd (Z := Z7) (ν := ν) (k := 11) (show ((0 : Nat) : Int) = 0 from rfl) (show ((0 : Nat) : Int) = 0 from rfl) (show ((1 : Nat) : Int) = 1 from rfl)) (by omega) (by omega) (by omega)) (show ((0 : Nat) : Int) = 0 from rfl) (Eq.trans (zm_rd (Z := Z7) (ν := ν) (k := 68) (show ((0 : Nat) : Int) = 0 from rfl) (show ((0 : Nat) : Int) = 0 from rfl) (show ((1 : Nat) : Int) = 1 from rfl)) (congrArg i3 ((hZ7A.2.1)))))
        subst e9
        obtain ⟨Z11, hZ11⟩ := zx (zu Z10 42 0 (Z7 11 0 0 1) 1 a2)
        replace hP := zl_e hP hZ11
        have hZ11I := zH_u hZ10I hZ11 (lo := 0) (hi := 9) (by decide) rfl (by omega) ⟨by decide, by decide⟩ (Or.inl (by decide)) rfl
        have hZ11U : zU [0, 2, 3, 4, 5, 6, 7, 8, 9] Z Z11 := zU_u hZ10U hZ11 (Or.inr (List.Mem.head _))
        have hZ11K : zC [3, 12, 13, 14, 40, 41, 42, 43, 44, 45, 46, 47, 48, 49, 50, 51, 52, 53, 54, 61, 68, 1099, 1100, 1101, 1102, 1103, 1104, 1105, 1106, 1107, 1108, 1109, 1110, 1111, 1112, 1113, 1114, 1115, 1116] Z Z11 := zC_u hZ10K hZ11 (by decide)
        intro μ9 e9
        replace e9 := e9.trans (zm_wI (Z := Z10) (ν := ν) hZ11 (show ((0 : Nat) : Int) = 0 from rfl) (i3I (y := (Z7 11 0 0 1)) (zm_rd (Z := Z7) (ν := ν) (k := 11) (show ((0 : Nat) : Int) = 0 from rfl) (show ((0 : Nat) : Int) = 0 from rfl) (show ((1 : Nat) : Int) = 1 from rfl)) (by omega) (by omega) (by omega)) (show ((1 : Nat) : Int) = 1 from rfl) (Eq.trans (zm_rd (Z := Z7) (ν := ν) (k := 68) (show ((0 : Nat) : Int) = 0 from rfl) (show ((0 : Nat) : Int) = 0 from rfl) (show ((2 : Nat) : Int) = 2 from rfl)) (congrArg i3 ((hZ7A.2.2.1)))))
        subst e9
        have r12 := zH_k hZ11I 11 0 0 1 (lo := 0) (hi := 6) (by decide) rfl
        have q13 := (zu_ne (k' := 11) (b' := 0) (i' := 0) (j' := 1) hZ11 (fun q => absurd q.1 (by decide))).trans (zu_ne (k' := 11) (b' := 0) (i' := 0) (j' := 1) hZ10 (fun q => absurd q.1 (by decide)))
        obtain ⟨Z14, hZ14⟩ := zx (zu Z11 11 0 0 1 ((Z11 11 0 0 1) + 1))
        replace hP := zl_e hP hZ14
        have hZ14I := zH_u hZ11I hZ14 (lo := 0) (hi := 6) (by decide) rfl (by omega) ⟨by decide, by decide⟩ (Or.inl (by decide)) rfl
        have hZ14U : zU [0, 2, 3, 4, 5, 6, 7, 8, 9] Z Z14 := zU_u hZ11U hZ14 (Or.inr (List.Mem.head _))
        have hZ14K : zC [3, 12, 13, 14, 40, 41, 42, 43, 44, 45, 46, 47, 48, 49, 50, 51, 52, 53, 54, 61, 68, 1099, 1100, 1101, 1102, 1103, 1104, 1105, 1106, 1107, 1108, 1109, 1110, 1111, 1112, 1113, 1114, 1115, 1116] Z Z14 := zC_u hZ11K hZ14 (by decide)
        intro μ9 e9
        replace e9 := e9.trans (zm_wI (Z := Z11) (ν := ν) hZ14 (show ((0 : Nat) : Int) = 0 from rfl) (show ((0 : Nat) : Int) = 0 from rfl) (show ((1 : Nat) : Int) = 1 from rfl) (i3A (zm_rd (Z := Z11) (ν := ν) (k := 11) (show ((0 : Nat) : Int) = 0 from rfl) (show ((0 : Nat) : Int) = 0 from rfl) (show ((1 : Nat) : Int) = 1 from rfl)) (show (1 : Int32) = i3 1 from rfl)))
        subst e9
        exact zlG hP (zm_rd (Z := Z11) (ν := ν) (k := 11) (show ((0 : Nat) : Int) = 0 from rfl) (show ((0 : Nat) : Int) = 0 from rfl) (show ((1 : Nat) : Int) = 1 from rfl)) ⟨hZ14I, hZ14K, hZ14U, zG_w zG_r (Nat.le_of_ble_eq_true rfl) (Nat.le_of_ble_eq_true rfl)⟩
    · replace hP := zE_n hP h2
      exact zlGe (E := 12) hP ⟨hZ, zC_r, zU_r, zG_w (zG_k rfl) (Nat.le_of_ble_eq_true rfl) (Nat.le_of_ble_eq_true rfl)⟩
  · replace hP := zE_n hP h1
    exact zlGe (E := 12) hP ⟨hZ, zC_r, zU_r, zG_w (zG_k rfl) (Nat.le_of_ble_eq_true rfl) (Nat.le_of_ble_eq_true rfl)⟩
/- yX5_soldOf -/
def zl_103_1 (x0b : Int) (x1 : Int) : Nat → qz_Z → Int → Int → Int × Int
  | 0, Z, x2, x3 => (x2, x3)
  | m + 1, Z, x2, x3 => (if (Z 11 x0b 0 6) ≤ x3 then (x2, x3) else (if (Z 47 x0b x3 0) ≠ x1 then zl_103_1 x0b x1 m Z x2 (x3 + 1) else zl_103_1 x0b x1 m Z (w3 (x2 + (Z 47 x0b x3 3))) (x3 + 1)))
theorem sl_103_1 {s : zSM} {Z : qz_Z} {ν : qz_N} (hZ : zH s Z) (hM : s.2 + 0 ≤ 1000000000) (x0b : Nat) {x1 : Int} (gx1 : 0 ≤ x1 ∧ x1 ≤ 47) {x2 : Int} (gx2 : -2147483648 ≤ x2 ∧ x2 ≤ 2147483647) {x3 : Int} (gx3 : 0 ≤ x3 ∧ x3 ≤ 60) {k : wz_K} {R : wz_R} {L : qz_L} (hL : qz_fg [true, true, true, true] L = [some (.inr (.inr (some (10, x0b, 0)))), some (.inl (i3 x1)), some (.inl (i3 x2)), some (.inl (i3 x3))]) {T : Int × Int} (hP : zE T (zl_103_1 x0b x1 ((60 - x3).toNat + 1) Z x2 x3)) (hk : ∀ (L9 : qz_L) (yx2 yx3 : Int), qz_fg [false, false, true, false] L9 = [none, none, some (.inl (i3 yx2)), none] → (-2147483648 ≤ yx2 ∧ yx2 ≤ 2147483647) → (0 ≤ yx3 ∧ yx3 ≤ 60) → zE T ((yx2, yx3)) → k 0 (L9, [], zm Z ν)) : wz_loop qb_103_1 65536 k R (L, [], zm Z ν) := by
  refine wz_lp sb_103_1 (fun m x => ∃ x2 : Int, ∃ x3 : Int, qz_fg [true, true, true, true] x.1 = [some (.inr (.inr (some (10, x0b, 0)))), some (.inl (i3 x1)), some (.inl (i3 x2)), some (.inl (i3 x3))] ∧ x.2 = ([], zm Z ν) ∧ m = (60 - x3).toNat ∧ (-2147483648 ≤ x2 ∧ x2 ≤ 2147483647) ∧ (0 ≤ x3 ∧ x3 ≤ 60) ∧ zE T (zl_103_1 x0b x1 (m + 1) Z x2 x3)) ?_ 65536 ((60 - x3).toNat) _ (by omega) ⟨x2, x3, hL, rfl, rfl, gx2, gx3, hP⟩
  clear hP gx2 gx3 hL
  clear x2 x3
  rintro m ⟨L, st, μ⟩ ⟨x2, x3, hL, hx, hm, gx2, gx3, hP⟩
  cases hx
  refine fb_103_1 x0b (i3 x1) (i3 x2) (i3 x3) _ _ _ _ hL ?_
  have r1 := zH_k hZ 11 x0b 0 6 (lo := 0) (hi := 60) (by decide) rfl
  refine wz_br (i3Le (zm_rd (Z := Z) (ν := ν) (k := 11) (rfl : ((x0b : Nat) : Int) = x0b) (show ((0 : Nat) : Int) = 0 from rfl) (show ((6 : Nat) : Int) = 6 from rfl)) (rfl : i3 x3 = i3 x3) (by omega) (by omega) (by omega) (by omega)) (fun h2 => ?_) (fun h2 => ?_)
  · replace hP := zE_p hP h2
    exact hk _ _ _ (zconso rfl (zconso rfl (zconso (zvo (rfl : i3 x2 = i3 x2)) (zconso rfl rfl))))  (by omega) (by omega)  hP
  · replace hP := zE_n hP h2
    refine wz_i0 (i3O (n := 60) (rfl : i3 x3 = i3 x3) (by omega) (by omega) (by omega)) ?_
    have r3 := zH_k hZ 47 x0b x3 0 (lo := 0) (hi := 47) (by decide) rfl
    refine wz_br (i3NE (zm_rd (Z := Z) (ν := ν) (k := 47) (rfl : ((x0b : Nat) : Int) = x0b) (i3I (y := x3) (rfl : i3 x3 = i3 x3) (by omega) (by omega) (by omega)) (show ((0 : Nat) : Int) = 0 from rfl)) (rfl : i3 x1 = i3 x1) (by omega) (by omega) (by omega) (by omega)) (fun h4 => ?_) (fun h4 => ?_)
    · replace hP := zE_p hP h4
      obtain ⟨m2, rfl⟩ : ∃ m2, m = m2 + 1 := ⟨m - 1, by omega⟩
      exact wz_k1 ⟨m2, by omega, x2, (x3 + 1), (zconso rfl (zconso (zvo (rfl : i3 x1 = i3 x1)) (zconso (zvo (rfl : i3 x2 = i3 x2)) (zconso (zvo (i3A (rfl : i3 x3 = i3 x3) (show (1 : Int32) = i3 1 from rfl))) rfl)))), rfl,  by omega, by omega, by omega,  hP⟩
    · replace hP := zE_n hP h4
      refine wz_i0 (i3O (n := 60) (rfl : i3 x3 = i3 x3) (by omega) (by omega) (by omega)) ?_
      have r5 := zH_k hZ 47 x0b x3 3 (lo := 0) (hi := 40) (by decide) rfl
      have r6 := w3_r (x2 + (Z 47 x0b x3 3))
      obtain ⟨m2, rfl⟩ : ∃ m2, m = m2 + 1 := ⟨m - 1, by omega⟩
      exact wz_k1 ⟨m2, by omega, (w3 (x2 + (Z 47 x0b x3 3))), (x3 + 1), (zconso rfl (zconso (zvo (rfl : i3 x1 = i3 x1)) (zconso (zvo (i3W (i3A (rfl : i3 x2 = i3 x2) (zm_rd (Z := Z) (ν := ν) (k := 47) (rfl : ((x0b : Nat) : Int) = x0b) (i3I (y := x3) (rfl : i3 x3 = i3 x3) (by omega) (by omega) (by omega)) (show ((3 : Nat) : Int) = 3 from rfl))))) (zconso (zvo (i3A (rfl : i3 x3 = i3 x3) (show (1 : Int32) = i3 1 from rfl))) rfl)))), rfl,  by omega, by omega, by omega,  hP⟩
/- yX5_soldOf -/
def zf_103 (Z : qz_Z) (a0b : Int) (a1 : Int) : Int := (zlet2 (zl_103_1 a0b a1 61 Z 0 0) (fun y1 y2 => y1))
theorem sp_103 {s : zSM} {Z : qz_Z} {ν : qz_N} (hZ : zH s Z) (a0b : Nat) {a1 : Int} (ga1 : 0 ≤ a1 ∧ a1 ≤ 47) (hM : s.2 + 0 ≤ 1000000000) : ∃ P : Int, P = zf_103 Z a0b a1 ∧ (qf_103 [.inr (.inr (some (10, a0b, 0))), .inl (i3 a1)] (zm Z ν) = some (zm Z ν, .inl (some (.inl (i3 P)))) ∧ -2147483648 ≤ P ∧ P ≤ 2147483647) := by
  obtain ⟨P, hP⟩ := zx (zf_103 Z a0b a1)
  refine zc_R (Q := fun P => -2147483648 ≤ P ∧ P ≤ 2147483647) hP (fw_103 a0b (i3 a1) _ _ ?_)
  replace hP : zE P (zf_103 Z a0b a1) := hP
  unfold zf_103 at hP
  refine sl_103_1 (ν := ν) hZ (zbh (c := 0) (k := 0) hM (Nat.le_of_ble_eq_true rfl)) a0b (x1 := a1) (by omega) (x2 := 0) (by omega) (x3 := 0) (by omega)  (zconso rfl (zconso (zvo (rfl : i3 a1 = i3 a1)) (zconso (zvo (show (0 : Int32) = i3 0 from rfl)) (zconso (zvo (show (0 : Int32) = i3 0 from rfl)) rfl)))) rfl ?_
  intro L3 y1 y2 hL3 gy1 gy2 q9
  replace hP := zl_e2 hP (Eq.symm q9)
  clear q9
  refine fc_103_2 (i3 y1) _ _ _ _ hL3 ?_
  exact zlR hP (rfl : i3 y1 = i3 y1) ⟨by omega, by omega⟩
/- yX5_tellForGrower -/
def zf_106 (Z : qz_Z) (a0b : Int) (a1 : Int) (a2 : Int) : Int := (if a2 < 2 ∨ 7 < a2 then (Z 44 a0b a1 4) else (if a2 = 2 then 1 else (if a2 = 3 then (Z 44 a0b a1 3) else (if a2 = 4 then (zlet (zf_103 Z a0b a1) (fun v7 => v7)) else (if a2 = 5 then (Z 44 a0b a1 6) else (if a2 = 6 then (if (Z 44 a0b a1 10) = 0 then 1 else (if (Z 44 a0b a1 10) ≠ 1 then 0 else 1)) else (if (Z 44 a0b a1 10) = 0 then (if (Z 44 a0b a1 9) ≠ (-1) then 0 else 1) else (if (Z 44 a0b a1 10) ≠ 1 then 0 else (if (Z 44 a0b a1 9) ≠ (-1) then 0 else 1)))))))))
theorem sp_106 {s : zSM} {Z : qz_Z} {ν : qz_N} (hZ : zH s Z) (a0b : Nat) {a1 : Int} (ga1 : 0 ≤ a1 ∧ a1 ≤ 47) {a2 : Int} (ga2 : 2 ≤ a2 ∧ a2 ≤ 8) (hM : s.2 + 0 ≤ 1000000000) : ∃ P : Int, P = zf_106 Z a0b a1 a2 ∧ (qf_106 [.inr (.inr (some (10, a0b, 0))), .inl (i3 a1), .inl (i3 a2)] (zm Z ν) = some (zm Z ν, .inl (some (.inl (i3 P)))) ∧ -2147483648 ≤ P ∧ P ≤ 2147483647) := by
  obtain ⟨P, hP⟩ := zx (zf_106 Z a0b a1 a2)
  refine zc_R (Q := fun P => -2147483648 ≤ P ∧ P ≤ 2147483647) hP (fw_106 a0b (i3 a1) (i3 a2) _ _ ?_)
  replace hP : zE P (zf_106 Z a0b a1 a2) := hP
  unfold zf_106 at hP
  refine wz_i0 (i3O (n := 48) (rfl : i3 a1 = i3 a1) (by omega) (by omega) (by omega)) ?_
  refine wz_br (i3To (rfl : i3 a2 = i3 a2) (by omega) (by omega)) (fun h1 => ?_) (fun h1 => ?_)
  · replace hP := zE_p hP h1
    have r2 := zH_k hZ 44 a0b a1 4 (lo := 0) (hi := 40) (by decide) rfl
    exact zlR hP (zm_rd (Z := Z) (ν := ν) (k := 44) (rfl : ((a0b : Nat) : Int) = a0b) (i3I (y := a1) (rfl : i3 a1 = i3 a1) (by omega) (by omega) (by omega)) (show ((4 : Nat) : Int) = 4 from rfl)) ⟨by omega, by omega⟩
  · replace hP := zE_n hP h1
    refine wz_br (i3T (rfl : i3 a2 = i3 a2) (by omega) (by omega)) (fun h3 => ?_) (fun h3 => ?_)
    · replace hP := zE_p hP h3
      exact zlR hP (show (1 : Int32) = i3 1 from rfl) ⟨by omega, by omega⟩
    · replace hP := zE_n hP h3
      refine wz_br (i3T (rfl : i3 a2 = i3 a2) (by omega) (by omega)) (fun h4 => ?_) (fun h4 => ?_)
      · replace hP := zE_p hP h4
        have r5 := zH_k hZ 44 a0b a1 3 (lo := 0) (hi := 40) (by decide) rfl
        exact zlR hP (zm_rd (Z := Z) (ν := ν) (k := 44) (rfl : ((a0b : Nat) : Int) = a0b) (i3I (y := a1) (rfl : i3 a1 = i3 a1) (by omega) (by omega) (by omega)) (show ((3 : Nat) : Int) = 3 from rfl)) ⟨by omega, by omega⟩
      · replace hP := zE_n hP h4
        refine wz_br (i3T (rfl : i3 a2 = i3 a2) (by omega) (by omega)) (fun h6 => ?_) (fun h6 => ?_)
        · replace hP := zE_p hP h6
          obtain ⟨v7, hv7, c9, lv7, uv7⟩ := sp_103 (ν := ν) hZ a0b (a1 := a1) (by omega) (zbh (c := 0) (k := 0) hM (Nat.le_of_ble_eq_true rfl))
          replace hP := zl_e hP hv7
          refine wz_cI_of (zas (zcons rfl (zcons (zvi (rfl : i3 a1 = i3 a1)) rfl)) c9) ?_
          clear c9
          exact zlR hP (rfl : i3 v7 = i3 v7) ⟨by omega, by omega⟩
        · replace hP := zE_n hP h6
          refine wz_br (i3T (rfl : i3 a2 = i3 a2) (by omega) (by omega)) (fun h8 => ?_) (fun h8 => ?_)
          · replace hP := zE_p hP h8
            have r9 := zH_f hZ 44 a0b a1 6
            exact zlR hP (zm_rd (Z := Z) (ν := ν) (k := 44) (rfl : ((a0b : Nat) : Int) = a0b) (i3I (y := a1) (rfl : i3 a1 = i3 a1) (by omega) (by omega) (by omega)) (show ((6 : Nat) : Int) = 6 from rfl)) ⟨by omega, by omega⟩
          · replace hP := zE_n hP h8
            refine wz_br (i3T (rfl : i3 a2 = i3 a2) (by omega) (by omega)) (fun h10 => ?_) (fun h10 => ?_)
            · replace hP := zE_p hP h10
              have r11 := zH_k hZ 44 a0b a1 10 (lo := 0) (hi := 4) (by decide) rfl
              refine wz_br (i3E (zm_rd (Z := Z) (ν := ν) (k := 44) (rfl : ((a0b : Nat) : Int) = a0b) (i3I (y := a1) (rfl : i3 a1 = i3 a1) (by omega) (by omega) (by omega)) (show ((10 : Nat) : Int) = 10 from rfl)) (show (0 : Int32) = i3 0 from rfl) (by omega) (by omega) (by omega) (by omega)) (fun h12 => ?_) (fun h12 => ?_)
              · replace hP := zE_p hP h12
                exact zlR hP (show (1 : Int32) = i3 1 from rfl) ⟨by omega, by omega⟩
              · replace hP := zE_n hP h12
                refine wz_br (i3NE (zm_rd (Z := Z) (ν := ν) (k := 44) (rfl : ((a0b : Nat) : Int) = a0b) (i3I (y := a1) (rfl : i3 a1 = i3 a1) (by omega) (by omega) (by omega)) (show ((10 : Nat) : Int) = 10 from rfl)) (show (1 : Int32) = i3 1 from rfl) (by omega) (by omega) (by omega) (by omega)) (fun h13 => ?_) (fun h13 => ?_)
                · replace hP := zE_p hP h13
                  exact zlR hP (show (0 : Int32) = i3 0 from rfl) ⟨by omega, by omega⟩
                · replace hP := zE_n hP h13
                  exact zlR hP (show (1 : Int32) = i3 1 from rfl) ⟨by omega, by omega⟩
            · replace hP := zE_n hP h10
              refine wz_i1 (Eq.trans (i3T (rfl : i3 a2 = i3 a2) (by omega) (by omega)) (decide_eq_true (by omega))) ?_
              have r14 := zH_k hZ 44 a0b a1 10 (lo := 0) (hi := 4) (by decide) rfl
              refine wz_br (i3E (zm_rd (Z := Z) (ν := ν) (k := 44) (rfl : ((a0b : Nat) : Int) = a0b) (i3I (y := a1) (rfl : i3 a1 = i3 a1) (by omega) (by omega) (by omega)) (show ((10 : Nat) : Int) = 10 from rfl)) (show (0 : Int32) = i3 0 from rfl) (by omega) (by omega) (by omega) (by omega)) (fun h15 => ?_) (fun h15 => ?_)
              · replace hP := zE_p hP h15
                have r16 := zH_k hZ 44 a0b a1 9 (lo := -1) (hi := 3) (by decide) rfl
                refine wz_br (i3NE (zm_rd (Z := Z) (ν := ν) (k := 44) (rfl : ((a0b : Nat) : Int) = a0b) (i3I (y := a1) (rfl : i3 a1 = i3 a1) (by omega) (by omega) (by omega)) (show ((9 : Nat) : Int) = 9 from rfl)) (show (-1 : Int32) = i3 (-1) from rfl) (by omega) (by omega) (by omega) (by omega)) (fun h17 => ?_) (fun h17 => ?_)
                · replace hP := zE_p hP h17
                  exact zlR hP (show (0 : Int32) = i3 0 from rfl) ⟨by omega, by omega⟩
                · replace hP := zE_n hP h17
                  exact zlR hP (show (1 : Int32) = i3 1 from rfl) ⟨by omega, by omega⟩
              · replace hP := zE_n hP h15
                refine wz_br (i3NE (zm_rd (Z := Z) (ν := ν) (k := 44) (rfl : ((a0b : Nat) : Int) = a0b) (i3I (y := a1) (rfl : i3 a1 = i3 a1) (by omega) (by omega) (by omega)) (show ((10 : Nat) : Int) = 10 from rfl)) (show (1 : Int32) = i3 1 from rfl) (by omega) (by omega) (by omega) (by omega)) (fun h18 => ?_) (fun h18 => ?_)
                · replace hP := zE_p hP h18
                  exact zlR hP (show (0 : Int32) = i3 0 from rfl) ⟨by omega, by omega⟩
                · replace hP := zE_n hP h18
                  have r19 := zH_k hZ 44 a0b a1 9 (lo := -1) (hi := 3) (by decide) rfl
                  refine wz_br (i3NE (zm_rd (Z := Z) (ν := ν) (k := 44) (rfl : ((a0b : Nat) : Int) = a0b) (i3I (y := a1) (rfl : i3 a1 = i3 a1) (by omega) (by omega) (by omega)) (show ((9 : Nat) : Int) = 9 from rfl)) (show (-1 : Int32) = i3 (-1) from rfl) (by omega) (by omega) (by omega) (by omega)) (fun h20 => ?_) (fun h20 => ?_)
                  · replace hP := zE_p hP h20
                    exact zlR hP (show (0 : Int32) = i3 0 from rfl) ⟨by omega, by omega⟩
                  · replace hP := zE_n hP h20
                    exact zlR hP (show (1 : Int32) = i3 1 from rfl) ⟨by omega, by omega⟩
/- yX5_tellGrower -/
def zl_107_1 (x0b : Int) (x1 : Int) (x2 : Int) : Nat → qz_Z → Int → Int → Int × Int
  | 0, Z, x3, x4 => (x3, x4)
  | m + 1, Z, x3, x4 => (if (Z 11 x0b 0 3) ≤ x4 then (x3, x4) else (if (Z 44 x0b x4 0) ≠ x1 then zl_107_1 x0b x1 x2 m Z x3 (x4 + 1) else (zlet (zf_106 Z x0b x4 x2) (fun v5 => zl_107_1 x0b x1 x2 m Z (w3 (x3 + v5)) (x4 + 1)))))
theorem sl_107_1 {s : zSM} {Z : qz_Z} {ν : qz_N} (hZ : zH s Z) (hM : s.2 + 0 ≤ 1000000000) (x0b : Nat) {x1 : Int} (gx1 : 0 ≤ x1 ∧ x1 ≤ 5) {x2 : Int} (gx2 : 2 ≤ x2 ∧ x2 ≤ 8) {x3 : Int} (gx3 : -2147483648 ≤ x3 ∧ x3 ≤ 2147483647) {x4 : Int} (gx4 : 0 ≤ x4 ∧ x4 ≤ 48) {k : wz_K} {R : wz_R} {L : qz_L} (hL : qz_fg [true, true, true, true, true] L = [some (.inr (.inr (some (10, x0b, 0)))), some (.inl (i3 x1)), some (.inl (i3 x2)), some (.inl (i3 x3)), some (.inl (i3 x4))]) {T : Int × Int} (hP : zE T (zl_107_1 x0b x1 x2 ((48 - x4).toNat + 1) Z x3 x4)) (hk : ∀ (L9 : qz_L) (yx3 yx4 : Int), qz_fg [false, false, false, true, false] L9 = [none, none, none, some (.inl (i3 yx3)), none] → (-2147483648 ≤ yx3 ∧ yx3 ≤ 2147483647) → (0 ≤ yx4 ∧ yx4 ≤ 48) → zE T ((yx3, yx4)) → k 0 (L9, [], zm Z ν)) : wz_loop qb_107_1 65536 k R (L, [], zm Z ν) := by
  refine wz_lp sb_107_1 (fun m x => ∃ x3 : Int, ∃ x4 : Int, qz_fg [true, true, true, true, true] x.1 = [some (.inr (.inr (some (10, x0b, 0)))), some (.inl (i3 x1)), some (.inl (i3 x2)), some (.inl (i3 x3)), some (.inl (i3 x4))] ∧ x.2 = ([], zm Z ν) ∧ m = (48 - x4).toNat ∧ (-2147483648 ≤ x3 ∧ x3 ≤ 2147483647) ∧ (0 ≤ x4 ∧ x4 ≤ 48) ∧ zE T (zl_107_1 x0b x1 x2 (m + 1) Z x3 x4)) ?_ 65536 ((48 - x4).toNat) _ (by omega) ⟨x3, x4, hL, rfl, rfl, gx3, gx4, hP⟩
  clear hP gx3 gx4 hL
  clear x3 x4
  rintro m ⟨L, st, μ⟩ ⟨x3, x4, hL, hx, hm, gx3, gx4, hP⟩
  cases hx
  refine fb_107_1 x0b (i3 x1) (i3 x2) (i3 x3) (i3 x4) _ _ _ _ hL ?_
  have r1 := zH_k hZ 11 x0b 0 3 (lo := 0) (hi := 48) (by decide) rfl
  refine wz_br (i3Le (zm_rd (Z := Z) (ν := ν) (k := 11) (rfl : ((x0b : Nat) : Int) = x0b) (show ((0 : Nat) : Int) = 0 from rfl) (show ((3 : Nat) : Int) = 3 from rfl)) (rfl : i3 x4 = i3 x4) (by omega) (by omega) (by omega) (by omega)) (fun h2 => ?_) (fun h2 => ?_)
  · replace hP := zE_p hP h2
    exact hk _ _ _ (zconso rfl (zconso rfl (zconso rfl (zconso (zvo (rfl : i3 x3 = i3 x3)) (zconso rfl rfl)))))  (by omega) (by omega)  hP
  · replace hP := zE_n hP h2
    refine wz_i0 (i3O (n := 48) (rfl : i3 x4 = i3 x4) (by omega) (by omega) (by omega)) ?_
    have r3 := zH_k hZ 44 x0b x4 0 (lo := 0) (hi := 5) (by decide) rfl
    refine wz_br (i3NE (zm_rd (Z := Z) (ν := ν) (k := 44) (rfl : ((x0b : Nat) : Int) = x0b) (i3I (y := x4) (rfl : i3 x4 = i3 x4) (by omega) (by omega) (by omega)) (show ((0 : Nat) : Int) = 0 from rfl)) (rfl : i3 x1 = i3 x1) (by omega) (by omega) (by omega) (by omega)) (fun h4 => ?_) (fun h4 => ?_)
    · replace hP := zE_p hP h4
      obtain ⟨m2, rfl⟩ : ∃ m2, m = m2 + 1 := ⟨m - 1, by omega⟩
      exact wz_k1 ⟨m2, by omega, x3, (x4 + 1), (zconso rfl (zconso (zvo (rfl : i3 x1 = i3 x1)) (zconso (zvo (rfl : i3 x2 = i3 x2)) (zconso (zvo (rfl : i3 x3 = i3 x3)) (zconso (zvo (i3A (rfl : i3 x4 = i3 x4) (show (1 : Int32) = i3 1 from rfl))) rfl))))), rfl,  by omega, by omega, by omega,  hP⟩
    · replace hP := zE_n hP h4
      obtain ⟨v5, hv5, c9, lv5, uv5⟩ := sp_106 (ν := ν) hZ x0b (a1 := x4) (by omega) (a2 := x2) (by omega) (zbh (c := 0) (k := 0) hM (Nat.le_of_ble_eq_true rfl))
      replace hP := zl_e hP hv5
      refine wz_cI_of (zas (zcons rfl (zcons (zvi (rfl : i3 x4 = i3 x4)) (zcons (zvi (rfl : i3 x2 = i3 x2)) rfl))) c9) ?_
      clear c9
      have r6 := w3_r (x3 + v5)
      obtain ⟨m2, rfl⟩ : ∃ m2, m = m2 + 1 := ⟨m - 1, by omega⟩
      exact wz_k1 ⟨m2, by omega, (w3 (x3 + v5)), (x4 + 1), (zconso rfl (zconso (zvo (rfl : i3 x1 = i3 x1)) (zconso (zvo (rfl : i3 x2 = i3 x2)) (zconso (zvo (i3W (i3A (rfl : i3 x3 = i3 x3) (rfl : i3 v5 = i3 v5)))) (zconso (zvo (i3A (rfl : i3 x4 = i3 x4) (show (1 : Int32) = i3 1 from rfl))) rfl))))), rfl,  by omega, by omega, by omega,  hP⟩
/- yX5_tellGrower -/
def zf_107 (Z : qz_Z) (a0b : Int) (a1 : Int) (a2 : Int) : Int := (if 1 < a2 then (zlet2 (zl_107_1 a0b a1 a2 49 Z 0 0) (fun y2 y3 => y2)) else (Z 42 a0b a1 a2))
theorem sp_107 {s : zSM} {Z : qz_Z} {ν : qz_N} (hZ : zH s Z) (a0b : Nat) {a1 : Int} (ga1 : 0 ≤ a1 ∧ a1 ≤ 5) {a2 : Int} (ga2 : 0 ≤ a2 ∧ a2 ≤ 8) (hM : s.2 + 0 ≤ 1000000000) : ∃ P : Int, P = zf_107 Z a0b a1 a2 ∧ (qf_107 [.inr (.inr (some (10, a0b, 0))), .inl (i3 a1), .inl (i3 a2)] (zm Z ν) = some (zm Z ν, .inl (some (.inl (i3 P)))) ∧ -2147483648 ≤ P ∧ P ≤ 2147483647) := by
  obtain ⟨P, hP⟩ := zx (zf_107 Z a0b a1 a2)
  refine zc_R (Q := fun P => -2147483648 ≤ P ∧ P ≤ 2147483647) hP (fw_107 a0b (i3 a1) (i3 a2) _ _ ?_)
  replace hP : zE P (zf_107 Z a0b a1 a2) := hP
  unfold zf_107 at hP
  refine wz_br (i3L (show (1 : Int32) = i3 1 from rfl) (rfl : i3 a2 = i3 a2) (by omega) (by omega) (by omega) (by omega)) (fun h1 => ?_) (fun h1 => ?_)
  · replace hP := zE_p hP h1
    refine sl_107_1 (ν := ν) hZ (zbh (c := 0) (k := 0) hM (Nat.le_of_ble_eq_true rfl)) a0b (x1 := a1) (by omega) (x2 := a2) (by omega) (x3 := 0) (by omega) (x4 := 0) (by omega)  (zconso rfl (zconso (zvo (rfl : i3 a1 = i3 a1)) (zconso (zvo (rfl : i3 a2 = i3 a2)) (zconso (zvo (show (0 : Int32) = i3 0 from rfl)) (zconso (zvo (show (0 : Int32) = i3 0 from rfl)) rfl))))) rfl ?_
    intro L4 y2 y3 hL4 gy2 gy3 q9
    replace hP := zl_e2 hP (Eq.symm q9)
    clear q9
    refine fc_107_2 (i3 y2) _ _ _ _ hL4 ?_
    exact zlR hP (rfl : i3 y2 = i3 y2) ⟨by omega, by omega⟩
  · replace hP := zE_n hP h1
    refine wz_i0 (i3O (n := 6) (rfl : i3 a1 = i3 a1) (by omega) (by omega) (by omega)) ?_
    refine wz_i0 (i3O (n := 7) (rfl : i3 a2 = i3 a2) (by omega) (by omega) (by omega)) ?_
    have r5 := zH_f hZ 42 a0b a1 a2
    exact zlR hP (zm_rd (Z := Z) (ν := ν) (k := 42) (rfl : ((a0b : Nat) : Int) = a0b) (i3I (y := a1) (rfl : i3 a1 = i3 a1) (by omega) (by omega) (by omega)) (i3I (y := a2) (rfl : i3 a2 = i3 a2) (by omega) (by omega) (by omega))) ⟨by omega, by omega⟩
/- yX11_grown -/
def zx_205 (Z : qz_Z) (a1 : Int) (a2 : Int) : qz_Z × Int × Int := (if 0 ≤ a1 ∧ a1 < (Z 11 0 0 1) then (if 0 ≤ a2 ∧ a2 ≤ 8 then (zlet (zf_107 Z 0 a1 a2) (fun v4 => (Z, v4, 0))) else (Z, 0, 13)) else (Z, 0, 24))
theorem sx_205 {M : Nat} {Z : qz_Z} {ν : qz_N} (hZ : zH ((none, M) : zSM) Z) (hM : ((none, M) : zSM).2 + 0 ≤ 1000000000) {a1 : Int} (ga1 : -2147483648 ≤ a1 ∧ a1 ≤ 2147483647) {a2 : Int} (ga2 : -2147483648 ≤ a2 ∧ a2 ≤ 2147483647) : ∃ (Z1 : qz_Z) (ν1 : qz_N) (v E : Int), (Z1, v, E) = zx_205 Z a1 a2 ∧ qf_205 [.inr (.inr (some (0, 0, 0))), .inl (i3 a1), .inl (i3 a2)] (zm Z ν) = some (zm Z1 ν1, zoX v E) ∧ (fun Z1 ν1 => zH ((none, M) : zSM) Z1 ∧ zC [] Z Z1 ∧ zU [] Z Z1 ∧ zG 1 6 ν ν1) Z1 ν1 := by
  obtain ⟨P, hP⟩ := zx (zx_205 Z a1 a2)
  refine zc_G (Q := fun Z1 ν1 => zH ((none, M) : zSM) Z1 ∧ zC [] Z Z1 ∧ zU [] Z Z1 ∧ zG 1 6 ν ν1) hP (fw_205 (i3 a1) (i3 a2) _ _ ?_)
  replace hP : zE P (zx_205 Z a1 a2) := hP
  unfold zx_205 at hP
  have r1 := zH_k hZ 11 0 0 1 (lo := 0) (hi := 6) (by decide) rfl
  refine wz_thing (rfl : i3 a1 = i3 a1) (zm_rd (Z := Z) (ν := ν) (k := 11) (show ((0 : Nat) : Int) = 0 from rfl) (show ((0 : Nat) : Int) = 0 from rfl) (show ((1 : Nat) : Int) = 1 from rfl)) (by omega) (by omega) (by omega) (by omega) (fun h2 => ?_) (fun h2 => ?_)
  · replace hP := zE_p hP h2
    refine wz_inR (rfl : i3 a2 = i3 a2) (show (0 : Int32) = i3 0 from rfl) (show (8 : Int32) = i3 8 from rfl) (by omega) (by omega) (by omega) (by omega) (by omega) (by omega) (fun h3 => ?_) (fun h3 => ?_)
    · replace hP := zE_p hP h3
      obtain ⟨v4, hv4, c9, lv4, uv4⟩ := sp_107 (ν := ν) hZ 0 (a1 := a1) (by omega) (a2 := a2) (by omega) (zbh (c := 0) (k := 0) hM (Nat.le_of_ble_eq_true rfl))
      replace hP := zl_e hP hv4
      refine wz_cI_of (zas (zcons rfl (zcons (zvi (rfl : i3 a1 = i3 a1)) (zcons (zvi (rfl : i3 a2 = i3 a2)) rfl))) c9) ?_
      clear c9
      exact zlG hP (rfl : i3 v4 = i3 v4) ⟨hZ, zC_r, zU_r, zG_w zG_r (Nat.le_of_ble_eq_true rfl) (Nat.le_of_ble_eq_true rfl)⟩
    · replace hP := zE_n hP h3
      exact zlGe (E := 12) hP ⟨hZ, zC_r, zU_r, zG_w (zG_k rfl) (Nat.le_of_ble_eq_true rfl) (Nat.le_of_ble_eq_true rfl)⟩
  · replace hP := zE_n hP h2
    exact zlGe (E := 23) hP ⟨hZ, zC_r, zU_r, zG_w (zG_k rfl) (Nat.le_of_ble_eq_true rfl) (Nat.le_of_ble_eq_true rfl)⟩
/- yX11_hand -/
def zx_206 (Z : qz_Z) (a1 : Int) (a2 : Int) : qz_Z × Int × Int := (if 0 ≤ a1 ∧ a1 < (Z 11 0 0 7) then (if 0 ≤ a2 ∧ a2 ≤ 12 then (if a2 ≠ 12 then (Z, (Z 48 0 a1 a2), 0) else (if (((Z 11 0 0 13) % 24) - (Z 48 0 a1 0)) < 0 then (Z, 0, 0) else (if (Z 48 0 a1 1) ≤ (((Z 11 0 0 13) % 24) - (Z 48 0 a1 0)) then (Z, 0, 0) else (Z, 1, 0)))) else (Z, 0, 13)) else (Z, 0, 24))
theorem sx_206 {M : Nat} {Z : qz_Z} {ν : qz_N} (hZ : zH ((none, M) : zSM) Z) (hM : ((none, M) : zSM).2 + 0 ≤ 1000000000) {a1 : Int} (ga1 : -2147483648 ≤ a1 ∧ a1 ≤ 2147483647) {a2 : Int} (ga2 : -2147483648 ≤ a2 ∧ a2 ≤ 2147483647) : ∃ (Z1 : qz_Z) (ν1 : qz_N) (v E : Int), (Z1, v, E) = zx_206 Z a1 a2 ∧ qf_206 [.inr (.inr (some (0, 0, 0))), .inl (i3 a1), .inl (i3 a2)] (zm Z ν) = some (zm Z1 ν1, zoX v E) ∧ (fun Z1 ν1 => zH ((none, M) : zSM) Z1 ∧ zC [] Z Z1 ∧ zU [] Z Z1 ∧ zG 1 6 ν ν1) Z1 ν1 := by
  obtain ⟨P, hP⟩ := zx (zx_206 Z a1 a2)
  refine zc_G (Q := fun Z1 ν1 => zH ((none, M) : zSM) Z1 ∧ zC [] Z Z1 ∧ zU [] Z Z1 ∧ zG 1 6 ν ν1) hP (fw_206 (i3 a1) (i3 a2) _ _ ?_)
  replace hP : zE P (zx_206 Z a1 a2) := hP
  unfold zx_206 at hP
  have r1 := zH_k hZ 11 0 0 7 (lo := 0) (hi := 2) (by decide) rfl
  refine wz_thing (rfl : i3 a1 = i3 a1) (zm_rd (Z := Z) (ν := ν) (k := 11) (show ((0 : Nat) : Int) = 0 from rfl) (show ((0 : Nat) : Int) = 0 from rfl) (show ((7 : Nat) : Int) = 7 from rfl)) (by omega) (by omega) (by omega) (by omega) (fun h2 => ?_) (fun h2 => ?_)
  · replace hP := zE_p hP h2
    refine wz_inR (rfl : i3 a2 = i3 a2) (show (0 : Int32) = i3 0 from rfl) (show (12 : Int32) = i3 12 from rfl) (by omega) (by omega) (by omega) (by omega) (by omega) (by omega) (fun h3 => ?_) (fun h3 => ?_)
    · replace hP := zE_p hP h3
      refine wz_br (i3NE (rfl : i3 a2 = i3 a2) (show (12 : Int32) = i3 12 from rfl) (by omega) (by omega) (by omega) (by omega)) (fun h4 => ?_) (fun h4 => ?_)
      · replace hP := zE_p hP h4
        refine wz_i0 (i3O (n := 2) (rfl : i3 a1 = i3 a1) (by omega) (by omega) (by omega)) ?_
        refine wz_i0 (i3O (n := 12) (rfl : i3 a2 = i3 a2) (by omega) (by omega) (by omega)) ?_
        have r5 := zH_f hZ 48 0 a1 a2
        exact zlG hP (zm_rd (Z := Z) (ν := ν) (k := 48) (show ((0 : Nat) : Int) = 0 from rfl) (i3I (y := a1) (rfl : i3 a1 = i3 a1) (by omega) (by omega) (by omega)) (i3I (y := a2) (rfl : i3 a2 = i3 a2) (by omega) (by omega) (by omega))) ⟨hZ, zC_r, zU_r, zG_w zG_r (Nat.le_of_ble_eq_true rfl) (Nat.le_of_ble_eq_true rfl)⟩
      · replace hP := zE_n hP h4
        refine wz_i0 (i3O (n := 2) (rfl : i3 a1 = i3 a1) (by omega) (by omega) (by omega)) ?_
        have r6 := zH_k hZ 11 0 0 13 (lo := 0) (hi := 671) (by decide) rfl
        have r7 := zH_k hZ 48 0 a1 0 (lo := 0) (hi := 23) (by decide) rfl
        refine wz_br (i3L (i3S (i3R (zm_rd (Z := Z) (ν := ν) (k := 11) (show ((0 : Nat) : Int) = 0 from rfl) (show ((0 : Nat) : Int) = 0 from rfl) (show ((13 : Nat) : Int) = 13 from rfl)) (show (24 : Int32) = i3 24 from rfl) (by omega) (by omega) (by omega) (by omega)) (zm_rd (Z := Z) (ν := ν) (k := 48) (show ((0 : Nat) : Int) = 0 from rfl) (i3I (y := a1) (rfl : i3 a1 = i3 a1) (by omega) (by omega) (by omega)) (show ((0 : Nat) : Int) = 0 from rfl))) (show (0 : Int32) = i3 0 from rfl) (by omega) (by omega) (by omega) (by omega)) (fun h8 => ?_) (fun h8 => ?_)
        · replace hP := zE_p hP h8
          exact zlG hP (show (0 : Int32) = i3 0 from rfl) ⟨hZ, zC_r, zU_r, zG_w zG_r (Nat.le_of_ble_eq_true rfl) (Nat.le_of_ble_eq_true rfl)⟩
        · replace hP := zE_n hP h8
          refine wz_i0 (i3O (n := 2) (rfl : i3 a1 = i3 a1) (by omega) (by omega) (by omega)) ?_
          have r9 := zH_k hZ 48 0 a1 1 (lo := 0) (hi := 6) (by decide) rfl
          refine wz_br (i3Le (zm_rd (Z := Z) (ν := ν) (k := 48) (show ((0 : Nat) : Int) = 0 from rfl) (i3I (y := a1) (rfl : i3 a1 = i3 a1) (by omega) (by omega) (by omega)) (show ((1 : Nat) : Int) = 1 from rfl)) (i3S (i3R (zm_rd (Z := Z) (ν := ν) (k := 11) (show ((0 : Nat) : Int) = 0 from rfl) (show ((0 : Nat) : Int) = 0 from rfl) (show ((13 : Nat) : Int) = 13 from rfl)) (show (24 : Int32) = i3 24 from rfl) (by omega) (by omega) (by omega) (by omega)) (zm_rd (Z := Z) (ν := ν) (k := 48) (show ((0 : Nat) : Int) = 0 from rfl) (i3I (y := a1) (rfl : i3 a1 = i3 a1) (by omega) (by omega) (by omega)) (show ((0 : Nat) : Int) = 0 from rfl))) (by omega) (by omega) (by omega) (by omega)) (fun h10 => ?_) (fun h10 => ?_)
          · replace hP := zE_p hP h10
            exact zlG hP (show (0 : Int32) = i3 0 from rfl) ⟨hZ, zC_r, zU_r, zG_w zG_r (Nat.le_of_ble_eq_true rfl) (Nat.le_of_ble_eq_true rfl)⟩
          · replace hP := zE_n hP h10
            exact zlG hP (show (1 : Int32) = i3 1 from rfl) ⟨hZ, zC_r, zU_r, zG_w zG_r (Nat.le_of_ble_eq_true rfl) (Nat.le_of_ble_eq_true rfl)⟩
    · replace hP := zE_n hP h3
      exact zlGe (E := 12) hP ⟨hZ, zC_r, zU_r, zG_w (zG_k rfl) (Nat.le_of_ble_eq_true rfl) (Nat.le_of_ble_eq_true rfl)⟩
  · replace hP := zE_n hP h2
    exact zlGe (E := 23) hP ⟨hZ, zC_r, zU_r, zG_w (zG_k rfl) (Nat.le_of_ble_eq_true rfl) (Nat.le_of_ble_eq_true rfl)⟩
/- yX2_nextDue -/
def zl_52_1 (x0b : Int) (x1b : Int) (x1ij : Int) : Nat → qz_Z → Int → Int → Int × Int
  | 0, Z, x2, x3 => (x2, x3)
  | m + 1, Z, x2, x3 => (if x3 < 0 then (x2, x3) else (if (Z 50 x1b x1ij (17 + x3)) ≤ (Z 11 x0b 0 13) then zl_52_1 x0b x1b x1ij m Z x2 (x3 + (-1)) else zl_52_1 x0b x1b x1ij m Z (Z 50 x1b x1ij (12 + x3)) (x3 + (-1))))
theorem sl_52_1 {s : zSM} {Z : qz_Z} {ν : qz_N} (hZ : zH s Z) (hM : s.2 + 0 ≤ 1000000000) (x0b : Nat) (x1b : Nat) (x1i : Nat) {x1ij : Int} (ex1i : (x1i : Int) = x1ij) (gx1ij : 0 ≤ x1ij ∧ x1ij ≤ 3) {x2 : Int} (gx2 : -1 ≤ x2 ∧ x2 ≤ 5) {x3 : Int} (gx3 : -1 ≤ x3 ∧ x3 ≤ 4) {k : wz_K} {R : wz_R} {L : qz_L} (hL : qz_fg [true, true, true, true] L = [some (.inr (.inr (some (10, x0b, 0)))), some (.inr (.inr (some (50, x1b, x1i)))), some (.inl (i3 x2)), some (.inl (i3 x3))]) {T : Int × Int} (hP : zE T (zl_52_1 x0b x1b x1ij ((x3 - (-1)).toNat + 1) Z x2 x3)) (hk : ∀ (L9 : qz_L) (yx2 yx3 : Int), qz_fg [false, false, true, false] L9 = [none, none, some (.inl (i3 yx2)), none] → (-1 ≤ yx2 ∧ yx2 ≤ 5) → (-1 ≤ yx3 ∧ yx3 ≤ 4) → zE T ((yx2, yx3)) → k 0 (L9, [], zm Z ν)) : wz_loop qb_52_1 65536 k R (L, [], zm Z ν) := by
  refine wz_lp sb_52_1 (fun m x => ∃ x2 : Int, ∃ x3 : Int, qz_fg [true, true, true, true] x.1 = [some (.inr (.inr (some (10, x0b, 0)))), some (.inr (.inr (some (50, x1b, x1i)))), some (.inl (i3 x2)), some (.inl (i3 x3))] ∧ x.2 = ([], zm Z ν) ∧ m = (x3 - (-1)).toNat ∧ (-1 ≤ x2 ∧ x2 ≤ 5) ∧ (-1 ≤ x3 ∧ x3 ≤ 4) ∧ zE T (zl_52_1 x0b x1b x1ij (m + 1) Z x2 x3)) ?_ 65536 ((x3 - (-1)).toNat) _ (by omega) ⟨x2, x3, hL, rfl, rfl, gx2, gx3, hP⟩
  clear hP gx2 gx3 hL
  clear x2 x3
  rintro m ⟨L, st, μ⟩ ⟨x2, x3, hL, hx, hm, gx2, gx3, hP⟩
  cases hx
  refine fb_52_1 x0b x1b x1i (i3 x2) (i3 x3) _ _ _ _ hL ?_
  refine wz_br (i3L (rfl : i3 x3 = i3 x3) (show (0 : Int32) = i3 0 from rfl) (by omega) (by omega) (by omega) (by omega)) (fun h1 => ?_) (fun h1 => ?_)
  · replace hP := zE_p hP h1
    exact hk _ _ _ (zconso rfl (zconso rfl (zconso (zvo (rfl : i3 x2 = i3 x2)) (zconso rfl rfl))))  (by omega) (by omega)  hP
  · replace hP := zE_n hP h1
    refine wz_i0 (i3O (n := 22) (i3A (show (17 : Int32) = i3 17 from rfl) (rfl : i3 x3 = i3 x3)) (by omega) (by omega) (by omega)) ?_
    have r2 := zH_k hZ 50 x1b x1ij (17 + x3) (lo := -1) (hi := 743) (by decide) (zrn_of (lo := 17) (n := 5) (by decide) (by decide +kernel) (by omega) (by omega))
    have r3 := zH_k hZ 11 x0b 0 13 (lo := 0) (hi := 671) (by decide) rfl
    refine wz_br (i3Le (zm_rd (Z := Z) (ν := ν) (k := 50) (rfl : ((x1b : Nat) : Int) = x1b) ex1i (i3I (y := (17 + x3)) (i3A (show (17 : Int32) = i3 17 from rfl) (rfl : i3 x3 = i3 x3)) (by omega) (by omega) (by omega))) (zm_rd (Z := Z) (ν := ν) (k := 11) (rfl : ((x0b : Nat) : Int) = x0b) (show ((0 : Nat) : Int) = 0 from rfl) (show ((13 : Nat) : Int) = 13 from rfl)) (by omega) (by omega) (by omega) (by omega)) (fun h4 => ?_) (fun h4 => ?_)
    · replace hP := zE_p hP h4
      obtain ⟨m2, rfl⟩ : ∃ m2, m = m2 + 1 := ⟨m - 1, by omega⟩
      exact wz_k1 ⟨m2, by omega, x2, (x3 + (-1)), (zconso rfl (zconso rfl (zconso (zvo (rfl : i3 x2 = i3 x2)) (zconso (zvo (i3A (rfl : i3 x3 = i3 x3) (show (-1 : Int32) = i3 (-1) from rfl))) rfl)))), rfl,  by omega, by omega, by omega,  hP⟩
    · replace hP := zE_n hP h4
      refine wz_i0 (i3O (n := 22) (i3A (show (12 : Int32) = i3 12 from rfl) (rfl : i3 x3 = i3 x3)) (by omega) (by omega) (by omega)) ?_
      have r5 := zH_k hZ 50 x1b x1ij (12 + x3) (lo := -1) (hi := 4) (by decide) (zrn_of (lo := 12) (n := 5) (by decide) (by decide +kernel) (by omega) (by omega))
      obtain ⟨m2, rfl⟩ : ∃ m2, m = m2 + 1 := ⟨m - 1, by omega⟩
      exact wz_k1 ⟨m2, by omega, (Z 50 x1b x1ij (12 + x3)), (x3 + (-1)), (zconso rfl (zconso rfl (zconso (zvo (zm_rd (Z := Z) (ν := ν) (k := 50) (rfl : ((x1b : Nat) : Int) = x1b) ex1i (i3I (y := (12 + x3)) (i3A (show (12 : Int32) = i3 12 from rfl) (rfl : i3 x3 = i3 x3)) (by omega) (by omega) (by omega)))) (zconso (zvo (i3A (rfl : i3 x3 = i3 x3) (show (-1 : Int32) = i3 (-1) from rfl))) rfl)))), rfl,  by omega, by omega, by omega,  hP⟩
/- yX2_nextDue -/
def zf_52 (Z : qz_Z) (a0b : Int) (a1b : Int) (a1ij : Int) : Int := (zlet2 (zl_52_1 a0b a1b a1ij 6 Z 5 4) (fun y1 y2 => y1))
theorem sp_52 {s : zSM} {Z : qz_Z} {ν : qz_N} (hZ : zH s Z) (a0b : Nat) (a1b : Nat) (a1i : Nat) {a1ij : Int} (ea1i : (a1i : Int) = a1ij) (ga1i : 0 ≤ a1ij ∧ a1ij ≤ 3) (hM : s.2 + 0 ≤ 1000000000) : ∃ P : Int, P = zf_52 Z a0b a1b a1ij ∧ (qf_52 [.inr (.inr (some (10, a0b, 0))), .inr (.inr (some (50, a1b, a1i)))] (zm Z ν) = some (zm Z ν, .inl (some (.inl (i3 P)))) ∧ -1 ≤ P ∧ P ≤ 5) := by
  obtain ⟨P, hP⟩ := zx (zf_52 Z a0b a1b a1ij)
  refine zc_R (Q := fun P => -1 ≤ P ∧ P ≤ 5) hP (fw_52 a0b a1b a1i _ _ ?_)
  replace hP : zE P (zf_52 Z a0b a1b a1ij) := hP
  unfold zf_52 at hP
  refine sl_52_1 (ν := ν) hZ (zbh (c := 0) (k := 0) hM (Nat.le_of_ble_eq_true rfl)) a0b a1b _ ea1i (by omega) (x2 := 5) (by omega) (x3 := 4) (by omega)  (zconso rfl (zconso rfl (zconso (zvo (show (5 : Int32) = i3 5 from rfl)) (zconso (zvo (show (4 : Int32) = i3 4 from rfl)) rfl)))) rfl ?_
  intro L3 y1 y2 hL3 gy1 gy2 q9
  replace hP := zl_e2 hP (Eq.symm q9)
  clear q9
  refine fc_52_2 (i3 y1) _ _ _ _ hL3 ?_
  exact zlR hP (rfl : i3 y1 = i3 y1) ⟨by omega, by omega⟩
/- yX2_tellTruck -/
def zf_57 (Z : qz_Z) (n9 : Int) (a0b : Int) (a1 : Int) (a2 : Int) : qz_Z × Int × Int := (if (Z 50 a0b a1 2) ≠ 1 then (if a2 < 4 ∨ 9 < a2 then (Z, n9, (Z 50 a0b a1 a2)) else (if a2 = 4 then (zlet (zf_43 Z a0b a1) (fun v6 => (Z, n9, v6))) else (if a2 = 5 then (zlet (zf_53 Z a0b a1) (fun v8 => (Z, n9, v8))) else (if a2 = 6 then (zlet (zf_59 Z a0b a1) (fun v10 => (zlet (zzi Z n9) (fun Z11 => (zlet (n9 + 1) (fun n13 => (zlet3 (zf_1056 Z11 n13 a0b v10 n9) (fun Z14 n17 v15 => (Z14, n17, v15))))))))) else (if a2 = 7 then (Z, n9, (Z 50 a0b a1 a2)) else (if a2 = 8 then (Z, n9, (Z 50 a0b a1 a2)) else (Z, n9, (-1)))))))) else (if a2 < 4 ∨ 9 < a2 then (Z, n9, (Z 50 a0b a1 a2)) else (if a2 = 4 then (zlet (zf_43 Z a0b a1) (fun v25 => (Z, n9, v25))) else (if a2 = 5 then (zlet (zf_53 Z a0b a1) (fun v27 => (Z, n9, v27))) else (if a2 = 6 then (Z, n9, (Z 50 a0b a1 6)) else (if a2 = 7 then (Z, n9, (Z 50 a0b a1 a2)) else (if a2 = 8 then (Z, n9, (Z 50 a0b a1 a2)) else (zlet (zf_52 Z a0b a0b a1) (fun v34 => (Z, n9, v34))))))))))
theorem sp_57 {s : zSM} {Z : qz_Z} {ν : qz_N} (hZ : zH s Z) (hs : s.1 = none) {n9 : Nat} (hn : ν.2.2.2.1 = n9) (a0b : Nat) {a1 : Int} (ga1 : 0 ≤ a1 ∧ a1 ≤ 3) {a2 : Int} (ga2 : 0 ≤ a2 ∧ a2 ≤ 11) (hM : s.2 + 0 ≤ 1000000000) : ∃ (Z1 : qz_Z) (ν1 : qz_N) (n1 : Nat) (P : Int), (Z1, (n1 : Int), P) = zf_57 Z n9 a0b a1 a2 ∧ (qf_57 [.inr (.inr (some (10, a0b, 0))), .inl (i3 a1), .inl (i3 a2)] (zm Z ν) = some (zm Z1 ν1, .inl (some (.inl (i3 P)))) ∧ zH s Z1 ∧ zL [] [] n9 Z Z1 ∧ zU [] Z Z1 ∧ ν1.2.2.2.1 = n1 ∧ zGl 5 ν ν1 ∧ n9 ≤ n1 ∧ n1 ≤ n9 + 2 ∧ -2147483648 ≤ P ∧ P ≤ 2147483647) := by
  obtain ⟨P, hP⟩ := zx (zf_57 Z n9 a0b a1 a2)
  refine zc_Wn (Q := fun Z1 ν1 n1 P => zH s Z1 ∧ zL [] [] n9 Z Z1 ∧ zU [] Z Z1 ∧ ν1.2.2.2.1 = n1 ∧ zGl 5 ν ν1 ∧ n9 ≤ n1 ∧ n1 ≤ n9 + 2 ∧ -2147483648 ≤ P ∧ P ≤ 2147483647) hP (fw_57 a0b (i3 a1) (i3 a2) _ _ ?_)
  replace hP : zE P (zf_57 Z n9 a0b a1 a2) := hP
  unfold zf_57 at hP
  refine wz_i0 (i3O (n := 4) (rfl : i3 a1 = i3 a1) (by omega) (by omega) (by omega)) ?_
  have r1 := zH_k hZ 50 a0b a1 2 (lo := 0) (hi := 1) (by decide) rfl
  refine wz_br (i3NE (zm_rd (Z := Z) (ν := ν) (k := 50) (rfl : ((a0b : Nat) : Int) = a0b) (i3I (y := a1) (rfl : i3 a1 = i3 a1) (by omega) (by omega) (by omega)) (show ((2 : Nat) : Int) = 2 from rfl)) (show (1 : Int32) = i3 1 from rfl) (by omega) (by omega) (by omega) (by omega)) (fun h2 => ?_) (fun h2 => ?_)
  · replace hP := zE_p hP h2
    refine wz_br (i3To (rfl : i3 a2 = i3 a2) (by omega) (by omega)) (fun h3 => ?_) (fun h3 => ?_)
    · replace hP := zE_p hP h3
      refine wz_i0 (i3O (n := 22) (rfl : i3 a2 = i3 a2) (by omega) (by omega) (by omega)) ?_
      have r4 := zH_f hZ 50 a0b a1 a2
      exact zlWn hP (zm_rd (Z := Z) (ν := ν) (k := 50) (rfl : ((a0b : Nat) : Int) = a0b) (i3I (y := a1) (rfl : i3 a1 = i3 a1) (by omega) (by omega) (by omega)) (i3I (y := a2) (rfl : i3 a2 = i3 a2) (by omega) (by omega) (by omega))) ⟨hZ, zL_r, zU_r, hn, zGl_r, by omega, by omega, by omega, by omega⟩
    · replace hP := zE_n hP h3
      refine wz_br (i3T (rfl : i3 a2 = i3 a2) (by omega) (by omega)) (fun h5 => ?_) (fun h5 => ?_)
      · replace hP := zE_p hP h5
        obtain ⟨v6, hv6, c9, lv6, uv6⟩ := sp_43 (ν := ν) hZ a0b (a1 := a1) (by omega) (zbh (c := 0) (k := 0) hM (Nat.le_of_ble_eq_true rfl))
        replace hP := zl_e hP hv6
        refine wz_cI_of (zas (zcons rfl (zcons (zvi (rfl : i3 a1 = i3 a1)) rfl)) c9) ?_
        clear c9
        exact zlWn hP (rfl : i3 v6 = i3 v6) ⟨hZ, zL_r, zU_r, hn, zGl_r, by omega, by omega, by omega, by omega⟩
      · replace hP := zE_n hP h5
        refine wz_br (i3T (rfl : i3 a2 = i3 a2) (by omega) (by omega)) (fun h7 => ?_) (fun h7 => ?_)
        · replace hP := zE_p hP h7
          obtain ⟨v8, hv8, c9, lv8, uv8⟩ := sp_53 (ν := ν) hZ a0b (a1 := a1) (by omega) (zbh (c := 0) (k := 0) hM (Nat.le_of_ble_eq_true rfl))
          replace hP := zl_e hP hv8
          refine wz_cI_of (zas (zcons rfl (zcons (zvi (rfl : i3 a1 = i3 a1)) rfl)) c9) ?_
          clear c9
          exact zlWn hP (rfl : i3 v8 = i3 v8) ⟨hZ, zL_r, zU_r, hn, zGl_r, by omega, by omega, by omega, by omega⟩
        · replace hP := zE_n hP h7
          refine wz_br (i3T (rfl : i3 a2 = i3 a2) (by omega) (by omega)) (fun h9 => ?_) (fun h9 => ?_)
          · replace hP := zE_p hP h9
            obtain ⟨v10, hv10, c9, lv10, uv10⟩ := sp_59 (ν := ν) hZ a0b (a1 := a1) (by omega) (zbh (c := 0) (k := 0) hM (Nat.le_of_ble_eq_true rfl))
            replace hP := zl_e hP hv10
            refine wz_cI_of (zas (zcons rfl (zcons (zvi (rfl : i3 a1 = i3 a1)) rfl)) c9) ?_
            clear c9
            obtain ⟨Z11, hZ11⟩ := zx (zzr Z n9)
            obtain ⟨ν12, hν12⟩ := zx (nal ν 50 1 5 1 5)
            obtain ⟨n13, hn13⟩ : ∃ m : Nat, m = n9 + 1 := ⟨_, rfl⟩
            replace hP := zl_e hP (hZ11.trans zzi_e)
            replace hP := zl_e hP (show ((n13 : Nat) : Int) = ((n9 : Nat) : Int) + 1 from by omega)
            intro μ9 e9
            replace e9 := zal_e e9 hn hZ11 hν12
            subst e9
            rw [show qz_na (zm Z ν) = n9 from hn]
            have hZ11I := zH_z hZ hZ11 hs
            have hZ11K : zL [] [] n9 Z Z11 := zL_z2 zL_r (by omega) hZ11
            have hZ11U : zU [] Z Z11 := zU_z zU_r hZ11
            have hnν12 := (nal_na hn hν12).trans hn13.symm
            have hGν12 := zGl_al (K := 5) zGl_r hν12 (by decide)
            have hSν12 := zSh_new hn hν12
            have gAν12 := zA_new (lo := -1) (hi := 4) hZ11 ⟨by decide, by decide⟩
            obtain ⟨Z14, ν16, n17, v15, hv15, c9, hZ14I, kZ14, jZ14, hnν16, gν16, b1ν16, b2ν16, lv15, uv15, aZ14_a2b⟩ := sp_1056 (ν := ν12) hZ11I hs hnν12 a0b (a1 := v10) (by omega) n9 hSν12 gAν12 (zbh (c := 0) (k := 0) hM (Nat.le_of_ble_eq_true rfl))
            have hZ14U : zU [] Z Z14 := zU_t hZ11U jZ14 zU_b0
            have hZ14K : zL [] [] n9 Z Z14 := zL_t hZ11K kZ14 (by decide) (zL_b1 (Or.inr (by omega)) zL_b0) (by omega)
            replace hP := zl_e3 hP hv15
            refine wz_cI_of (zas (zcons rfl (zcons (zvi (rfl : i3 v10 = i3 v10)) (zcons rfl rfl))) c9) ?_
            clear c9 hv15
            have hGν16 := zGl_t (K := 5) hGν12 gν16
            exact zlWn hP (rfl : i3 v15 = i3 v15) ⟨hZ14I, hZ14K, hZ14U, hnν16, hGν16, by omega, by omega, by omega, by omega⟩
          · replace hP := zE_n hP h9
            refine wz_br (i3T (rfl : i3 a2 = i3 a2) (by omega) (by omega)) (fun h18 => ?_) (fun h18 => ?_)
            · replace hP := zE_p hP h18
              refine wz_i0 (i3O (n := 22) (rfl : i3 a2 = i3 a2) (by omega) (by omega) (by omega)) ?_
              have r19 := zH_k hZ 50 a0b a1 a2 (lo := -1) (hi := 671) (by decide) (zrn_of (lo := 7) (n := 1) (by decide) (by decide +kernel) (by omega) (by omega))
              exact zlWn hP (zm_rd (Z := Z) (ν := ν) (k := 50) (rfl : ((a0b : Nat) : Int) = a0b) (i3I (y := a1) (rfl : i3 a1 = i3 a1) (by omega) (by omega) (by omega)) (i3I (y := a2) (rfl : i3 a2 = i3 a2) (by omega) (by omega) (by omega))) ⟨hZ, zL_r, zU_r, hn, zGl_r, by omega, by omega, by omega, by omega⟩
            · replace hP := zE_n hP h18
              refine wz_br (i3T (rfl : i3 a2 = i3 a2) (by omega) (by omega)) (fun h20 => ?_) (fun h20 => ?_)
              · replace hP := zE_p hP h20
                refine wz_i0 (i3O (n := 22) (rfl : i3 a2 = i3 a2) (by omega) (by omega) (by omega)) ?_
                have r21 := zH_k hZ 50 a0b a1 a2 (lo := -1) (hi := 743) (by decide) (zrn_of (lo := 8) (n := 1) (by decide) (by decide +kernel) (by omega) (by omega))
                exact zlWn hP (zm_rd (Z := Z) (ν := ν) (k := 50) (rfl : ((a0b : Nat) : Int) = a0b) (i3I (y := a1) (rfl : i3 a1 = i3 a1) (by omega) (by omega) (by omega)) (i3I (y := a2) (rfl : i3 a2 = i3 a2) (by omega) (by omega) (by omega))) ⟨hZ, zL_r, zU_r, hn, zGl_r, by omega, by omega, by omega, by omega⟩
              · replace hP := zE_n hP h20
                refine wz_i1 (Eq.trans (i3T (rfl : i3 a2 = i3 a2) (by omega) (by omega)) (decide_eq_true (by omega))) ?_
                exact zlWn hP (show (-1 : Int32) = i3 (-1) from rfl) ⟨hZ, zL_r, zU_r, hn, zGl_r, by omega, by omega, by omega, by omega⟩
  · replace hP := zE_n hP h2
    refine wz_br (i3To (rfl : i3 a2 = i3 a2) (by omega) (by omega)) (fun h22 => ?_) (fun h22 => ?_)
    · replace hP := zE_p hP h22
      refine wz_i0 (i3O (n := 22) (rfl : i3 a2 = i3 a2) (by omega) (by omega) (by omega)) ?_
      have r23 := zH_f hZ 50 a0b a1 a2
      exact zlWn hP (zm_rd (Z := Z) (ν := ν) (k := 50) (rfl : ((a0b : Nat) : Int) = a0b) (i3I (y := a1) (rfl : i3 a1 = i3 a1) (by omega) (by omega) (by omega)) (i3I (y := a2) (rfl : i3 a2 = i3 a2) (by omega) (by omega) (by omega))) ⟨hZ, zL_r, zU_r, hn, zGl_r, by omega, by omega, by omega, by omega⟩
    · replace hP := zE_n hP h22
      refine wz_br (i3T (rfl : i3 a2 = i3 a2) (by omega) (by omega)) (fun h24 => ?_) (fun h24 => ?_)
      · replace hP := zE_p hP h24
        obtain ⟨v25, hv25, c9, lv25, uv25⟩ := sp_43 (ν := ν) hZ a0b (a1 := a1) (by omega) (zbh (c := 0) (k := 0) hM (Nat.le_of_ble_eq_true rfl))
        replace hP := zl_e hP hv25
        refine wz_cI_of (zas (zcons rfl (zcons (zvi (rfl : i3 a1 = i3 a1)) rfl)) c9) ?_
        clear c9
        exact zlWn hP (rfl : i3 v25 = i3 v25) ⟨hZ, zL_r, zU_r, hn, zGl_r, by omega, by omega, by omega, by omega⟩
      · replace hP := zE_n hP h24
        refine wz_br (i3T (rfl : i3 a2 = i3 a2) (by omega) (by omega)) (fun h26 => ?_) (fun h26 => ?_)
        · replace hP := zE_p hP h26
          obtain ⟨v27, hv27, c9, lv27, uv27⟩ := sp_53 (ν := ν) hZ a0b (a1 := a1) (by omega) (zbh (c := 0) (k := 0) hM (Nat.le_of_ble_eq_true rfl))
          replace hP := zl_e hP hv27
          refine wz_cI_of (zas (zcons rfl (zcons (zvi (rfl : i3 a1 = i3 a1)) rfl)) c9) ?_
          clear c9
          exact zlWn hP (rfl : i3 v27 = i3 v27) ⟨hZ, zL_r, zU_r, hn, zGl_r, by omega, by omega, by omega, by omega⟩
        · replace hP := zE_n hP h26
          refine wz_br (i3T (rfl : i3 a2 = i3 a2) (by omega) (by omega)) (fun h28 => ?_) (fun h28 => ?_)
          · replace hP := zE_p hP h28
            have r29 := zH_f hZ 50 a0b a1 6
            exact zlWn hP (zm_rd (Z := Z) (ν := ν) (k := 50) (rfl : ((a0b : Nat) : Int) = a0b) (i3I (y := a1) (rfl : i3 a1 = i3 a1) (by omega) (by omega) (by omega)) (show ((6 : Nat) : Int) = 6 from rfl)) ⟨hZ, zL_r, zU_r, hn, zGl_r, by omega, by omega, by omega, by omega⟩
          · replace hP := zE_n hP h28
            refine wz_br (i3T (rfl : i3 a2 = i3 a2) (by omega) (by omega)) (fun h30 => ?_) (fun h30 => ?_)
            · replace hP := zE_p hP h30
              refine wz_i0 (i3O (n := 22) (rfl : i3 a2 = i3 a2) (by omega) (by omega) (by omega)) ?_
              have r31 := zH_k hZ 50 a0b a1 a2 (lo := -1) (hi := 671) (by decide) (zrn_of (lo := 7) (n := 1) (by decide) (by decide +kernel) (by omega) (by omega))
              exact zlWn hP (zm_rd (Z := Z) (ν := ν) (k := 50) (rfl : ((a0b : Nat) : Int) = a0b) (i3I (y := a1) (rfl : i3 a1 = i3 a1) (by omega) (by omega) (by omega)) (i3I (y := a2) (rfl : i3 a2 = i3 a2) (by omega) (by omega) (by omega))) ⟨hZ, zL_r, zU_r, hn, zGl_r, by omega, by omega, by omega, by omega⟩
            · replace hP := zE_n hP h30
              refine wz_br (i3T (rfl : i3 a2 = i3 a2) (by omega) (by omega)) (fun h32 => ?_) (fun h32 => ?_)
              · replace hP := zE_p hP h32
                refine wz_i0 (i3O (n := 22) (rfl : i3 a2 = i3 a2) (by omega) (by omega) (by omega)) ?_
                have r33 := zH_k hZ 50 a0b a1 a2 (lo := -1) (hi := 743) (by decide) (zrn_of (lo := 8) (n := 1) (by decide) (by decide +kernel) (by omega) (by omega))
                exact zlWn hP (zm_rd (Z := Z) (ν := ν) (k := 50) (rfl : ((a0b : Nat) : Int) = a0b) (i3I (y := a1) (rfl : i3 a1 = i3 a1) (by omega) (by omega) (by omega)) (i3I (y := a2) (rfl : i3 a2 = i3 a2) (by omega) (by omega) (by omega))) ⟨hZ, zL_r, zU_r, hn, zGl_r, by omega, by omega, by omega, by omega⟩
              · replace hP := zE_n hP h32
                refine wz_i1 (Eq.trans (i3T (rfl : i3 a2 = i3 a2) (by omega) (by omega)) (decide_eq_true (by omega))) ?_
                obtain ⟨v34, hv34, c9, lv34, uv34⟩ := sp_52 (ν := ν) hZ a0b a0b _ (i3I (y := a1) (rfl : i3 a1 = i3 a1) (by omega) (by omega) (by omega)) (by omega) (zbh (c := 0) (k := 0) hM (Nat.le_of_ble_eq_true rfl))
                replace hP := zl_e hP hv34
                refine wz_cI_of (zas (zcons rfl (zcons rfl rfl)) c9) ?_
                clear c9
                exact zlWn hP (rfl : i3 v34 = i3 v34) ⟨hZ, zL_r, zU_r, hn, zGl_r, by omega, by omega, by omega, by omega⟩
/- yX11_haul -/
def zx_207 (Z : qz_Z) (n9 : Int) (a1 : Int) (a2 : Int) : qz_Z × Int × Int := (if 0 ≤ a1 ∧ a1 < (Z 11 0 0 8) then (if 0 ≤ a2 ∧ a2 ≤ 11 then (zlet3 (zf_57 Z n9 0 a1 a2) (fun Z4 n7 v5 => (Z4, v5, 0))) else (Z, 0, 13)) else (Z, 0, 24))
theorem sx_207 {M : Nat} {Z : qz_Z} {ν : qz_N} (hZ : zH ((none, M) : zSM) Z) (hM : ((none, M) : zSM).2 + 0 ≤ 1000000000) {n9 : Nat} (hn : ν.2.2.2.1 = n9) {a1 : Int} (ga1 : -2147483648 ≤ a1 ∧ a1 ≤ 2147483647) {a2 : Int} (ga2 : -2147483648 ≤ a2 ∧ a2 ≤ 2147483647) : ∃ (Z1 : qz_Z) (ν1 : qz_N) (v E : Int), (Z1, v, E) = zx_207 Z n9 a1 a2 ∧ qf_207 [.inr (.inr (some (0, 0, 0))), .inl (i3 a1), .inl (i3 a2)] (zm Z ν) = some (zm Z1 ν1, zoX v E) ∧ (fun Z1 ν1 => zH ((none, M) : zSM) Z1 ∧ zL [] [] n9 Z Z1 ∧ zU [] Z Z1 ∧ zG 2 10 ν ν1) Z1 ν1 := by
  obtain ⟨P, hP⟩ := zx (zx_207 Z n9 a1 a2)
  refine zc_G (Q := fun Z1 ν1 => zH ((none, M) : zSM) Z1 ∧ zL [] [] n9 Z Z1 ∧ zU [] Z Z1 ∧ zG 2 10 ν ν1) hP (fw_207 (i3 a1) (i3 a2) _ _ ?_)
  replace hP : zE P (zx_207 Z n9 a1 a2) := hP
  unfold zx_207 at hP
  have hs : ((none, M) : zSM).1 = none := rfl
  have r1 := zH_k hZ 11 0 0 8 (lo := 0) (hi := 4) (by decide) rfl
  refine wz_thing (rfl : i3 a1 = i3 a1) (zm_rd (Z := Z) (ν := ν) (k := 11) (show ((0 : Nat) : Int) = 0 from rfl) (show ((0 : Nat) : Int) = 0 from rfl) (show ((8 : Nat) : Int) = 8 from rfl)) (by omega) (by omega) (by omega) (by omega) (fun h2 => ?_) (fun h2 => ?_)
  · replace hP := zE_p hP h2
    refine wz_inR (rfl : i3 a2 = i3 a2) (show (0 : Int32) = i3 0 from rfl) (show (11 : Int32) = i3 11 from rfl) (by omega) (by omega) (by omega) (by omega) (by omega) (by omega) (fun h3 => ?_) (fun h3 => ?_)
    · replace hP := zE_p hP h3
      obtain ⟨Z4, ν6, n7, v5, hv5, c9, hZ4I, kZ4, jZ4, hnν6, gν6, b1ν6, b2ν6, lv5, uv5⟩ := sp_57 (ν := ν) hZ hs hn 0 (a1 := a1) (by omega) (a2 := a2) (by omega) (zbh (c := 0) (k := 0) hM (Nat.le_of_ble_eq_true rfl))
      have hZ4U : zU [] Z Z4 := zU_t zU_r jZ4 zU_b0
      have hZ4K : zL [] [] n9 Z Z4 := zL_t zL_r kZ4 (by decide) zL_b0 (by omega)
      replace hP := zl_e3 hP hv5
      refine wz_cI_of (zas (zcons rfl (zcons (zvi (rfl : i3 a1 = i3 a1)) (zcons (zvi (rfl : i3 a2 = i3 a2)) rfl))) c9) ?_
      clear c9 hv5
      have hGν6 := zGl_t (K := 5) zGl_r gν6
      exact zlG hP (rfl : i3 v5 = i3 v5) ⟨hZ4I, hZ4K, hZ4U, zGl_c (c := 2) hGν6 hn hnν6 (by omega) (Nat.le_of_ble_eq_true rfl) (Nat.le_of_ble_eq_true rfl)⟩
    · replace hP := zE_n hP h3
      exact zlGe (E := 12) hP ⟨hZ, zL_r, zU_r, zG_w (zG_k rfl) (Nat.le_of_ble_eq_true rfl) (Nat.le_of_ble_eq_true rfl)⟩
  · replace hP := zE_n hP h2
    exact zlGe (E := 23) hP ⟨hZ, zL_r, zU_r, zG_w (zG_k rfl) (Nat.le_of_ble_eq_true rfl) (Nat.le_of_ble_eq_true rfl)⟩
/- yX11_inspector -/
def zx_211 (Z : qz_Z) (a1 : Int) (a2 : Int) : qz_Z × Int × Int := (if 0 ≤ a1 ∧ a1 ≤ 18 then (if 0 ≤ a2 ∧ a2 ≤ 3 then (if 2 ≤ (Z 11 0 0 9) then (Z, 0, 15) else (zlet (zdd Z 22 a1 a2 0 0 0 0) (fun Z7 => (zlet (zu Z7 51 0 (Z7 11 0 0 9) 0 a1) (fun Z10 => (zlet (zu Z10 51 0 (Z7 11 0 0 9) 1 a2) (fun Z11 => (zlet (zu Z11 51 0 (Z7 11 0 0 9) 7 (-1)) (fun Z12 => (zlet (zu Z12 11 0 0 9 ((Z12 11 0 0 9) + 1)) (fun Z15 => (Z15, (Z12 11 0 0 9), 0)))))))))))) else (Z, 0, 13)) else (Z, 0, 13))
theorem sx_211 {M : Nat} {Z : qz_Z} {ν : qz_N} (hZ : zH ((none, M) : zSM) Z) (hM : ((none, M) : zSM).2 + 0 ≤ 1000000000) {a1 : Int} (ga1 : -2147483648 ≤ a1 ∧ a1 ≤ 2147483647) {a2 : Int} (ga2 : -2147483648 ≤ a2 ∧ a2 ≤ 2147483647) : ∃ (Z1 : qz_Z) (ν1 : qz_N) (v E : Int), (Z1, v, E) = zx_211 Z a1 a2 ∧ qf_211 [.inr (.inr (some (0, 0, 0))), .inl (i3 a1), .inl (i3 a2)] (zm Z ν) = some (zm Z1 ν1, zoX v E) ∧ (fun Z1 ν1 => zH ((none, M) : zSM) Z1 ∧ zC [3, 12, 13, 14, 40, 41, 42, 43, 44, 45, 46, 47, 48, 49, 50, 51, 52, 53, 54, 61, 68, 1099, 1100, 1101, 1102, 1103, 1104, 1105, 1106, 1107, 1108, 1109, 1110, 1111, 1112, 1113, 1114, 1115, 1116] Z Z1 ∧ zU [0, 2, 3, 4, 5, 6, 7, 8, 9] Z Z1 ∧ zG 1 6 ν ν1) Z1 ν1 := by
  obtain ⟨P, hP⟩ := zx (zx_211 Z a1 a2)
  refine zc_G (Q := fun Z1 ν1 => zH ((none, M) : zSM) Z1 ∧ zC [3, 12, 13, 14, 40, 41, 42, 43, 44, 45, 46, 47, 48, 49, 50, 51, 52, 53, 54, 61, 68, 1099, 1100, 1101, 1102, 1103, 1104, 1105, 1106, 1107, 1108, 1109, 1110, 1111, 1112, 1113, 1114, 1115, 1116] Z Z1 ∧ zU [0, 2, 3, 4, 5, 6, 7, 8, 9] Z Z1 ∧ zG 1 6 ν ν1) hP (fw_211 (i3 a1) (i3 a2) _ _ ?_)
  replace hP : zE P (zx_211 Z a1 a2) := hP
  unfold zx_211 at hP
  refine wz_inR (rfl : i3 a1 = i3 a1) (show (0 : Int32) = i3 0 from rfl) (show (18 : Int32) = i3 18 from rfl) (by omega) (by omega) (by omega) (by omega) (by omega) (by omega) (fun h1 => ?_) (fun h1 => ?_)
  · replace hP := zE_p hP h1
    refine wz_inR (rfl : i3 a2 = i3 a2) (show (0 : Int32) = i3 0 from rfl) (show (3 : Int32) = i3 3 from rfl) (by omega) (by omega) (by omega) (by omega) (by omega) (by omega) (fun h2 => ?_) (fun h2 => ?_)
    · replace hP := zE_p hP h2
      have r3 := zH_k hZ 11 0 0 9 (lo := 0) (hi := 2) (by decide) rfl
      refine wz_br (i3Le (show (2 : Int32) = i3 2 from rfl) (zm_rd (Z := Z) (ν := ν) (k := 11) (show ((0 : Nat) : Int) = 0 from rfl) (show ((0 : Nat) : Int) = 0 from rfl) (show ((9 : Nat) : Int) = 9 from rfl)) (by omega) (by omega) (by omega) (by omega)) (fun h4 => ?_) (fun h4 => ?_)
      · replace hP := zE_p hP h4
        refine wz_inT_n (show (0 : Int32) = i3 0 from rfl) (by omega) (by omega) (by omega) ?_
        exact zlGe (E := 14) hP ⟨hZ, zC_r, zU_r, zG_w (zG_k rfl) (Nat.le_of_ble_eq_true rfl) (Nat.le_of_ble_eq_true rfl)⟩
      · replace hP := zE_n hP h4
        refine wz_inT_y (show (1 : Int32) = i3 1 from rfl) (by omega) (by omega) (by omega) ?_
        refine dc_J (zcons rfl (zcons (zvi (show (22 : Int32) = i3 22 from rfl)) (zcons (zvi (rfl : i3 a1 = i3 a1)) (zcons (zvi (rfl : i3 a2 = i3 a2)) (zcons (zvi (show (0 : Int32) = i3 0 from rfl)) (zcons (zvi (show (0 : Int32) = i3 0 from rfl)) (zcons (zvi (show (0 : Int32) = i3 0 from rfl)) (zcons (zvi (show (0 : Int32) = i3 0 from rfl)) rfl)))))))) (dg (hZ).1 (by omega) (by omega) (by omega) (by omega) (by omega) (by omega) (by omega) ?_)
        have hZ7I := zH_dd hZ (a1 := 22) (a2 := a1) (a3 := a2) (a4 := 0) (a5 := 0) (a6 := 0) (a7 := 0) (by omega) (by omega) (by omega) (by omega) (by omega) (by omega) (by omega)
        have kZ7 : zC [3, 12, 13, 14, 40, 41, 42, 43, 44, 45, 46, 47, 48, 49, 50, 51, 52, 53, 54, 61, 68, 1099, 1100, 1101, 1102, 1103, 1104, 1105, 1106, 1107, 1108, 1109, 1110, 1111, 1112, 1113, 1114, 1115, 1116] Z (zdd Z 22 a1 a2 0 0 0 0) := zC_k zdd_K (by decide) (by decide)
        have hZ7A : (zdd Z 22 a1 a2 0 0 0 0) 68 0 0 0 = 22 ∧ (zdd Z 22 a1 a2 0 0 0 0) 68 0 0 1 = a1 ∧ (zdd Z 22 a1 a2 0 0 0 0) 68 0 0 2 = a2 ∧ (zdd Z 22 a1 a2 0 0 0 0) 68 0 0 3 = 0 ∧ (zdd Z 22 a1 a2 0 0 0 0) 68 0 0 4 = 0 ∧ (zdd Z 22 a1 a2 0 0 0 0) 68 0 0 5 = 0 ∧ (zdd Z 22 a1 a2 0 0 0 0) 68 0 0 6 = 0 := ⟨zdd_68, zdd_68, zdd_68, zdd_68, zdd_68, zdd_68, zdd_68⟩
        obtain ⟨Z7, hZ7⟩ := zx (zdd Z 22 a1 a2 0 0 0 0)
        have dZ7 : ∀ {k : Nat} {i j : Int}, zhall k = true → ¬ (k = 11 ∧ (j = 15 ∨ j = 16)) → Z7 k 0 i j = Z k 0 i j := fun hk hj => by rw [hZ7]; exact zdd_h (hZ).1 hk hj
        have jZ7 : zU [0, 2, 3, 4, 5, 6, 7, 8, 9] Z (zdd Z 22 a1 a2 0 0 0 0) := zU_dd (hZ).1
        rw [← hZ7] at hZ7I kZ7 jZ7 hZ7A ⊢
        have hZ7U : zU [0, 2, 3, 4, 5, 6, 7, 8, 9] Z Z7 := zU_t zU_r jZ7 (zU_b1 (List.Mem.head _) (zU_b1 (List.Mem.tail _ (List.Mem.head _)) (zU_b1 (List.Mem.tail _ (List.Mem.tail _ (List.Mem.head _))) (zU_b1 (List.Mem.tail _ (List.Mem.tail _ (List.Mem.tail _ (List.Mem.head _)))) (zU_b1 (List.Mem.tail _ (List.Mem.tail _ (List.Mem.tail _ (List.Mem.tail _ (List.Mem.head _))))) (zU_b1 (List.Mem.tail _ (List.Mem.tail _ (List.Mem.tail _ (List.Mem.tail _ (List.Mem.tail _ (List.Mem.head _)))))) (zU_b1 (List.Mem.tail _ (List.Mem.tail _ (List.Mem.tail _ (List.Mem.tail _ (List.Mem.tail _ (List.Mem.tail _ (List.Mem.head _))))))) (zU_b1 (List.Mem.tail _ (List.Mem.tail _ (List.Mem.tail _ (List.Mem.tail _ (List.Mem.tail _ (List.Mem.tail _ (List.Mem.tail _ (List.Mem.head _)))))))) (zU_b1 (List.Mem.tail _ (List.Mem.tail _ (List.Mem.tail _ (List.Mem.tail _ (List.Mem.tail _ (List.Mem.tail _ (List.Mem.tail _ (List.Mem.tail _ (List.Mem.head _))))))))) zU_b0)))))))))
        replace hP := zl_e hP hZ7
        have hZ7K : zC [3, 12, 13, 14, 40, 41, 42, 43, 44, 45, 46, 47, 48, 49, 50, 51, 52, 53, 54, 61, 68, 1099, 1100, 1101, 1102, 1103, 1104, 1105, 1106, 1107, 1108, 1109, 1110, 1111, 1112, 1113, 1114, 1115, 1116] Z Z7 := zC_t zC_r kZ7 (by decide)
        clear kZ7 hZ7
        refine fw_121 _ _ _ _ ?_
        refine wz_i1 rfl ?_
        refine wz_i0 (i3O (n := 7) (show (0 : Int32) = i3 0 from rfl) (by omega) (by omega) (by omega)) ?_
        refine wz_i0 (Eq.trans (i3To (Eq.trans (zm_rd (Z := Z7) (ν := ν) (k := 68) (show ((0 : Nat) : Int) = 0 from rfl) (show ((0 : Nat) : Int) = 0 from rfl) (show ((0 : Nat) : Int) = 0 from rfl)) (congrArg i3 ((hZ7A.1)))) (by omega) (by omega)) (decide_eq_false (by omega))) ?_
        refine wz_i0 (Eq.trans (i3T (Eq.trans (zm_rd (Z := Z7) (ν := ν) (k := 68) (show ((0 : Nat) : Int) = 0 from rfl) (show ((0 : Nat) : Int) = 0 from rfl) (show ((0 : Nat) : Int) = 0 from rfl)) (congrArg i3 ((hZ7A.1)))) (by omega) (by omega)) (decide_eq_false (by omega))) ?_
        refine wz_i0 (Eq.trans (i3T (Eq.trans (zm_rd (Z := Z7) (ν := ν) (k := 68) (show ((0 : Nat) : Int) = 0 from rfl) (show ((0 : Nat) : Int) = 0 from rfl) (show ((0 : Nat) : Int) = 0 from rfl)) (congrArg i3 ((hZ7A.1)))) (by omega) (by omega)) (decide_eq_false (by omega))) ?_
        refine wz_i0 (Eq.trans (i3T (Eq.trans (zm_rd (Z := Z7) (ν := ν) (k := 68) (show ((0 : Nat) : Int) = 0 from rfl) (show ((0 : Nat) : Int) = 0 from rfl) (show ((0 : Nat) : Int) = 0 from rfl)) (congrArg i3 ((hZ7A.1)))) (by omega) (by omega)) (decide_eq_false (by omega))) ?_
        refine wz_i0 (Eq.trans (i3T (Eq.trans (zm_rd (Z := Z7) (ν := ν) (k := 68) (show ((0 : Nat) : Int) = 0 from rfl) (show ((0 : Nat) : Int) = 0 from rfl) (show ((0 : Nat) : Int) = 0 from rfl)) (congrArg i3 ((hZ7A.1)))) (by omega) (by omega)) (decide_eq_false (by omega))) ?_
        refine wz_i0 (Eq.trans (i3T (Eq.trans (zm_rd (Z := Z7) (ν := ν) (k := 68) (show ((0 : Nat) : Int) = 0 from rfl) (show ((0 : Nat) : Int) = 0 from rfl) (show ((0 : Nat) : Int) = 0 from rfl)) (congrArg i3 ((hZ7A.1)))) (by omega) (by omega)) (decide_eq_false (by omega))) ?_
        refine wz_i0 (Eq.trans (i3T (Eq.trans (zm_rd (Z := Z7) (ν := ν) (k := 68) (show ((0 : Nat) : Int) = 0 from rfl) (show ((0 : Nat) : Int) = 0 from rfl) (show ((0 : Nat) : Int) = 0 from rfl)) (congrArg i3 ((hZ7A.1)))) (by omega) (by omega)) (decide_eq_false (by omega))) ?_
        refine wz_i0 (Eq.trans (i3T (Eq.trans (zm_rd (Z := Z7) (ν := ν) (k := 68) (show ((0 : Nat) : Int) = 0 from rfl) (show ((0 : Nat) : Int) = 0 from rfl) (show ((0 : Nat) : Int) = 0 from rfl)) (congrArg i3 ((hZ7A.1)))) (by omega) (by omega)) (decide_eq_false (by omega))) ?_
        refine wz_i0 (Eq.trans (i3T (Eq.trans (zm_rd (Z := Z7) (ν := ν) (k := 68) (show ((0 : Nat) : Int) = 0 from rfl) (show ((0 : Nat) : Int) = 0 from rfl) (show ((0 : Nat) : Int) = 0 from rfl)) (congrArg i3 ((hZ7A.1)))) (by omega) (by omega)) (decide_eq_false (by omega))) ?_
        refine wz_i0 (Eq.trans (i3T (Eq.trans (zm_rd (Z := Z7) (ν := ν) (k := 68) (show ((0 : Nat) : Int) = 0 from rfl) (show ((0 : Nat) : Int) = 0 from rfl) (show ((0 : Nat) : Int) = 0 from rfl)) (congrArg i3 ((hZ7A.1)))) (by omega) (by omega)) (decide_eq_false (by omega))) ?_
        refine wz_i0 (Eq.trans (i3T (Eq.trans (zm_rd (Z := Z7) (ν := ν) (k := 68) (show ((0 : Nat) : Int) = 0 from rfl) (show ((0 : Nat) : Int) = 0 from rfl) (show ((0 : Nat) : Int) = 0 from rfl)) (congrArg i3 ((hZ7A.1)))) (by omega) (by omega)) (decide_eq_false (by omega))) ?_
        refine wz_i0 (Eq.trans (i3T (Eq.trans (zm_rd (Z := Z7) (ν := ν) (k := 68) (show ((0 : Nat) : Int) = 0 from rfl) (show ((0 : Nat) : Int) = 0 from rfl) (show ((0 : Nat) : Int) = 0 from rfl)) (congrArg i3 ((hZ7A.1)))) (by omega) (by omega)) (decide_eq_false (by omega))) ?_
        refine wz_i0 (Eq.trans (i3T (Eq.trans (zm_rd (Z := Z7) (ν := ν) (k := 68) (show ((0 : Nat) : Int) = 0 from rfl) (show ((0 : Nat) : Int) = 0 from rfl) (show ((0 : Nat) : Int) = 0 from rfl)) (congrArg i3 ((hZ7A.1)))) (by omega) (by omega)) (decide_eq_false (by omega))) ?_
        refine wz_i0 (Eq.trans (i3T (Eq.trans (zm_rd (Z := Z7) (ν := ν) (k := 68) (show ((0 : Nat) : Int) = 0 from rfl) (show ((0 : Nat) : Int) = 0 from rfl) (show ((0 : Nat) : Int) = 0 from rfl)) (congrArg i3 ((hZ7A.1)))) (by omega) (by omega)) (decide_eq_false (by omega))) ?_
        refine wz_i0 (Eq.trans (i3T (Eq.trans (zm_rd (Z := Z7) (ν := ν) (k := 68) (show ((0 : Nat) : Int) = 0 from rfl) (show ((0 : Nat) : Int) = 0 from rfl) (show ((0 : Nat) : Int) = 0 from rfl)) (congrArg i3 ((hZ7A.1)))) (by omega) (by omega)) (decide_eq_false (by omega))) ?_
        refine wz_i0 (Eq.trans (i3T (Eq.trans (zm_rd (Z := Z7) (ν := ν) (k := 68) (show ((0 : Nat) : Int) = 0 from rfl) (show ((0 : Nat) : Int) = 0 from rfl) (show ((0 : Nat) : Int) = 0 from rfl)) (congrArg i3 ((hZ7A.1)))) (by omega) (by omega)) (decide_eq_false (by omega))) ?_
        refine wz_i0 (Eq.trans (i3T (Eq.trans (zm_rd (Z := Z7) (ν := ν) (k := 68) (show ((0 : Nat) : Int) = 0 from rfl) (show ((0 : Nat) : Int) = 0 from rfl) (show ((0 : Nat) : Int) = 0 from rfl)) (congrArg i3 ((hZ7A.1)))) (by omega) (by omega)) (decide_eq_false (by omega))) ?_
        refine wz_i0 (Eq.trans (i3T (Eq.trans (zm_rd (Z := Z7) (ν := ν) (k := 68) (show ((0 : Nat) : Int) = 0 from rfl) (show ((0 : Nat) : Int) = 0 from rfl) (show ((0 : Nat) : Int) = 0 from rfl)) (congrArg i3 ((hZ7A.1)))) (by omega) (by omega)) (decide_eq_false (by omega))) ?_
        refine wz_i0 (Eq.trans (i3T (Eq.trans (zm_rd (Z := Z7) (ν := ν) (k := 68) (show ((0 : Nat) : Int) = 0 from rfl) (show ((0 : Nat) : Int) = 0 from rfl) (show ((0 : Nat) : Int) = 0 from rfl)) (congrArg i3 ((hZ7A.1)))) (by omega) (by omega)) (decide_eq_false (by omega))) ?_
        refine wz_i0 (Eq.trans (i3T (Eq.trans (zm_rd (Z := Z7) (ν := ν) (k := 68) (show ((0 : Nat) : Int) = 0 from rfl) (show ((0 : Nat) : Int) = 0 from rfl) (show ((0 : Nat) : Int) = 0 from rfl)) (congrArg i3 ((hZ7A.1)))) (by omega) (by omega)) (decide_eq_false (by omega))) ?_
        refine wz_i0 (Eq.trans (i3T (Eq.trans (zm_rd (Z := Z7) (ν := ν) (k := 68) (show ((0 : Nat) : Int) = 0 from rfl) (show ((0 : Nat) : Int) = 0 from rfl) (show ((0 : Nat) : Int) = 0 from rfl)) (congrArg i3 ((hZ7A.1)))) (by omega) (by omega)) (decide_eq_false (by omega))) ?_
        refine wz_i0 (Eq.trans (i3T (Eq.trans (zm_rd (Z := Z7) (ν := ν) (k := 68) (show ((0 : Nat) : Int) = 0 from rfl) (show ((0 : Nat) : Int) = 0 from rfl) (show ((0 : Nat) : Int) = 0 from rfl)) (congrArg i3 ((hZ7A.1)))) (by omega) (by omega)) (decide_eq_false (by omega))) ?_
        refine wz_i0 (Eq.trans (i3T (Eq.trans (zm_rd (Z := Z7) (ν := ν) (k := 68) (show ((0 : Nat) : Int) = 0 from rfl) (show ((0 : Nat) : Int) = 0 from rfl) (show ((0 : Nat) : Int) = 0 from rfl)) (congrArg i3 ((hZ7A.1)))) (by omega) (by omega)) (decide_eq_false (by omega))) ?_
        refine wz_i1 (Eq.trans (i3T (Eq.trans (zm_rd (Z := Z7) (ν := ν) (k := 68) (show ((0 : Nat) : Int) = 0 from rfl) (show ((0 : Nat) : Int) = 0 from rfl) (show ((0 : Nat) : Int) = 0 from rfl)) (congrArg i3 ((hZ7A.1)))) (by omega) (by omega)) (decide_eq_true (by omega))) ?_
        refine wz_i1 rfl ?_
        refine wz_i0 (i3O (n := 7) (show (1 : Int32) = i3 1 from rfl) (by omega) (by omega) (by omega)) ?_
        refine wz_i1 rfl ?_
        refine wz_i0 (i3O (n := 7) (show (2 : Int32) = i3 2 from rfl) (by omega) (by omega) (by omega)) ?_
        have r8 := zH_k hZ7I 11 0 0 9 (lo := 0) (hi := 2) (by decide) rfl
        have q9 := dZ7 (k := 11) (i := 0) (j := 9) (by decide) (by omega)
        refine wz_i0 (i3O (n := 2) (zm_rd (Z := Z7) (ν := ν) (k := 11) (show ((0 : Nat) : Int) = 0 from rfl) (show ((0 : Nat) : Int) = 0 from rfl) (show ((9 : Nat) : Int) = 9 from rfl)) (by omega) (by omega) (by omega)) ?_
        obtain ⟨Z10, hZ10⟩ := zx (zu Z7 51 0 (Z7 11 0 0 9) 0 a1)
        replace hP := zl_e hP hZ10
        have hZ10I := zH_u hZ7I hZ10 (lo := 0) (hi := 18) (by decide) rfl (by omega) ⟨by decide, by decide⟩ (Or.inl (by decide)) rfl
        have hZ10U : zU [0, 2, 3, 4, 5, 6, 7, 8, 9] Z Z10 := zU_u hZ7U hZ10 (Or.inr (List.Mem.head _))
        have hZ10K : zC [3, 12, 13, 14, 40, 41, 42, 43, 44, 45, 46, 47, 48, 49, 50, 51, 52, 53, 54, 61, 68, 1099, 1100, 1101, 1102, 1103, 1104, 1105, 1106, 1107, 1108, 1109, 1110, 1111, 1112, 1113, 1114, 1115, 1116] Z Z10 := zC_u hZ7K hZ10 (by decide)
        intro μ9 e9
        replace e9 := e9.trans (zm_wI (Z := Z7) (ν := ν) hZ10 (show ((0 : Nat) : Int) = 0 from rfl) (i3I (y := (Z7 11 0 0 9)) (zm_rd (Z := Z7) (ν := ν) (k := 11) (show ((0 : Nat) : Int) = 0 from rfl) (show ((0 : Nat) : Int) = 0 from rfl) (show ((9 : Nat) : Int) = 9 from rfl)) (by omega) (by omega) (by omega)) (show ((0 : Nat) : Int) = 0 from rfl) (Eq.trans (zm_rd (Z := Z7) (ν := ν) (k := 68) (show ((0 : Nat) : Int) = 0 from rfl) (show ((0 : Nat) : Int) = 0 from rfl) (show ((1 : Nat) : Int) = 1 from rfl)) (congrArg i3 ((hZ7A.2.1)))))
        subst e9
        obtain ⟨Z11, hZ11⟩ := zx (zu Z10 51 0 (Z7 11 0 0 9) 1 a2)
        replace hP := zl_e hP hZ11
        have hZ11I := zH_u hZ10I hZ11 (lo := 0) (hi := 3) (by decide) rfl (by omega) ⟨by decide, by decide⟩ (Or.inl (by decide)) rfl
        have hZ11U : zU [0, 2, 3, 4, 5, 6, 7, 8, 9] Z Z11 := zU_u hZ10U hZ11 (Or.inr (List.Mem.head _))
        have hZ11K : zC [3, 12, 13, 14, 40, 41, 42, 43, 44, 45, 46, 47, 48, 49, 50, 51, 52, 53, 54, 61, 68, 1099, 1100, 1101, 1102, 1103, 1104, 1105, 1106, 1107, 1108, 1109, 1110, 1111, 1112, 1113, 1114, 1115, 1116] Z Z11 := zC_u hZ10K hZ11 (by decide)
        intro μ9 e9
        replace e9 := e9.trans (zm_wI (Z := Z10) (ν := ν) hZ11 (show ((0 : Nat) : Int) = 0 from rfl) (i3I (y := (Z7 11 0 0 9)) (zm_rd (Z := Z7) (ν := ν) (k := 11) (show ((0 : Nat) : Int) = 0 from rfl) (show ((0 : Nat) : Int) = 0 from rfl) (show ((9 : Nat) : Int) = 9 from rfl)) (by omega) (by omega) (by omega)) (show ((1 : Nat) : Int) = 1 from rfl) (Eq.trans (zm_rd (Z := Z7) (ν := ν) (k := 68) (show ((0 : Nat) : Int) = 0 from rfl) (show ((0 : Nat) : Int) = 0 from rfl) (show ((2 : Nat) : Int) = 2 from rfl)) (congrArg i3 ((hZ7A.2.2.1)))))
        subst e9
        obtain ⟨Z12, hZ12⟩ := zx (zu Z11 51 0 (Z7 11 0 0 9) 7 (-1))
        replace hP := zl_e hP hZ12
        have hZ12I := zH_u hZ11I hZ12 (lo := -1) (hi := 671) (by decide) rfl (by omega) ⟨by decide, by decide⟩ (Or.inl (by decide)) rfl
        have hZ12U : zU [0, 2, 3, 4, 5, 6, 7, 8, 9] Z Z12 := zU_u hZ11U hZ12 (Or.inr (List.Mem.head _))
        have hZ12K : zC [3, 12, 13, 14, 40, 41, 42, 43, 44, 45, 46, 47, 48, 49, 50, 51, 52, 53, 54, 61, 68, 1099, 1100, 1101, 1102, 1103, 1104, 1105, 1106, 1107, 1108, 1109, 1110, 1111, 1112, 1113, 1114, 1115, 1116] Z Z12 := zC_u hZ11K hZ12 (by decide)
        intro μ9 e9
        replace e9 := e9.trans (zm_wI (Z := Z11) (ν := ν) hZ12 (show ((0 : Nat) : Int) = 0 from rfl) (i3I (y := (Z7 11 0 0 9)) (zm_rd (Z := Z7) (ν := ν) (k := 11) (show ((0 : Nat) : Int) = 0 from rfl) (show ((0 : Nat) : Int) = 0 from rfl) (show ((9 : Nat) : Int) = 9 from rfl)) (by omega) (by omega) (by omega)) (show ((7 : Nat) : Int) = 7 from rfl) (show (-1 : Int32) = i3 (-1) from rfl))
        subst e9
        have r13 := zH_k hZ12I 11 0 0 9 (lo := 0) (hi := 2) (by decide) rfl
        have q14 := (zu_ne (k' := 11) (b' := 0) (i' := 0) (j' := 9) hZ12 (fun q => absurd q.1 (by decide))).trans ((zu_ne (k' := 11) (b' := 0) (i' := 0) (j' := 9) hZ11 (fun q => absurd q.1 (by decide))).trans (zu_ne (k' := 11) (b' := 0) (i' := 0) (j' := 9) hZ10 (fun q => absurd q.1 (by decide))))
        obtain ⟨Z15, hZ15⟩ := zx (zu Z12 11 0 0 9 ((Z12 11 0 0 9) + 1))
        replace hP := zl_e hP hZ15
        have hZ15I := zH_u hZ12I hZ15 (lo := 0) (hi := 2) (by decide) rfl (by omega) ⟨by decide, by decide⟩ (Or.inl (by decide)) rfl
        have hZ15U : zU [0, 2, 3, 4, 5, 6, 7, 8, 9] Z Z15 := zU_u hZ12U hZ15 (Or.inr (List.Mem.head _))
        have hZ15K : zC [3, 12, 13, 14, 40, 41, 42, 43, 44, 45, 46, 47, 48, 49, 50, 51, 52, 53, 54, 61, 68, 1099, 1100, 1101, 1102, 1103, 1104, 1105, 1106, 1107, 1108, 1109, 1110, 1111, 1112, 1113, 1114, 1115, 1116] Z Z15 := zC_u hZ12K hZ15 (by decide)
        intro μ9 e9
        replace e9 := e9.trans (zm_wI (Z := Z12) (ν := ν) hZ15 (show ((0 : Nat) : Int) = 0 from rfl) (show ((0 : Nat) : Int) = 0 from rfl) (show ((9 : Nat) : Int) = 9 from rfl) (i3A (zm_rd (Z := Z12) (ν := ν) (k := 11) (show ((0 : Nat) : Int) = 0 from rfl) (show ((0 : Nat) : Int) = 0 from rfl) (show ((9 : Nat) : Int) = 9 from rfl)) (show (1 : Int32) = i3 1 from rfl)))
        subst e9
        exact zlG hP (zm_rd (Z := Z12) (ν := ν) (k := 11) (show ((0 : Nat) : Int) = 0 from rfl) (show ((0 : Nat) : Int) = 0 from rfl) (show ((9 : Nat) : Int) = 9 from rfl)) ⟨hZ15I, hZ15K, hZ15U, zG_w zG_r (Nat.le_of_ble_eq_true rfl) (Nat.le_of_ble_eq_true rfl)⟩
    · replace hP := zE_n hP h2
      exact zlGe (E := 12) hP ⟨hZ, zC_r, zU_r, zG_w (zG_k rfl) (Nat.le_of_ble_eq_true rfl) (Nat.le_of_ble_eq_true rfl)⟩
  · replace hP := zE_n hP h1
    exact zlGe (E := 12) hP ⟨hZ, zC_r, zU_r, zG_w (zG_k rfl) (Nat.le_of_ble_eq_true rfl) (Nat.le_of_ble_eq_true rfl)⟩
/- yX0_areSound -/
def zl_1_1 (x0b : Int) : Nat → qz_Z → Int → Int → Int × Int
  | 0, Z, x1, x2 => (x1, x2)
  | m + 1, Z, x1, x2 => (if 9 < x2 then (x1, x2) else zl_1_1 x0b m Z (w3 (x1 + (Z 14 x0b 0 x2))) (x2 + 1))
theorem sl_1_1 {s : zSM} {Z : qz_Z} {ν : qz_N} (hZ : zH s Z) (hM : s.2 + 0 ≤ 1000000000) (x0b : Nat) {x1 : Int} (gx1 : -2147483648 ≤ x1 ∧ x1 ≤ 2147483647) {x2 : Int} (gx2 : 0 ≤ x2 ∧ x2 ≤ 10) {k : wz_K} {R : wz_R} {L : qz_L} (hL : qz_fg [true, true, true, false, false, false, false, false, false, false] L = [some (.inr (.inr (some (10, x0b, 0)))), some (.inl (i3 x1)), some (.inl (i3 x2)), none, none, none, none, none, none, none]) {T : Int × Int} (hP : zE T (zl_1_1 x0b ((10 - x2).toNat + 1) Z x1 x2)) (hk : ∀ (L9 : qz_L) (yx1 yx2 : Int), qz_fg [true, true, false, false, false, false, false, false, false, false] L9 = [some (.inr (.inr (some (10, x0b, 0)))), some (.inl (i3 yx1)), none, none, none, none, none, none, none, none] → (-2147483648 ≤ yx1 ∧ yx1 ≤ 2147483647) → (0 ≤ yx2 ∧ yx2 ≤ 10) → zE T ((yx1, yx2)) → k 0 (L9, [], zm Z ν)) : wz_loop qb_1_1 65536 k R (L, [], zm Z ν) := by
  refine wz_lp sb_1_1 (fun m x => ∃ x1 : Int, ∃ x2 : Int, qz_fg [true, true, true, false, false, false, false, false, false, false] x.1 = [some (.inr (.inr (some (10, x0b, 0)))), some (.inl (i3 x1)), some (.inl (i3 x2)), none, none, none, none, none, none, none] ∧ x.2 = ([], zm Z ν) ∧ m = (10 - x2).toNat ∧ (-2147483648 ≤ x1 ∧ x1 ≤ 2147483647) ∧ (0 ≤ x2 ∧ x2 ≤ 10) ∧ zE T (zl_1_1 x0b (m + 1) Z x1 x2)) ?_ 65536 ((10 - x2).toNat) _ (by omega) ⟨x1, x2, hL, rfl, rfl, gx1, gx2, hP⟩
  clear hP gx1 gx2 hL
  clear x1 x2
  rintro m ⟨L, st, μ⟩ ⟨x1, x2, hL, hx, hm, gx1, gx2, hP⟩
  cases hx
  refine fb_1_1 x0b (i3 x1) (i3 x2) _ _ _ _ hL ?_
  refine wz_br (i3L (show (9 : Int32) = i3 9 from rfl) (rfl : i3 x2 = i3 x2) (by omega) (by omega) (by omega) (by omega)) (fun h1 => ?_) (fun h1 => ?_)
  · replace hP := zE_p hP h1
    exact hk _ _ _ (zconso rfl (zconso (zvo (rfl : i3 x1 = i3 x1)) (zconso rfl (zconso rfl (zconso rfl (zconso rfl (zconso rfl (zconso rfl (zconso rfl (zconso rfl rfl))))))))))  (by omega) (by omega)  hP
  · replace hP := zE_n hP h1
    refine wz_i0 (i3O (n := 10) (rfl : i3 x2 = i3 x2) (by omega) (by omega) (by omega)) ?_
    have r2 := zH_f hZ 14 x0b 0 x2
    have r3 := w3_r (x1 + (Z 14 x0b 0 x2))
    obtain ⟨m2, rfl⟩ : ∃ m2, m = m2 + 1 := ⟨m - 1, by omega⟩
    exact wz_k1 ⟨m2, by omega, (w3 (x1 + (Z 14 x0b 0 x2))), (x2 + 1), (zconso rfl (zconso (zvo (i3W (i3A (rfl : i3 x1 = i3 x1) (zm_rd (Z := Z) (ν := ν) (k := 14) (rfl : ((x0b : Nat) : Int) = x0b) (show ((0 : Nat) : Int) = 0 from rfl) (i3I (y := x2) (rfl : i3 x2 = i3 x2) (by omega) (by omega) (by omega)))))) (zconso (zvo (i3A (rfl : i3 x2 = i3 x2) (show (1 : Int32) = i3 1 from rfl))) (zconso rfl (zconso rfl (zconso rfl (zconso rfl (zconso rfl (zconso rfl (zconso rfl rfl)))))))))), rfl,  by omega, by omega, by omega,  hP⟩
/- yX0_areSound -/
def zl_1_2 (x0b : Int) (x1 : Int) : Nat → qz_Z → Int → Int → Int × Int
  | 0, Z, x2, x3 => (x2, x3)
  | m + 1, Z, x2, x3 => (if (Z 11 x0b 0 6) ≤ x3 then (x2, x3) else zl_1_2 x0b x1 m Z (w3 (x2 + (Z 47 x0b x3 19))) (x3 + 1))
theorem sl_1_2 {s : zSM} {Z : qz_Z} {ν : qz_N} (hZ : zH s Z) (hM : s.2 + 0 ≤ 1000000000) (x0b : Nat) {x1 : Int} (gx1 : -2147483648 ≤ x1 ∧ x1 ≤ 2147483647) {x2 : Int} (gx2 : -2147483648 ≤ x2 ∧ x2 ≤ 2147483647) {x3 : Int} (gx3 : 0 ≤ x3 ∧ x3 ≤ 60) {k : wz_K} {R : wz_R} {L : qz_L} (hL : qz_fg [true, true, true, true, false, false, false, false, false, false] L = [some (.inr (.inr (some (10, x0b, 0)))), some (.inl (i3 x1)), some (.inl (i3 x2)), some (.inl (i3 x3)), none, none, none, none, none, none]) {T : Int × Int} (hP : zE T (zl_1_2 x0b x1 ((60 - x3).toNat + 1) Z x2 x3)) (hk : ∀ (L9 : qz_L) (yx2 yx3 : Int), qz_fg [true, true, true, false, false, false, false, false, false, false] L9 = [some (.inr (.inr (some (10, x0b, 0)))), some (.inl (i3 x1)), some (.inl (i3 yx2)), none, none, none, none, none, none, none] → (-2147483648 ≤ yx2 ∧ yx2 ≤ 2147483647) → (0 ≤ yx3 ∧ yx3 ≤ 60) → zE T ((yx2, yx3)) → k 0 (L9, [], zm Z ν)) : wz_loop qb_1_2 65536 k R (L, [], zm Z ν) := by
  refine wz_lp sb_1_2 (fun m x => ∃ x2 : Int, ∃ x3 : Int, qz_fg [true, true, true, true, false, false, false, false, false, false] x.1 = [some (.inr (.inr (some (10, x0b, 0)))), some (.inl (i3 x1)), some (.inl (i3 x2)), some (.inl (i3 x3)), none, none, none, none, none, none] ∧ x.2 = ([], zm Z ν) ∧ m = (60 - x3).toNat ∧ (-2147483648 ≤ x2 ∧ x2 ≤ 2147483647) ∧ (0 ≤ x3 ∧ x3 ≤ 60) ∧ zE T (zl_1_2 x0b x1 (m + 1) Z x2 x3)) ?_ 65536 ((60 - x3).toNat) _ (by omega) ⟨x2, x3, hL, rfl, rfl, gx2, gx3, hP⟩
  clear hP gx2 gx3 hL
  clear x2 x3
  rintro m ⟨L, st, μ⟩ ⟨x2, x3, hL, hx, hm, gx2, gx3, hP⟩
  cases hx
  refine fb_1_2 x0b (i3 x1) (i3 x2) (i3 x3) _ _ _ _ hL ?_
  have r1 := zH_k hZ 11 x0b 0 6 (lo := 0) (hi := 60) (by decide) rfl
  refine wz_br (i3Le (zm_rd (Z := Z) (ν := ν) (k := 11) (rfl : ((x0b : Nat) : Int) = x0b) (show ((0 : Nat) : Int) = 0 from rfl) (show ((6 : Nat) : Int) = 6 from rfl)) (rfl : i3 x3 = i3 x3) (by omega) (by omega) (by omega) (by omega)) (fun h2 => ?_) (fun h2 => ?_)
  · replace hP := zE_p hP h2
    exact hk _ _ _ (zconso rfl (zconso (zvo (rfl : i3 x1 = i3 x1)) (zconso (zvo (rfl : i3 x2 = i3 x2)) (zconso rfl (zconso rfl (zconso rfl (zconso rfl (zconso rfl (zconso rfl (zconso rfl rfl))))))))))  (by omega) (by omega)  hP
  · replace hP := zE_n hP h2
    refine wz_i0 (i3O (n := 60) (rfl : i3 x3 = i3 x3) (by omega) (by omega) (by omega)) ?_
    have r3 := zH_f hZ 47 x0b x3 19
    have r4 := w3_r (x2 + (Z 47 x0b x3 19))
    obtain ⟨m2, rfl⟩ : ∃ m2, m = m2 + 1 := ⟨m - 1, by omega⟩
    exact wz_k1 ⟨m2, by omega, (w3 (x2 + (Z 47 x0b x3 19))), (x3 + 1), (zconso rfl (zconso (zvo (rfl : i3 x1 = i3 x1)) (zconso (zvo (i3W (i3A (rfl : i3 x2 = i3 x2) (zm_rd (Z := Z) (ν := ν) (k := 47) (rfl : ((x0b : Nat) : Int) = x0b) (i3I (y := x3) (rfl : i3 x3 = i3 x3) (by omega) (by omega) (by omega)) (show ((19 : Nat) : Int) = 19 from rfl))))) (zconso (zvo (i3A (rfl : i3 x3 = i3 x3) (show (1 : Int32) = i3 1 from rfl))) (zconso rfl (zconso rfl (zconso rfl (zconso rfl (zconso rfl (zconso rfl rfl)))))))))), rfl,  by omega, by omega, by omega,  hP⟩
/- yX0_areSound -/
def zl_1_3 (x0b : Int) (x1 : Int) : Nat → qz_Z → Int → Int → Int × Int
  | 0, Z, x2, x3 => (x2, x3)
  | m + 1, Z, x2, x3 => (if (Z 11 x0b 0 4) ≤ x3 then (x2, x3) else zl_1_3 x0b x1 m Z (w3 (x2 - (Z 45 x0b x3 3))) (x3 + 1))
theorem sl_1_3 {s : zSM} {Z : qz_Z} {ν : qz_N} (hZ : zH s Z) (hM : s.2 + 0 ≤ 1000000000) (x0b : Nat) {x1 : Int} (gx1 : -2147483648 ≤ x1 ∧ x1 ≤ 2147483647) {x2 : Int} (gx2 : -2147483648 ≤ x2 ∧ x2 ≤ 2147483647) {x3 : Int} (gx3 : 0 ≤ x3 ∧ x3 ≤ 8) {k : wz_K} {R : wz_R} {L : qz_L} (hL : qz_fg [true, true, true, true, false, false, false, false, false, false] L = [some (.inr (.inr (some (10, x0b, 0)))), some (.inl (i3 x1)), some (.inl (i3 x2)), some (.inl (i3 x3)), none, none, none, none, none, none]) {T : Int × Int} (hP : zE T (zl_1_3 x0b x1 ((8 - x3).toNat + 1) Z x2 x3)) (hk : ∀ (L9 : qz_L) (yx2 yx3 : Int), qz_fg [true, true, true, false, false, false, false, false, false, false] L9 = [some (.inr (.inr (some (10, x0b, 0)))), some (.inl (i3 x1)), some (.inl (i3 yx2)), none, none, none, none, none, none, none] → (-2147483648 ≤ yx2 ∧ yx2 ≤ 2147483647) → (0 ≤ yx3 ∧ yx3 ≤ 8) → zE T ((yx2, yx3)) → k 0 (L9, [], zm Z ν)) : wz_loop qb_1_3 65536 k R (L, [], zm Z ν) := by
  refine wz_lp sb_1_3 (fun m x => ∃ x2 : Int, ∃ x3 : Int, qz_fg [true, true, true, true, false, false, false, false, false, false] x.1 = [some (.inr (.inr (some (10, x0b, 0)))), some (.inl (i3 x1)), some (.inl (i3 x2)), some (.inl (i3 x3)), none, none, none, none, none, none] ∧ x.2 = ([], zm Z ν) ∧ m = (8 - x3).toNat ∧ (-2147483648 ≤ x2 ∧ x2 ≤ 2147483647) ∧ (0 ≤ x3 ∧ x3 ≤ 8) ∧ zE T (zl_1_3 x0b x1 (m + 1) Z x2 x3)) ?_ 65536 ((8 - x3).toNat) _ (by omega) ⟨x2, x3, hL, rfl, rfl, gx2, gx3, hP⟩
  clear hP gx2 gx3 hL
  clear x2 x3
  rintro m ⟨L, st, μ⟩ ⟨x2, x3, hL, hx, hm, gx2, gx3, hP⟩
  cases hx
  refine fb_1_3 x0b (i3 x1) (i3 x2) (i3 x3) _ _ _ _ hL ?_
  have r1 := zH_k hZ 11 x0b 0 4 (lo := 0) (hi := 8) (by decide) rfl
  refine wz_br (i3Le (zm_rd (Z := Z) (ν := ν) (k := 11) (rfl : ((x0b : Nat) : Int) = x0b) (show ((0 : Nat) : Int) = 0 from rfl) (show ((4 : Nat) : Int) = 4 from rfl)) (rfl : i3 x3 = i3 x3) (by omega) (by omega) (by omega) (by omega)) (fun h2 => ?_) (fun h2 => ?_)
  · replace hP := zE_p hP h2
    exact hk _ _ _ (zconso rfl (zconso (zvo (rfl : i3 x1 = i3 x1)) (zconso (zvo (rfl : i3 x2 = i3 x2)) (zconso rfl (zconso rfl (zconso rfl (zconso rfl (zconso rfl (zconso rfl (zconso rfl rfl))))))))))  (by omega) (by omega)  hP
  · replace hP := zE_n hP h2
    refine wz_i0 (i3O (n := 8) (rfl : i3 x3 = i3 x3) (by omega) (by omega) (by omega)) ?_
    have r3 := zH_f hZ 45 x0b x3 3
    have r4 := w3_r (x2 - (Z 45 x0b x3 3))
    obtain ⟨m2, rfl⟩ : ∃ m2, m = m2 + 1 := ⟨m - 1, by omega⟩
    exact wz_k1 ⟨m2, by omega, (w3 (x2 - (Z 45 x0b x3 3))), (x3 + 1), (zconso rfl (zconso (zvo (rfl : i3 x1 = i3 x1)) (zconso (zvo (i3W (i3S (rfl : i3 x2 = i3 x2) (zm_rd (Z := Z) (ν := ν) (k := 45) (rfl : ((x0b : Nat) : Int) = x0b) (i3I (y := x3) (rfl : i3 x3 = i3 x3) (by omega) (by omega) (by omega)) (show ((3 : Nat) : Int) = 3 from rfl))))) (zconso (zvo (i3A (rfl : i3 x3 = i3 x3) (show (1 : Int32) = i3 1 from rfl))) (zconso rfl (zconso rfl (zconso rfl (zconso rfl (zconso rfl (zconso rfl rfl)))))))))), rfl,  by omega, by omega, by omega,  hP⟩
/- yX0_areSound -/
def zl_1_4 (x0b : Int) (x1 : Int) (x2 : Int) : Nat → qz_Z → Int → Int → Int × Int
  | 0, Z, x3, x4 => (x3, x4)
  | m + 1, Z, x3, x4 => (if (Z 11 x0b 0 1) ≤ x4 then (x3, x4) else zl_1_4 x0b x1 x2 m Z (w3 (x3 + (Z 42 x0b x4 2))) (x4 + 1))
theorem sl_1_4 {s : zSM} {Z : qz_Z} {ν : qz_N} (hZ : zH s Z) (hM : s.2 + 0 ≤ 1000000000) (x0b : Nat) {x1 : Int} (gx1 : -2147483648 ≤ x1 ∧ x1 ≤ 2147483647) {x2 : Int} (gx2 : -2147483648 ≤ x2 ∧ x2 ≤ 2147483647) {x3 : Int} (gx3 : -2147483648 ≤ x3 ∧ x3 ≤ 2147483647) {x4 : Int} (gx4 : 0 ≤ x4 ∧ x4 ≤ 6) {k : wz_K} {R : wz_R} {L : qz_L} (hL : qz_fg [true, true, true, true, true, false, false, false, false, false] L = [some (.inr (.inr (some (10, x0b, 0)))), some (.inl (i3 x1)), some (.inl (i3 x2)), some (.inl (i3 x3)), some (.inl (i3 x4)), none, none, none, none, none]) {T : Int × Int} (hP : zE T (zl_1_4 x0b x1 x2 ((6 - x4).toNat + 1) Z x3 x4)) (hk : ∀ (L9 : qz_L) (yx3 yx4 : Int), qz_fg [true, true, true, true, false, false, false, false, false, false] L9 = [some (.inr (.inr (some (10, x0b, 0)))), some (.inl (i3 x1)), some (.inl (i3 x2)), some (.inl (i3 yx3)), none, none, none, none, none, none] → (-2147483648 ≤ yx3 ∧ yx3 ≤ 2147483647) → (0 ≤ yx4 ∧ yx4 ≤ 6) → zE T ((yx3, yx4)) → k 0 (L9, [], zm Z ν)) : wz_loop qb_1_4 65536 k R (L, [], zm Z ν) := by
  refine wz_lp sb_1_4 (fun m x => ∃ x3 : Int, ∃ x4 : Int, qz_fg [true, true, true, true, true, false, false, false, false, false] x.1 = [some (.inr (.inr (some (10, x0b, 0)))), some (.inl (i3 x1)), some (.inl (i3 x2)), some (.inl (i3 x3)), some (.inl (i3 x4)), none, none, none, none, none] ∧ x.2 = ([], zm Z ν) ∧ m = (6 - x4).toNat ∧ (-2147483648 ≤ x3 ∧ x3 ≤ 2147483647) ∧ (0 ≤ x4 ∧ x4 ≤ 6) ∧ zE T (zl_1_4 x0b x1 x2 (m + 1) Z x3 x4)) ?_ 65536 ((6 - x4).toNat) _ (by omega) ⟨x3, x4, hL, rfl, rfl, gx3, gx4, hP⟩
  clear hP gx3 gx4 hL
  clear x3 x4
  rintro m ⟨L, st, μ⟩ ⟨x3, x4, hL, hx, hm, gx3, gx4, hP⟩
  cases hx
  refine fb_1_4 x0b (i3 x1) (i3 x2) (i3 x3) (i3 x4) _ _ _ _ hL ?_
  have r1 := zH_k hZ 11 x0b 0 1 (lo := 0) (hi := 6) (by decide) rfl
  refine wz_br (i3Le (zm_rd (Z := Z) (ν := ν) (k := 11) (rfl : ((x0b : Nat) : Int) = x0b) (show ((0 : Nat) : Int) = 0 from rfl) (show ((1 : Nat) : Int) = 1 from rfl)) (rfl : i3 x4 = i3 x4) (by omega) (by omega) (by omega) (by omega)) (fun h2 => ?_) (fun h2 => ?_)
  · replace hP := zE_p hP h2
    exact hk _ _ _ (zconso rfl (zconso (zvo (rfl : i3 x1 = i3 x1)) (zconso (zvo (rfl : i3 x2 = i3 x2)) (zconso (zvo (rfl : i3 x3 = i3 x3)) (zconso rfl (zconso rfl (zconso rfl (zconso rfl (zconso rfl (zconso rfl rfl))))))))))  (by omega) (by omega)  hP
  · replace hP := zE_n hP h2
    refine wz_i0 (i3O (n := 6) (rfl : i3 x4 = i3 x4) (by omega) (by omega) (by omega)) ?_
    have r3 := zH_f hZ 42 x0b x4 2
    have r4 := w3_r (x3 + (Z 42 x0b x4 2))
    obtain ⟨m2, rfl⟩ : ∃ m2, m = m2 + 1 := ⟨m - 1, by omega⟩
    exact wz_k1 ⟨m2, by omega, (w3 (x3 + (Z 42 x0b x4 2))), (x4 + 1), (zconso rfl (zconso (zvo (rfl : i3 x1 = i3 x1)) (zconso (zvo (rfl : i3 x2 = i3 x2)) (zconso (zvo (i3W (i3A (rfl : i3 x3 = i3 x3) (zm_rd (Z := Z) (ν := ν) (k := 42) (rfl : ((x0b : Nat) : Int) = x0b) (i3I (y := x4) (rfl : i3 x4 = i3 x4) (by omega) (by omega) (by omega)) (show ((2 : Nat) : Int) = 2 from rfl))))) (zconso (zvo (i3A (rfl : i3 x4 = i3 x4) (show (1 : Int32) = i3 1 from rfl))) (zconso rfl (zconso rfl (zconso rfl (zconso rfl (zconso rfl rfl)))))))))), rfl,  by omega, by omega, by omega,  hP⟩
/- yX0_areSound -/
def zl_1_5 (x0b : Int) (x6ij : Int) (x5 : Int) : Nat → qz_Z → Int → Int → Int → Int × Int × Int
  | 0, Z, x7, x8, x9 => (x7, x8, x9)
  | m + 1, Z, x7, x8, x9 => (if 3 ≤ x9 then (x7, x8, x9) else (if (Z 54 x0b x6ij (4 + x9)) ≠ 0 then zl_1_5 x0b x6ij x5 m Z (w3 (x7 + (Z 54 x0b x6ij (4 + x9)))) (z2 (fun x y => x &&& y) x8 0) (x9 + 1) else zl_1_5 x0b x6ij x5 m Z (x7 + (Z 54 x0b x6ij (4 + x9))) (z2 (fun x y => x &&& y) x8 1) (x9 + 1)))
theorem sl_1_5 {s : zSM} {Z : qz_Z} {ν : qz_N} (hZ : zH s Z) (hM : s.2 + 0 ≤ 1000000000) (x0b : Nat) (x6i : Nat) {x6ij : Int} (ex6i : (x6i : Int) = x6ij) (gx6ij : 0 ≤ x6ij ∧ x6ij ≤ 11) {x5 : Int} (gx5 : 0 ≤ x5 ∧ x5 ≤ 11) {x7 : Int} (gx7 : -2147483648 ≤ x7 ∧ x7 ≤ 2147483647) {x8 : Int} (gx8 : 0 ≤ x8 ∧ x8 ≤ 1) {x9 : Int} (gx9 : 0 ≤ x9 ∧ x9 ≤ 3) {k : wz_K} {R : wz_R} {L : qz_L} (hL : qz_fg [true, false, false, false, false, true, true, true, true, true] L = [some (.inr (.inr (some (10, x0b, 0)))), none, none, none, none, some (.inl (i3 x5)), some (.inr (.inr (some (54, x0b, x6i)))), some (.inl (i3 x7)), some (.inl (i3 x8)), some (.inl (i3 x9))]) {T : Int × Int × Int} (hP : zE T (zl_1_5 x0b x6ij x5 ((3 - x9).toNat + 1) Z x7 x8 x9)) (hk : ∀ (L9 : qz_L) (yx7 yx8 yx9 : Int), qz_fg [true, false, false, false, false, true, true, true, true, false] L9 = [some (.inr (.inr (some (10, x0b, 0)))), none, none, none, none, some (.inl (i3 x5)), some (.inr (.inr (some (54, x0b, x6i)))), some (.inl (i3 yx7)), some (.inl (i3 yx8)), none] → (-2147483648 ≤ yx7 ∧ yx7 ≤ 2147483647) → (0 ≤ yx8 ∧ yx8 ≤ 1) → (0 ≤ yx9 ∧ yx9 ≤ 3) → zE T ((yx7, yx8, yx9)) → k 0 (L9, [], zm Z ν)) : wz_loop qb_1_5 65536 k R (L, [], zm Z ν) := by
  refine wz_lp sb_1_5 (fun m x => ∃ x7 : Int, ∃ x8 : Int, ∃ x9 : Int, qz_fg [true, false, false, false, false, true, true, true, true, true] x.1 = [some (.inr (.inr (some (10, x0b, 0)))), none, none, none, none, some (.inl (i3 x5)), some (.inr (.inr (some (54, x0b, x6i)))), some (.inl (i3 x7)), some (.inl (i3 x8)), some (.inl (i3 x9))] ∧ x.2 = ([], zm Z ν) ∧ m = (3 - x9).toNat ∧ (-2147483648 ≤ x7 ∧ x7 ≤ 2147483647) ∧ (0 ≤ x8 ∧ x8 ≤ 1) ∧ (0 ≤ x9 ∧ x9 ≤ 3) ∧ zE T (zl_1_5 x0b x6ij x5 (m + 1) Z x7 x8 x9)) ?_ 65536 ((3 - x9).toNat) _ (by omega) ⟨x7, x8, x9, hL, rfl, rfl, gx7, gx8, gx9, hP⟩
  clear hP gx7 gx8 gx9 hL
  clear x7 x8 x9
  rintro m ⟨L, st, μ⟩ ⟨x7, x8, x9, hL, hx, hm, gx7, gx8, gx9, hP⟩
  cases hx
  refine fb_1_5 x0b (i3 x5) x6i (i3 x7) (i3 x8) (i3 x9) _ _ _ _ hL ?_
  refine wz_br (i3Le (show (3 : Int32) = i3 3 from rfl) (rfl : i3 x9 = i3 x9) (by omega) (by omega) (by omega) (by omega)) (fun h1 => ?_) (fun h1 => ?_)
  · replace hP := zE_p hP h1
    exact hk _ _ _ _ (zconso rfl (zconso rfl (zconso rfl (zconso rfl (zconso rfl (zconso (zvo (rfl : i3 x5 = i3 x5)) (zconso rfl (zconso (zvo (rfl : i3 x7 = i3 x7)) (zconso (zvo (rfl : i3 x8 = i3 x8)) (zconso rfl rfl))))))))))  (by omega) (by omega) (by omega)  hP
  · replace hP := zE_n hP h1
    refine wz_i0 (i3O (n := 8) (i3A (show (4 : Int32) = i3 4 from rfl) (rfl : i3 x9 = i3 x9)) (by omega) (by omega) (by omega)) ?_
    refine wz_i0 (i3O (n := 8) (i3A (show (4 : Int32) = i3 4 from rfl) (rfl : i3 x9 = i3 x9)) (by omega) (by omega) (by omega)) ?_
    have r2 := zH_f hZ 54 x0b x6ij (4 + x9)
    refine wz_br (i3NE (zm_rd (Z := Z) (ν := ν) (k := 54) (rfl : ((x0b : Nat) : Int) = x0b) ex6i (i3I (y := (4 + x9)) (i3A (show (4 : Int32) = i3 4 from rfl) (rfl : i3 x9 = i3 x9)) (by omega) (by omega) (by omega))) (show (0 : Int32) = i3 0 from rfl) (by omega) (by omega) (by omega) (by omega)) (fun h3 => ?_) (fun h3 => ?_)
    · replace hP := zE_p hP h3
      have r4 := w3_r (x7 + (Z 54 x0b x6ij (4 + x9)))
      have r5 := z2_r (fun x y => x &&& y) x8 0
      have r6 := z2_andl 0 (x := x8) (by omega) (by omega)
      have r7 := z2_and x8 (y := 0) (by omega) (by omega)
      obtain ⟨m2, rfl⟩ : ∃ m2, m = m2 + 1 := ⟨m - 1, by omega⟩
      exact wz_k1 ⟨m2, by omega, (w3 (x7 + (Z 54 x0b x6ij (4 + x9)))), (z2 (fun x y => x &&& y) x8 0), (x9 + 1), (zconso rfl (zconso rfl (zconso rfl (zconso rfl (zconso rfl (zconso (zvo (rfl : i3 x5 = i3 x5)) (zconso rfl (zconso (zvo (i3W (i3A (rfl : i3 x7 = i3 x7) (zm_rd (Z := Z) (ν := ν) (k := 54) (rfl : ((x0b : Nat) : Int) = x0b) ex6i (i3I (y := (4 + x9)) (i3A (show (4 : Int32) = i3 4 from rfl) (rfl : i3 x9 = i3 x9)) (by omega) (by omega) (by omega)))))) (zconso (zvo (i3Z (fun x y => x &&& y) (rfl : i3 x8 = i3 x8) (show (0 : Int32) = i3 0 from rfl))) (zconso (zvo (i3A (rfl : i3 x9 = i3 x9) (show (1 : Int32) = i3 1 from rfl))) rfl)))))))))), rfl,  by omega, by omega, by omega, by omega,  hP⟩
    · replace hP := zE_n hP h3
      have r8 := z2_r (fun x y => x &&& y) x8 1
      have r9 := z2_andl 1 (x := x8) (by omega) (by omega)
      have r10 := z2_and x8 (y := 1) (by omega) (by omega)
      obtain ⟨m2, rfl⟩ : ∃ m2, m = m2 + 1 := ⟨m - 1, by omega⟩
      exact wz_k1 ⟨m2, by omega, (x7 + (Z 54 x0b x6ij (4 + x9))), (z2 (fun x y => x &&& y) x8 1), (x9 + 1), (zconso rfl (zconso rfl (zconso rfl (zconso rfl (zconso rfl (zconso (zvo (rfl : i3 x5 = i3 x5)) (zconso rfl (zconso (zvo (i3A (rfl : i3 x7 = i3 x7) (zm_rd (Z := Z) (ν := ν) (k := 54) (rfl : ((x0b : Nat) : Int) = x0b) ex6i (i3I (y := (4 + x9)) (i3A (show (4 : Int32) = i3 4 from rfl) (rfl : i3 x9 = i3 x9)) (by omega) (by omega) (by omega))))) (zconso (zvo (i3Z (fun x y => x &&& y) (rfl : i3 x8 = i3 x8) (show (1 : Int32) = i3 1 from rfl))) (zconso (zvo (i3A (rfl : i3 x9 = i3 x9) (show (1 : Int32) = i3 1 from rfl))) rfl)))))))))), rfl,  by omega, by omega, by omega, by omega,  hP⟩
/- yX0_areSound -/
def zl_1_7 (x0b : Int) : Nat → qz_Z → Int → Int → Int × Int
  | 0, Z, x4, x5 => (x4, x5)
  | m + 1, Z, x4, x5 => (if (Z 11 x0b 0 10) ≤ x5 then (x4, x5) else (if x4 = 0 then (x4, x5) else (zlet3 (zl_1_5 x0b x5 x5 4 Z 0 1 0) (fun y4 y5 y6 => (if (Z 54 x0b x5 2) ≠ 2 then zl_1_7 x0b m Z y5 (x5 + 1) else (if y4 ≠ (Z 54 x0b x5 3) then zl_1_7 x0b m Z 0 (x5 + 1) else zl_1_7 x0b m Z 1 (x5 + 1)))))))
theorem sl_1_7 {s : zSM} {Z : qz_Z} {ν : qz_N} (hZ : zH s Z) (hM : s.2 + 0 ≤ 1000000000) (x0b : Nat) {x4 : Int} (gx4 : 0 ≤ x4 ∧ x4 ≤ 1) {x5 : Int} (gx5 : 0 ≤ x5 ∧ x5 ≤ 12) {k : wz_K} {R : wz_R} {L : qz_L} (hL : qz_fg [true, false, false, false, true, true, false, false, false, false] L = [some (.inr (.inr (some (10, x0b, 0)))), none, none, none, some (.inl (i3 x4)), some (.inl (i3 x5)), none, none, none, none]) {T : Int × Int} (hP : zE T (zl_1_7 x0b ((12 - x5).toNat + 1) Z x4 x5)) (hk : ∀ (L9 : qz_L) (yx4 yx5 : Int), qz_fg [false, false, false, false, true, false, false, false, false, false] L9 = [none, none, none, none, some (.inl (i3 yx4)), none, none, none, none, none] → (0 ≤ yx4 ∧ yx4 ≤ 1) → (0 ≤ yx5 ∧ yx5 ≤ 12) → zE T ((yx4, yx5)) → k 0 (L9, [], zm Z ν)) : wz_loop qb_1_7 65536 k R (L, [], zm Z ν) := by
  refine wz_lp sb_1_7 (fun m x => ∃ x4 : Int, ∃ x5 : Int, qz_fg [true, false, false, false, true, true, false, false, false, false] x.1 = [some (.inr (.inr (some (10, x0b, 0)))), none, none, none, some (.inl (i3 x4)), some (.inl (i3 x5)), none, none, none, none] ∧ x.2 = ([], zm Z ν) ∧ m = (12 - x5).toNat ∧ (0 ≤ x4 ∧ x4 ≤ 1) ∧ (0 ≤ x5 ∧ x5 ≤ 12) ∧ zE T (zl_1_7 x0b (m + 1) Z x4 x5)) ?_ 65536 ((12 - x5).toNat) _ (by omega) ⟨x4, x5, hL, rfl, rfl, gx4, gx5, hP⟩
  clear hP gx4 gx5 hL
  clear x4 x5
  rintro m ⟨L, st, μ⟩ ⟨x4, x5, hL, hx, hm, gx4, gx5, hP⟩
  cases hx
  refine fb_1_7 x0b (i3 x4) (i3 x5) _ _ _ _ hL ?_
  have r1 := zH_k hZ 11 x0b 0 10 (lo := 0) (hi := 12) (by decide) rfl
  refine wz_br (i3Le (zm_rd (Z := Z) (ν := ν) (k := 11) (rfl : ((x0b : Nat) : Int) = x0b) (show ((0 : Nat) : Int) = 0 from rfl) (show ((10 : Nat) : Int) = 10 from rfl)) (rfl : i3 x5 = i3 x5) (by omega) (by omega) (by omega) (by omega)) (fun h2 => ?_) (fun h2 => ?_)
  · replace hP := zE_p hP h2
    exact hk _ _ _ (zconso rfl (zconso rfl (zconso rfl (zconso rfl (zconso (zvo (rfl : i3 x4 = i3 x4)) (zconso rfl (zconso rfl (zconso rfl (zconso rfl (zconso rfl rfl))))))))))  (by omega) (by omega)  hP
  · replace hP := zE_n hP h2
    refine wz_br (i3E (rfl : i3 x4 = i3 x4) (show (0 : Int32) = i3 0 from rfl) (by omega) (by omega) (by omega) (by omega)) (fun h3 => ?_) (fun h3 => ?_)
    · replace hP := zE_p hP h3
      exact hk _ _ _ (zconso rfl (zconso rfl (zconso rfl (zconso rfl (zconso (zvo (rfl : i3 x4 = i3 x4)) (zconso rfl (zconso rfl (zconso rfl (zconso rfl (zconso rfl rfl))))))))))  (by omega) (by omega)  hP
    · replace hP := zE_n hP h3
      refine wz_i0 (i3O (n := 12) (rfl : i3 x5 = i3 x5) (by omega) (by omega) (by omega)) ?_
      refine sl_1_5 (ν := ν) hZ (zbh (c := 0) (k := 0) hM (Nat.le_of_ble_eq_true rfl)) x0b _ (i3I (y := x5) (rfl : i3 x5 = i3 x5) (by omega) (by omega) (by omega)) (by omega) (x5 := x5) (by omega) (x7 := 0) (by omega) (x8 := 1) (by omega) (x9 := 0) (by omega)  (zconso rfl (zconso rfl (zconso rfl (zconso rfl (zconso rfl (zconso (zvo (rfl : i3 x5 = i3 x5)) (zconso rfl (zconso (zvo (show (0 : Int32) = i3 0 from rfl)) (zconso (zvo (show (1 : Int32) = i3 1 from rfl)) (zconso (zvo (show (0 : Int32) = i3 0 from rfl)) rfl)))))))))) rfl ?_
      intro L7 y4 y5 y6 hL7 gy4 gy5 gy6 q9
      replace hP := zl_e3 hP (Eq.symm q9)
      clear q9
      refine fc_1_6 _ (i3 x5) _ (i3 y4) (i3 y5) _ _ _ _ hL7 ?_
      have r8 := zH_k hZ 54 x0b x5 2 (lo := 0) (hi := 2) (by decide) rfl
      refine wz_br (i3NE (zm_rd (Z := Z) (ν := ν) (k := 54) (rfl : ((x0b : Nat) : Int) = x0b) (i3I (y := x5) (rfl : i3 x5 = i3 x5) (by omega) (by omega) (by omega)) (show ((2 : Nat) : Int) = 2 from rfl)) (show (2 : Int32) = i3 2 from rfl) (by omega) (by omega) (by omega) (by omega)) (fun h9 => ?_) (fun h9 => ?_)
      · replace hP := zE_p hP h9
        obtain ⟨m2, rfl⟩ : ∃ m2, m = m2 + 1 := ⟨m - 1, by omega⟩
        refine wz_kbs (n := 1) (?_)
        exact wz_k1 ⟨m2, by omega, y5, (x5 + 1), (zconso rfl (zconso rfl (zconso rfl (zconso rfl (zconso (zvo (rfl : i3 y5 = i3 y5)) (zconso (zvo (i3A (rfl : i3 x5 = i3 x5) (show (1 : Int32) = i3 1 from rfl))) (zconso rfl (zconso rfl (zconso rfl (zconso rfl rfl)))))))))), rfl,  by omega, by omega, by omega,  hP⟩
      · replace hP := zE_n hP h9
        have r10 := zH_f hZ 54 x0b x5 3
        refine wz_br (i3NE (rfl : i3 y4 = i3 y4) (zm_rd (Z := Z) (ν := ν) (k := 54) (rfl : ((x0b : Nat) : Int) = x0b) (i3I (y := x5) (rfl : i3 x5 = i3 x5) (by omega) (by omega) (by omega)) (show ((3 : Nat) : Int) = 3 from rfl)) (by omega) (by omega) (by omega) (by omega)) (fun h11 => ?_) (fun h11 => ?_)
        · replace hP := zE_p hP h11
          obtain ⟨m2, rfl⟩ : ∃ m2, m = m2 + 1 := ⟨m - 1, by omega⟩
          refine wz_kbs (n := 1) (?_)
          exact wz_k1 ⟨m2, by omega, 0, (x5 + 1), (zconso rfl (zconso rfl (zconso rfl (zconso rfl (zconso (zvo (show (0 : Int32) = i3 0 from rfl)) (zconso (zvo (i3A (rfl : i3 x5 = i3 x5) (show (1 : Int32) = i3 1 from rfl))) (zconso rfl (zconso rfl (zconso rfl (zconso rfl rfl)))))))))), rfl,  by omega, by omega, by omega,  hP⟩
        · replace hP := zE_n hP h11
          obtain ⟨m2, rfl⟩ : ∃ m2, m = m2 + 1 := ⟨m - 1, by omega⟩
          refine wz_kbs (n := 1) (?_)
          exact wz_k1 ⟨m2, by omega, 1, (x5 + 1), (zconso rfl (zconso rfl (zconso rfl (zconso rfl (zconso (zvo (show (1 : Int32) = i3 1 from rfl)) (zconso (zvo (i3A (rfl : i3 x5 = i3 x5) (show (1 : Int32) = i3 1 from rfl))) (zconso rfl (zconso rfl (zconso rfl (zconso rfl rfl)))))))))), rfl,  by omega, by omega, by omega,  hP⟩
/- yX0_areSound -/
def zf_1 (Z : qz_Z) (a0b : Int) : Int := (zlet2 (zl_1_1 a0b 11 Z 0 0) (fun y1 y2 => (zlet2 (zl_1_2 a0b y1 61 Z 0 0) (fun y4 y5 => (zlet2 (zl_1_3 a0b y1 9 Z y4 0) (fun y7 y8 => (zlet2 (zl_1_4 a0b y1 y7 7 Z 0 0) (fun y10 y11 => (if y1 ≠ 0 then (zlet2 (zl_1_7 a0b 13 Z 0 0) (fun y14 y15 => y14)) else (if (Z 14 a0b 0 1) ≠ y7 then (zlet2 (zl_1_7 a0b 13 Z 0 0) (fun y19 y20 => y19)) else (if (w3 ((Z 14 a0b 0 2) + y10)) ≠ 0 then (zlet2 (zl_1_7 a0b 13 Z 0 0) (fun y25 y26 => y25)) else (zlet2 (zl_1_7 a0b 13 Z 1 0) (fun y28 y29 => y28)))))))))))))
theorem sp_1 {s : zSM} {Z : qz_Z} {ν : qz_N} (hZ : zH s Z) (a0b : Nat) (hM : s.2 + 0 ≤ 1000000000) : ∃ P : Int, P = zf_1 Z a0b ∧ (qf_1 [.inr (.inr (some (10, a0b, 0)))] (zm Z ν) = some (zm Z ν, .inl (some (.inl (i3 P)))) ∧ 0 ≤ P ∧ P ≤ 1) := by
  obtain ⟨P, hP⟩ := zx (zf_1 Z a0b)
  refine zc_R (Q := fun P => 0 ≤ P ∧ P ≤ 1) hP (fw_1 a0b _ _ ?_)
  replace hP : zE P (zf_1 Z a0b) := hP
  unfold zf_1 at hP
  refine sl_1_1 (ν := ν) hZ (zbh (c := 0) (k := 0) hM (Nat.le_of_ble_eq_true rfl)) a0b (x1 := 0) (by omega) (x2 := 0) (by omega)  (zconso rfl (zconso (zvo (show (0 : Int32) = i3 0 from rfl)) (zconso (zvo (show (0 : Int32) = i3 0 from rfl)) (zconso rfl (zconso rfl (zconso rfl (zconso rfl (zconso rfl (zconso rfl (zconso rfl rfl)))))))))) rfl ?_
  intro L3 y1 y2 hL3 gy1 gy2 q9
  replace hP := zl_e2 hP (Eq.symm q9)
  clear q9
  refine fc_1_12 _ (i3 y1) _ _ _ _ hL3 ?_
  refine sl_1_2 (ν := ν) hZ (zbh (c := 0) (k := 0) hM (Nat.le_of_ble_eq_true rfl)) a0b (x1 := y1) (by omega) (x2 := 0) (by omega) (x3 := 0) (by omega)  (zconso rfl (zconso (zvo (rfl : i3 y1 = i3 y1)) (zconso (zvo (show (0 : Int32) = i3 0 from rfl)) (zconso (zvo (show (0 : Int32) = i3 0 from rfl)) (zconso rfl (zconso rfl (zconso rfl (zconso rfl (zconso rfl (zconso rfl rfl)))))))))) rfl ?_
  intro L6 y4 y5 hL6 gy4 gy5 q9
  replace hP := zl_e2 hP (Eq.symm q9)
  clear q9
  refine fc_1_11 _ (i3 y1) (i3 y4) _ _ _ _ hL6 ?_
  refine sl_1_3 (ν := ν) hZ (zbh (c := 0) (k := 0) hM (Nat.le_of_ble_eq_true rfl)) a0b (x1 := y1) (by omega) (x2 := y4) (by omega) (x3 := 0) (by omega)  (zconso rfl (zconso (zvo (rfl : i3 y1 = i3 y1)) (zconso (zvo (rfl : i3 y4 = i3 y4)) (zconso (zvo (show (0 : Int32) = i3 0 from rfl)) (zconso rfl (zconso rfl (zconso rfl (zconso rfl (zconso rfl (zconso rfl rfl)))))))))) rfl ?_
  intro L9 y7 y8 hL9 gy7 gy8 q9
  replace hP := zl_e2 hP (Eq.symm q9)
  clear q9
  refine fc_1_10 _ (i3 y1) (i3 y7) _ _ _ _ hL9 ?_
  refine sl_1_4 (ν := ν) hZ (zbh (c := 0) (k := 0) hM (Nat.le_of_ble_eq_true rfl)) a0b (x1 := y1) (by omega) (x2 := y7) (by omega) (x3 := 0) (by omega) (x4 := 0) (by omega)  (zconso rfl (zconso (zvo (rfl : i3 y1 = i3 y1)) (zconso (zvo (rfl : i3 y7 = i3 y7)) (zconso (zvo (show (0 : Int32) = i3 0 from rfl)) (zconso (zvo (show (0 : Int32) = i3 0 from rfl)) (zconso rfl (zconso rfl (zconso rfl (zconso rfl (zconso rfl rfl)))))))))) rfl ?_
  intro L12 y10 y11 hL12 gy10 gy11 q9
  replace hP := zl_e2 hP (Eq.symm q9)
  clear q9
  refine fc_1_9 _ (i3 y1) (i3 y7) (i3 y10) _ _ _ _ hL12 ?_
  refine wz_br (i3NE (rfl : i3 y1 = i3 y1) (show (0 : Int32) = i3 0 from rfl) (by omega) (by omega) (by omega) (by omega)) (fun h13 => ?_) (fun h13 => ?_)
  · replace hP := zE_p hP h13
    refine sl_1_7 (ν := ν) hZ (zbh (c := 0) (k := 0) hM (Nat.le_of_ble_eq_true rfl)) a0b (x4 := 0) (by omega) (x5 := 0) (by omega)  (zconso rfl (zconso rfl (zconso rfl (zconso rfl (zconso (zvo (show (0 : Int32) = i3 0 from rfl)) (zconso (zvo (show (0 : Int32) = i3 0 from rfl)) (zconso rfl (zconso rfl (zconso rfl (zconso rfl rfl)))))))))) rfl ?_
    intro L16 y14 y15 hL16 gy14 gy15 q9
    replace hP := zl_e2 hP (Eq.symm q9)
    clear q9
    refine fc_1_8 (i3 y14) _ _ _ _ hL16 ?_
    refine wz_i1 (i3B (rfl : i3 y14 = i3 y14) (by omega)) ?_
    exact zlR hP (rfl : i3 y14 = i3 y14) ⟨by omega, by omega⟩
  · replace hP := zE_n hP h13
    have r17 := zH_f hZ 14 a0b 0 1
    refine wz_br (i3NE (zm_rd (Z := Z) (ν := ν) (k := 14) (rfl : ((a0b : Nat) : Int) = a0b) (show ((0 : Nat) : Int) = 0 from rfl) (show ((1 : Nat) : Int) = 1 from rfl)) (rfl : i3 y7 = i3 y7) (by omega) (by omega) (by omega) (by omega)) (fun h18 => ?_) (fun h18 => ?_)
    · replace hP := zE_p hP h18
      refine sl_1_7 (ν := ν) hZ (zbh (c := 0) (k := 0) hM (Nat.le_of_ble_eq_true rfl)) a0b (x4 := 0) (by omega) (x5 := 0) (by omega)  (zconso rfl (zconso rfl (zconso rfl (zconso rfl (zconso (zvo (show (0 : Int32) = i3 0 from rfl)) (zconso (zvo (show (0 : Int32) = i3 0 from rfl)) (zconso rfl (zconso rfl (zconso rfl (zconso rfl rfl)))))))))) rfl ?_
      intro L21 y19 y20 hL21 gy19 gy20 q9
      replace hP := zl_e2 hP (Eq.symm q9)
      clear q9
      refine fc_1_8 (i3 y19) _ _ _ _ hL21 ?_
      refine wz_i1 (i3B (rfl : i3 y19 = i3 y19) (by omega)) ?_
      exact zlR hP (rfl : i3 y19 = i3 y19) ⟨by omega, by omega⟩
    · replace hP := zE_n hP h18
      have r22 := zH_f hZ 14 a0b 0 2
      have r23 := w3_r ((Z 14 a0b 0 2) + y10)
      refine wz_br (i3NE (i3W (i3A (zm_rd (Z := Z) (ν := ν) (k := 14) (rfl : ((a0b : Nat) : Int) = a0b) (show ((0 : Nat) : Int) = 0 from rfl) (show ((2 : Nat) : Int) = 2 from rfl)) (rfl : i3 y10 = i3 y10))) (show (0 : Int32) = i3 0 from rfl) (by omega) (by omega) (by omega) (by omega)) (fun h24 => ?_) (fun h24 => ?_)
      · replace hP := zE_p hP h24
        refine sl_1_7 (ν := ν) hZ (zbh (c := 0) (k := 0) hM (Nat.le_of_ble_eq_true rfl)) a0b (x4 := 0) (by omega) (x5 := 0) (by omega)  (zconso rfl (zconso rfl (zconso rfl (zconso rfl (zconso (zvo (show (0 : Int32) = i3 0 from rfl)) (zconso (zvo (show (0 : Int32) = i3 0 from rfl)) (zconso rfl (zconso rfl (zconso rfl (zconso rfl rfl)))))))))) rfl ?_
        intro L27 y25 y26 hL27 gy25 gy26 q9
        replace hP := zl_e2 hP (Eq.symm q9)
        clear q9
        refine fc_1_8 (i3 y25) _ _ _ _ hL27 ?_
        refine wz_i1 (i3B (rfl : i3 y25 = i3 y25) (by omega)) ?_
        exact zlR hP (rfl : i3 y25 = i3 y25) ⟨by omega, by omega⟩
      · replace hP := zE_n hP h24
        refine sl_1_7 (ν := ν) hZ (zbh (c := 0) (k := 0) hM (Nat.le_of_ble_eq_true rfl)) a0b (x4 := 1) (by omega) (x5 := 0) (by omega)  (zconso rfl (zconso rfl (zconso rfl (zconso rfl (zconso (zvo (show (1 : Int32) = i3 1 from rfl)) (zconso (zvo (show (0 : Int32) = i3 0 from rfl)) (zconso rfl (zconso rfl (zconso rfl (zconso rfl rfl)))))))))) rfl ?_
        intro L30 y28 y29 hL30 gy28 gy29 q9
        replace hP := zl_e2 hP (Eq.symm q9)
        clear q9
        refine fc_1_8 (i3 y28) _ _ _ _ hL30 ?_
        refine wz_i1 (i3B (rfl : i3 y28 = i3 y28) (by omega)) ?_
        exact zlR hP (rfl : i3 y28 = i3 y28) ⟨by omega, by omega⟩
/- yX1_areSound -/
def zl_13_1 (x0b : Int) (x3ij : Int) (x2 : Int) : Nat → qz_Z → Int → Int → Int → Int × Int × Int
  | 0, Z, x4, x5, x6 => (x4, x5, x6)
  | m + 1, Z, x4, x5, x6 => (if (Z 11 x0b 0 6) ≤ x6 then (x4, x5, x6) else (if (Z 47 x0b x6 1) ≠ x2 then zl_13_1 x0b x3ij x2 m Z x4 x5 (x6 + 1) else (if (Z 47 x0b x6 9) ≠ 3 then zl_13_1 x0b x3ij x2 m Z (w3 (x4 + (Z 47 x0b x6 19))) (w3 (x5 + (Z 47 x0b x6 18))) (x6 + 1) else zl_13_1 x0b x3ij x2 m Z (w3 (x4 + (Z 47 x0b x6 19))) (x5 + 0) (x6 + 1))))
theorem sl_13_1 {s : zSM} {Z : qz_Z} {ν : qz_N} (hZ : zH s Z) (hM : s.2 + 0 ≤ 1000000000) (x0b : Nat) (x3i : Nat) {x3ij : Int} (ex3i : (x3i : Int) = x3ij) (gx3ij : 0 ≤ x3ij ∧ x3ij ≤ 7) {x2 : Int} (gx2 : 0 ≤ x2 ∧ x2 ≤ 7) {x4 : Int} (gx4 : -2147483648 ≤ x4 ∧ x4 ≤ 2147483647) {x5 : Int} (gx5 : -2147483648 ≤ x5 ∧ x5 ≤ 2147483647) {x6 : Int} (gx6 : 0 ≤ x6 ∧ x6 ≤ 60) {k : wz_K} {R : wz_R} {L : qz_L} (hL : qz_fg [true, false, true, true, true, true, true, false] L = [some (.inr (.inr (some (10, x0b, 0)))), none, some (.inl (i3 x2)), some (.inr (.inr (some (45, x0b, x3i)))), some (.inl (i3 x4)), some (.inl (i3 x5)), some (.inl (i3 x6)), none]) {T : Int × Int × Int} (hP : zE T (zl_13_1 x0b x3ij x2 ((60 - x6).toNat + 1) Z x4 x5 x6)) (hk : ∀ (L9 : qz_L) (yx4 yx5 yx6 : Int), qz_fg [true, false, true, true, true, true, false, false] L9 = [some (.inr (.inr (some (10, x0b, 0)))), none, some (.inl (i3 x2)), some (.inr (.inr (some (45, x0b, x3i)))), some (.inl (i3 yx4)), some (.inl (i3 yx5)), none, none] → (-2147483648 ≤ yx4 ∧ yx4 ≤ 2147483647) → (-2147483648 ≤ yx5 ∧ yx5 ≤ 2147483647) → (0 ≤ yx6 ∧ yx6 ≤ 60) → zE T ((yx4, yx5, yx6)) → k 0 (L9, [], zm Z ν)) : wz_loop qb_13_1 65536 k R (L, [], zm Z ν) := by
  refine wz_lp sb_13_1 (fun m x => ∃ x4 : Int, ∃ x5 : Int, ∃ x6 : Int, qz_fg [true, false, true, true, true, true, true, false] x.1 = [some (.inr (.inr (some (10, x0b, 0)))), none, some (.inl (i3 x2)), some (.inr (.inr (some (45, x0b, x3i)))), some (.inl (i3 x4)), some (.inl (i3 x5)), some (.inl (i3 x6)), none] ∧ x.2 = ([], zm Z ν) ∧ m = (60 - x6).toNat ∧ (-2147483648 ≤ x4 ∧ x4 ≤ 2147483647) ∧ (-2147483648 ≤ x5 ∧ x5 ≤ 2147483647) ∧ (0 ≤ x6 ∧ x6 ≤ 60) ∧ zE T (zl_13_1 x0b x3ij x2 (m + 1) Z x4 x5 x6)) ?_ 65536 ((60 - x6).toNat) _ (by omega) ⟨x4, x5, x6, hL, rfl, rfl, gx4, gx5, gx6, hP⟩
  clear hP gx4 gx5 gx6 hL
  clear x4 x5 x6
  rintro m ⟨L, st, μ⟩ ⟨x4, x5, x6, hL, hx, hm, gx4, gx5, gx6, hP⟩
  cases hx
  refine fb_13_1 x0b (i3 x2) x3i (i3 x4) (i3 x5) (i3 x6) _ _ _ _ hL ?_
  have r1 := zH_k hZ 11 x0b 0 6 (lo := 0) (hi := 60) (by decide) rfl
  refine wz_br (i3Le (zm_rd (Z := Z) (ν := ν) (k := 11) (rfl : ((x0b : Nat) : Int) = x0b) (show ((0 : Nat) : Int) = 0 from rfl) (show ((6 : Nat) : Int) = 6 from rfl)) (rfl : i3 x6 = i3 x6) (by omega) (by omega) (by omega) (by omega)) (fun h2 => ?_) (fun h2 => ?_)
  · replace hP := zE_p hP h2
    exact hk _ _ _ _ (zconso rfl (zconso rfl (zconso (zvo (rfl : i3 x2 = i3 x2)) (zconso rfl (zconso (zvo (rfl : i3 x4 = i3 x4)) (zconso (zvo (rfl : i3 x5 = i3 x5)) (zconso rfl (zconso rfl rfl))))))))  (by omega) (by omega) (by omega)  hP
  · replace hP := zE_n hP h2
    refine wz_i0 (i3O (n := 60) (rfl : i3 x6 = i3 x6) (by omega) (by omega) (by omega)) ?_
    have r3 := zH_k hZ 47 x0b x6 1 (lo := 0) (hi := 7) (by decide) rfl
    refine wz_br (i3NE (zm_rd (Z := Z) (ν := ν) (k := 47) (rfl : ((x0b : Nat) : Int) = x0b) (i3I (y := x6) (rfl : i3 x6 = i3 x6) (by omega) (by omega) (by omega)) (show ((1 : Nat) : Int) = 1 from rfl)) (rfl : i3 x2 = i3 x2) (by omega) (by omega) (by omega) (by omega)) (fun h4 => ?_) (fun h4 => ?_)
    · replace hP := zE_p hP h4
      obtain ⟨m2, rfl⟩ : ∃ m2, m = m2 + 1 := ⟨m - 1, by omega⟩
      exact wz_k1 ⟨m2, by omega, x4, x5, (x6 + 1), (zconso rfl (zconso rfl (zconso (zvo (rfl : i3 x2 = i3 x2)) (zconso rfl (zconso (zvo (rfl : i3 x4 = i3 x4)) (zconso (zvo (rfl : i3 x5 = i3 x5)) (zconso (zvo (i3A (rfl : i3 x6 = i3 x6) (show (1 : Int32) = i3 1 from rfl))) (zconso rfl rfl)))))))), rfl,  by omega, by omega, by omega, by omega,  hP⟩
    · replace hP := zE_n hP h4
      have r5 := zH_k hZ 47 x0b x6 9 (lo := 0) (hi := 3) (by decide) rfl
      have r6 := zH_lt hZ x0b x6
      refine wz_br (i3NE (zm_rd (Z := Z) (ν := ν) (k := 47) (rfl : ((x0b : Nat) : Int) = x0b) (i3I (y := x6) (rfl : i3 x6 = i3 x6) (by omega) (by omega) (by omega)) (show ((9 : Nat) : Int) = 9 from rfl)) (show (3 : Int32) = i3 3 from rfl) (by omega) (by omega) (by omega) (by omega)) (fun h7 => ?_) (fun h7 => ?_)
      · replace hP := zE_p hP h7
        have r8 := zH_f hZ 47 x0b x6 19
        have r9 := w3_r (x4 + (Z 47 x0b x6 19))
        have r10 := zH_k hZ 47 x0b x6 18 (lo := 0) (hi := 399960) (by decide) rfl
        have r11 := w3_r (x5 + (Z 47 x0b x6 18))
        obtain ⟨m2, rfl⟩ : ∃ m2, m = m2 + 1 := ⟨m - 1, by omega⟩
        exact wz_k1 ⟨m2, by omega, (w3 (x4 + (Z 47 x0b x6 19))), (w3 (x5 + (Z 47 x0b x6 18))), (x6 + 1), (zconso rfl (zconso rfl (zconso (zvo (rfl : i3 x2 = i3 x2)) (zconso rfl (zconso (zvo (i3W (i3A (rfl : i3 x4 = i3 x4) (zm_rd (Z := Z) (ν := ν) (k := 47) (rfl : ((x0b : Nat) : Int) = x0b) (i3I (y := x6) (rfl : i3 x6 = i3 x6) (by omega) (by omega) (by omega)) (show ((19 : Nat) : Int) = 19 from rfl))))) (zconso (zvo (i3W (i3A (rfl : i3 x5 = i3 x5) (zm_rd (Z := Z) (ν := ν) (k := 47) (rfl : ((x0b : Nat) : Int) = x0b) (i3I (y := x6) (rfl : i3 x6 = i3 x6) (by omega) (by omega) (by omega)) (show ((18 : Nat) : Int) = 18 from rfl))))) (zconso (zvo (i3A (rfl : i3 x6 = i3 x6) (show (1 : Int32) = i3 1 from rfl))) (zconso rfl rfl)))))))), rfl,  by omega, by omega, by omega, by omega,  hP⟩
      · replace hP := zE_n hP h7
        have r12 := zH_f hZ 47 x0b x6 19
        have r13 := w3_r (x4 + (Z 47 x0b x6 19))
        obtain ⟨m2, rfl⟩ : ∃ m2, m = m2 + 1 := ⟨m - 1, by omega⟩
        exact wz_k1 ⟨m2, by omega, (w3 (x4 + (Z 47 x0b x6 19))), (x5 + 0), (x6 + 1), (zconso rfl (zconso rfl (zconso (zvo (rfl : i3 x2 = i3 x2)) (zconso rfl (zconso (zvo (i3W (i3A (rfl : i3 x4 = i3 x4) (zm_rd (Z := Z) (ν := ν) (k := 47) (rfl : ((x0b : Nat) : Int) = x0b) (i3I (y := x6) (rfl : i3 x6 = i3 x6) (by omega) (by omega) (by omega)) (show ((19 : Nat) : Int) = 19 from rfl))))) (zconso (zvo (i3A (rfl : i3 x5 = i3 x5) (show (0 : Int32) = i3 0 from rfl))) (zconso (zvo (i3A (rfl : i3 x6 = i3 x6) (show (1 : Int32) = i3 1 from rfl))) (zconso rfl rfl)))))))), rfl,  by omega, by omega, by omega, by omega,  hP⟩
/- yX1_areSound -/
def zl_13_3 (x0b : Int) : Nat → qz_Z → Int → Int → Int × Int
  | 0, Z, x1, x2 => (x1, x2)
  | m + 1, Z, x1, x2 => (if (Z 11 x0b 0 4) ≤ x2 then (x1, x2) else (if x1 = 0 then (x1, x2) else (zlet3 (zl_13_1 x0b x2 x2 61 Z 0 0 0) (fun y4 y5 y6 => (if (Z 45 x0b x2 3) < 0 then zl_13_3 x0b m Z 0 (x2 + 1) else (if (w3 ((w3 ((Z 45 x0b x2 1) + (Z 45 x0b x2 3))) - y4)) < 0 then zl_13_3 x0b m Z 0 (x2 + 1) else (if (Z 45 x0b x2 4) ≠ y4 then zl_13_3 x0b m Z 0 (x2 + 1) else (if (w3 ((Z 45 x0b x2 12) + (Z 45 x0b x2 13))) ≠ (w3 ((w3 ((Z 45 x0b x2 3) + y5)) - y4)) then zl_13_3 x0b m Z 0 (x2 + 1) else zl_13_3 x0b m Z 1 (x2 + 1)))))))))
theorem sl_13_3 {s : zSM} {Z : qz_Z} {ν : qz_N} (hZ : zH s Z) (hM : s.2 + 0 ≤ 1000000000) (x0b : Nat) {x1 : Int} (gx1 : 0 ≤ x1 ∧ x1 ≤ 1) {x2 : Int} (gx2 : 0 ≤ x2 ∧ x2 ≤ 8) {k : wz_K} {R : wz_R} {L : qz_L} (hL : qz_fg [true, true, true, false, false, false, false, false] L = [some (.inr (.inr (some (10, x0b, 0)))), some (.inl (i3 x1)), some (.inl (i3 x2)), none, none, none, none, none]) {T : Int × Int} (hP : zE T (zl_13_3 x0b ((8 - x2).toNat + 1) Z x1 x2)) (hk : ∀ (L9 : qz_L) (yx1 yx2 : Int), qz_fg [true, true, false, false, false, false, false, false] L9 = [some (.inr (.inr (some (10, x0b, 0)))), some (.inl (i3 yx1)), none, none, none, none, none, none] → (0 ≤ yx1 ∧ yx1 ≤ 1) → (0 ≤ yx2 ∧ yx2 ≤ 8) → zE T ((yx1, yx2)) → k 0 (L9, [], zm Z ν)) : wz_loop qb_13_3 65536 k R (L, [], zm Z ν) := by
  refine wz_lp sb_13_3 (fun m x => ∃ x1 : Int, ∃ x2 : Int, qz_fg [true, true, true, false, false, false, false, false] x.1 = [some (.inr (.inr (some (10, x0b, 0)))), some (.inl (i3 x1)), some (.inl (i3 x2)), none, none, none, none, none] ∧ x.2 = ([], zm Z ν) ∧ m = (8 - x2).toNat ∧ (0 ≤ x1 ∧ x1 ≤ 1) ∧ (0 ≤ x2 ∧ x2 ≤ 8) ∧ zE T (zl_13_3 x0b (m + 1) Z x1 x2)) ?_ 65536 ((8 - x2).toNat) _ (by omega) ⟨x1, x2, hL, rfl, rfl, gx1, gx2, hP⟩
  clear hP gx1 gx2 hL
  clear x1 x2
  rintro m ⟨L, st, μ⟩ ⟨x1, x2, hL, hx, hm, gx1, gx2, hP⟩
  cases hx
  refine fb_13_3 x0b (i3 x1) (i3 x2) _ _ _ _ hL ?_
  have r1 := zH_k hZ 11 x0b 0 4 (lo := 0) (hi := 8) (by decide) rfl
  refine wz_br (i3Le (zm_rd (Z := Z) (ν := ν) (k := 11) (rfl : ((x0b : Nat) : Int) = x0b) (show ((0 : Nat) : Int) = 0 from rfl) (show ((4 : Nat) : Int) = 4 from rfl)) (rfl : i3 x2 = i3 x2) (by omega) (by omega) (by omega) (by omega)) (fun h2 => ?_) (fun h2 => ?_)
  · replace hP := zE_p hP h2
    exact hk _ _ _ (zconso rfl (zconso (zvo (rfl : i3 x1 = i3 x1)) (zconso rfl (zconso rfl (zconso rfl (zconso rfl (zconso rfl (zconso rfl rfl))))))))  (by omega) (by omega)  hP
  · replace hP := zE_n hP h2
    refine wz_br (i3E (rfl : i3 x1 = i3 x1) (show (0 : Int32) = i3 0 from rfl) (by omega) (by omega) (by omega) (by omega)) (fun h3 => ?_) (fun h3 => ?_)
    · replace hP := zE_p hP h3
      exact hk _ _ _ (zconso rfl (zconso (zvo (rfl : i3 x1 = i3 x1)) (zconso rfl (zconso rfl (zconso rfl (zconso rfl (zconso rfl (zconso rfl rfl))))))))  (by omega) (by omega)  hP
    · replace hP := zE_n hP h3
      refine wz_i0 (i3O (n := 8) (rfl : i3 x2 = i3 x2) (by omega) (by omega) (by omega)) ?_
      refine sl_13_1 (ν := ν) hZ (zbh (c := 0) (k := 0) hM (Nat.le_of_ble_eq_true rfl)) x0b _ (i3I (y := x2) (rfl : i3 x2 = i3 x2) (by omega) (by omega) (by omega)) (by omega) (x2 := x2) (by omega) (x4 := 0) (by omega) (x5 := 0) (by omega) (x6 := 0) (by omega)  (zconso rfl (zconso rfl (zconso (zvo (rfl : i3 x2 = i3 x2)) (zconso rfl (zconso (zvo (show (0 : Int32) = i3 0 from rfl)) (zconso (zvo (show (0 : Int32) = i3 0 from rfl)) (zconso (zvo (show (0 : Int32) = i3 0 from rfl)) (zconso rfl rfl)))))))) rfl ?_
      intro L7 y4 y5 y6 hL7 gy4 gy5 gy6 q9
      replace hP := zl_e3 hP (Eq.symm q9)
      clear q9
      refine fc_13_2 _ (i3 x2) _ (i3 y4) (i3 y5) _ _ _ _ hL7 ?_
      have r8 := zH_f hZ 45 x0b x2 3
      refine wz_br (i3L (zm_rd (Z := Z) (ν := ν) (k := 45) (rfl : ((x0b : Nat) : Int) = x0b) (i3I (y := x2) (rfl : i3 x2 = i3 x2) (by omega) (by omega) (by omega)) (show ((3 : Nat) : Int) = 3 from rfl)) (show (0 : Int32) = i3 0 from rfl) (by omega) (by omega) (by omega) (by omega)) (fun h9 => ?_) (fun h9 => ?_)
      · replace hP := zE_p hP h9
        obtain ⟨m2, rfl⟩ : ∃ m2, m = m2 + 1 := ⟨m - 1, by omega⟩
        refine wz_kbs (n := 1) (?_)
        exact wz_k1 ⟨m2, by omega, 0, (x2 + 1), (zconso rfl (zconso (zvo (show (0 : Int32) = i3 0 from rfl)) (zconso (zvo (i3A (rfl : i3 x2 = i3 x2) (show (1 : Int32) = i3 1 from rfl))) (zconso rfl (zconso rfl (zconso rfl (zconso rfl (zconso rfl rfl)))))))), rfl,  by omega, by omega, by omega,  hP⟩
      · replace hP := zE_n hP h9
        have r10 := zH_k hZ 45 x0b x2 1 (lo := 0) (hi := 9999999) (by decide) rfl
        have r11 := w3_r ((Z 45 x0b x2 1) + (Z 45 x0b x2 3))
        have r12 := w3_r ((w3 ((Z 45 x0b x2 1) + (Z 45 x0b x2 3))) - y4)
        refine wz_br (i3L (i3W (i3S (i3W (i3A (zm_rd (Z := Z) (ν := ν) (k := 45) (rfl : ((x0b : Nat) : Int) = x0b) (i3I (y := x2) (rfl : i3 x2 = i3 x2) (by omega) (by omega) (by omega)) (show ((1 : Nat) : Int) = 1 from rfl)) (zm_rd (Z := Z) (ν := ν) (k := 45) (rfl : ((x0b : Nat) : Int) = x0b) (i3I (y := x2) (rfl : i3 x2 = i3 x2) (by omega) (by omega) (by omega)) (show ((3 : Nat) : Int) = 3 from rfl)))) (rfl : i3 y4 = i3 y4))) (show (0 : Int32) = i3 0 from rfl) (by omega) (by omega) (by omega) (by omega)) (fun h13 => ?_) (fun h13 => ?_)
        · replace hP := zE_p hP h13
          obtain ⟨m2, rfl⟩ : ∃ m2, m = m2 + 1 := ⟨m - 1, by omega⟩
          refine wz_kbs (n := 1) (?_)
          exact wz_k1 ⟨m2, by omega, 0, (x2 + 1), (zconso rfl (zconso (zvo (show (0 : Int32) = i3 0 from rfl)) (zconso (zvo (i3A (rfl : i3 x2 = i3 x2) (show (1 : Int32) = i3 1 from rfl))) (zconso rfl (zconso rfl (zconso rfl (zconso rfl (zconso rfl rfl)))))))), rfl,  by omega, by omega, by omega,  hP⟩
        · replace hP := zE_n hP h13
          have r14 := zH_f hZ 45 x0b x2 4
          refine wz_br (i3NE (zm_rd (Z := Z) (ν := ν) (k := 45) (rfl : ((x0b : Nat) : Int) = x0b) (i3I (y := x2) (rfl : i3 x2 = i3 x2) (by omega) (by omega) (by omega)) (show ((4 : Nat) : Int) = 4 from rfl)) (rfl : i3 y4 = i3 y4) (by omega) (by omega) (by omega) (by omega)) (fun h15 => ?_) (fun h15 => ?_)
          · replace hP := zE_p hP h15
            obtain ⟨m2, rfl⟩ : ∃ m2, m = m2 + 1 := ⟨m - 1, by omega⟩
            refine wz_kbs (n := 1) (?_)
            exact wz_k1 ⟨m2, by omega, 0, (x2 + 1), (zconso rfl (zconso (zvo (show (0 : Int32) = i3 0 from rfl)) (zconso (zvo (i3A (rfl : i3 x2 = i3 x2) (show (1 : Int32) = i3 1 from rfl))) (zconso rfl (zconso rfl (zconso rfl (zconso rfl (zconso rfl rfl)))))))), rfl,  by omega, by omega, by omega,  hP⟩
          · replace hP := zE_n hP h15
            have r16 := zH_f hZ 45 x0b x2 12
            have r17 := zH_f hZ 45 x0b x2 13
            have r18 := w3_r ((Z 45 x0b x2 12) + (Z 45 x0b x2 13))
            have r19 := w3_r ((Z 45 x0b x2 3) + y5)
            have r20 := w3_r ((w3 ((Z 45 x0b x2 3) + y5)) - y4)
            refine wz_br (i3NE (i3W (i3A (zm_rd (Z := Z) (ν := ν) (k := 45) (rfl : ((x0b : Nat) : Int) = x0b) (i3I (y := x2) (rfl : i3 x2 = i3 x2) (by omega) (by omega) (by omega)) (show ((12 : Nat) : Int) = 12 from rfl)) (zm_rd (Z := Z) (ν := ν) (k := 45) (rfl : ((x0b : Nat) : Int) = x0b) (i3I (y := x2) (rfl : i3 x2 = i3 x2) (by omega) (by omega) (by omega)) (show ((13 : Nat) : Int) = 13 from rfl)))) (i3W (i3S (i3W (i3A (zm_rd (Z := Z) (ν := ν) (k := 45) (rfl : ((x0b : Nat) : Int) = x0b) (i3I (y := x2) (rfl : i3 x2 = i3 x2) (by omega) (by omega) (by omega)) (show ((3 : Nat) : Int) = 3 from rfl)) (rfl : i3 y5 = i3 y5))) (rfl : i3 y4 = i3 y4))) (by omega) (by omega) (by omega) (by omega)) (fun h21 => ?_) (fun h21 => ?_)
            · replace hP := zE_p hP h21
              obtain ⟨m2, rfl⟩ : ∃ m2, m = m2 + 1 := ⟨m - 1, by omega⟩
              refine wz_kbs (n := 1) (?_)
              exact wz_k1 ⟨m2, by omega, 0, (x2 + 1), (zconso rfl (zconso (zvo (show (0 : Int32) = i3 0 from rfl)) (zconso (zvo (i3A (rfl : i3 x2 = i3 x2) (show (1 : Int32) = i3 1 from rfl))) (zconso rfl (zconso rfl (zconso rfl (zconso rfl (zconso rfl rfl)))))))), rfl,  by omega, by omega, by omega,  hP⟩
            · replace hP := zE_n hP h21
              obtain ⟨m2, rfl⟩ : ∃ m2, m = m2 + 1 := ⟨m - 1, by omega⟩
              refine wz_kbs (n := 1) (?_)
              exact wz_k1 ⟨m2, by omega, 1, (x2 + 1), (zconso rfl (zconso (zvo (show (1 : Int32) = i3 1 from rfl)) (zconso (zvo (i3A (rfl : i3 x2 = i3 x2) (show (1 : Int32) = i3 1 from rfl))) (zconso rfl (zconso rfl (zconso rfl (zconso rfl (zconso rfl rfl)))))))), rfl,  by omega, by omega, by omega,  hP⟩
/- yX1_areSound -/
def zl_13_4 (x0b : Int) : Nat → qz_Z → Int → Int → Int × Int
  | 0, Z, x1, x2 => (x1, x2)
  | m + 1, Z, x1, x2 => (if (Z 11 x0b 0 6) ≤ x2 then (x1, x2) else (if x1 = 0 then (x1, x2) else (if (Z 47 x0b x2 9) ≠ 3 then (if (Z 47 x0b x2 19) < 0 then zl_13_4 x0b m Z 0 (x2 + 1) else (if (Z 47 x0b x2 18) < (Z 47 x0b x2 19) then zl_13_4 x0b m Z 0 (x2 + 1) else zl_13_4 x0b m Z 1 (x2 + 1))) else (if (Z 47 x0b x2 19) < 0 then zl_13_4 x0b m Z 0 (x2 + 1) else (if 0 < (Z 47 x0b x2 19) then zl_13_4 x0b m Z 0 (x2 + 1) else zl_13_4 x0b m Z 1 (x2 + 1))))))
theorem sl_13_4 {s : zSM} {Z : qz_Z} {ν : qz_N} (hZ : zH s Z) (hM : s.2 + 0 ≤ 1000000000) (x0b : Nat) {x1 : Int} (gx1 : 0 ≤ x1 ∧ x1 ≤ 1) {x2 : Int} (gx2 : 0 ≤ x2 ∧ x2 ≤ 60) {k : wz_K} {R : wz_R} {L : qz_L} (hL : qz_fg [true, true, true, false, false, false, false, false] L = [some (.inr (.inr (some (10, x0b, 0)))), some (.inl (i3 x1)), some (.inl (i3 x2)), none, none, none, none, none]) {T : Int × Int} (hP : zE T (zl_13_4 x0b ((60 - x2).toNat + 1) Z x1 x2)) (hk : ∀ (L9 : qz_L) (yx1 yx2 : Int), qz_fg [true, true, false, false, false, false, false, false] L9 = [some (.inr (.inr (some (10, x0b, 0)))), some (.inl (i3 yx1)), none, none, none, none, none, none] → (0 ≤ yx1 ∧ yx1 ≤ 1) → (0 ≤ yx2 ∧ yx2 ≤ 60) → zE T ((yx1, yx2)) → k 0 (L9, [], zm Z ν)) : wz_loop qb_13_4 65536 k R (L, [], zm Z ν) := by
  refine wz_lp sb_13_4 (fun m x => ∃ x1 : Int, ∃ x2 : Int, qz_fg [true, true, true, false, false, false, false, false] x.1 = [some (.inr (.inr (some (10, x0b, 0)))), some (.inl (i3 x1)), some (.inl (i3 x2)), none, none, none, none, none] ∧ x.2 = ([], zm Z ν) ∧ m = (60 - x2).toNat ∧ (0 ≤ x1 ∧ x1 ≤ 1) ∧ (0 ≤ x2 ∧ x2 ≤ 60) ∧ zE T (zl_13_4 x0b (m + 1) Z x1 x2)) ?_ 65536 ((60 - x2).toNat) _ (by omega) ⟨x1, x2, hL, rfl, rfl, gx1, gx2, hP⟩
  clear hP gx1 gx2 hL
  clear x1 x2
  rintro m ⟨L, st, μ⟩ ⟨x1, x2, hL, hx, hm, gx1, gx2, hP⟩
  cases hx
  refine fb_13_4 x0b (i3 x1) (i3 x2) _ _ _ _ hL ?_
  have r1 := zH_k hZ 11 x0b 0 6 (lo := 0) (hi := 60) (by decide) rfl
  refine wz_br (i3Le (zm_rd (Z := Z) (ν := ν) (k := 11) (rfl : ((x0b : Nat) : Int) = x0b) (show ((0 : Nat) : Int) = 0 from rfl) (show ((6 : Nat) : Int) = 6 from rfl)) (rfl : i3 x2 = i3 x2) (by omega) (by omega) (by omega) (by omega)) (fun h2 => ?_) (fun h2 => ?_)
  · replace hP := zE_p hP h2
    exact hk _ _ _ (zconso rfl (zconso (zvo (rfl : i3 x1 = i3 x1)) (zconso rfl (zconso rfl (zconso rfl (zconso rfl (zconso rfl (zconso rfl rfl))))))))  (by omega) (by omega)  hP
  · replace hP := zE_n hP h2
    refine wz_br (i3E (rfl : i3 x1 = i3 x1) (show (0 : Int32) = i3 0 from rfl) (by omega) (by omega) (by omega) (by omega)) (fun h3 => ?_) (fun h3 => ?_)
    · replace hP := zE_p hP h3
      exact hk _ _ _ (zconso rfl (zconso (zvo (rfl : i3 x1 = i3 x1)) (zconso rfl (zconso rfl (zconso rfl (zconso rfl (zconso rfl (zconso rfl rfl))))))))  (by omega) (by omega)  hP
    · replace hP := zE_n hP h3
      refine wz_i0 (i3O (n := 60) (rfl : i3 x2 = i3 x2) (by omega) (by omega) (by omega)) ?_
      have r4 := zH_k hZ 47 x0b x2 9 (lo := 0) (hi := 3) (by decide) rfl
      have r5 := zH_lt hZ x0b x2
      refine wz_br (i3NE (zm_rd (Z := Z) (ν := ν) (k := 47) (rfl : ((x0b : Nat) : Int) = x0b) (i3I (y := x2) (rfl : i3 x2 = i3 x2) (by omega) (by omega) (by omega)) (show ((9 : Nat) : Int) = 9 from rfl)) (show (3 : Int32) = i3 3 from rfl) (by omega) (by omega) (by omega) (by omega)) (fun h6 => ?_) (fun h6 => ?_)
      · replace hP := zE_p hP h6
        have r7 := zH_f hZ 47 x0b x2 19
        refine wz_br (i3L (zm_rd (Z := Z) (ν := ν) (k := 47) (rfl : ((x0b : Nat) : Int) = x0b) (i3I (y := x2) (rfl : i3 x2 = i3 x2) (by omega) (by omega) (by omega)) (show ((19 : Nat) : Int) = 19 from rfl)) (show (0 : Int32) = i3 0 from rfl) (by omega) (by omega) (by omega) (by omega)) (fun h8 => ?_) (fun h8 => ?_)
        · replace hP := zE_p hP h8
          obtain ⟨m2, rfl⟩ : ∃ m2, m = m2 + 1 := ⟨m - 1, by omega⟩
          exact wz_k1 ⟨m2, by omega, 0, (x2 + 1), (zconso rfl (zconso (zvo (show (0 : Int32) = i3 0 from rfl)) (zconso (zvo (i3A (rfl : i3 x2 = i3 x2) (show (1 : Int32) = i3 1 from rfl))) (zconso rfl (zconso rfl (zconso rfl (zconso rfl (zconso rfl rfl)))))))), rfl,  by omega, by omega, by omega,  hP⟩
        · replace hP := zE_n hP h8
          have r9 := zH_k hZ 47 x0b x2 18 (lo := 0) (hi := 399960) (by decide) rfl
          refine wz_br (i3L (zm_rd (Z := Z) (ν := ν) (k := 47) (rfl : ((x0b : Nat) : Int) = x0b) (i3I (y := x2) (rfl : i3 x2 = i3 x2) (by omega) (by omega) (by omega)) (show ((18 : Nat) : Int) = 18 from rfl)) (zm_rd (Z := Z) (ν := ν) (k := 47) (rfl : ((x0b : Nat) : Int) = x0b) (i3I (y := x2) (rfl : i3 x2 = i3 x2) (by omega) (by omega) (by omega)) (show ((19 : Nat) : Int) = 19 from rfl)) (by omega) (by omega) (by omega) (by omega)) (fun h10 => ?_) (fun h10 => ?_)
          · replace hP := zE_p hP h10
            obtain ⟨m2, rfl⟩ : ∃ m2, m = m2 + 1 := ⟨m - 1, by omega⟩
            exact wz_k1 ⟨m2, by omega, 0, (x2 + 1), (zconso rfl (zconso (zvo (show (0 : Int32) = i3 0 from rfl)) (zconso (zvo (i3A (rfl : i3 x2 = i3 x2) (show (1 : Int32) = i3 1 from rfl))) (zconso rfl (zconso rfl (zconso rfl (zconso rfl (zconso rfl rfl)))))))), rfl,  by omega, by omega, by omega,  hP⟩
          · replace hP := zE_n hP h10
            obtain ⟨m2, rfl⟩ : ∃ m2, m = m2 + 1 := ⟨m - 1, by omega⟩
            exact wz_k1 ⟨m2, by omega, 1, (x2 + 1), (zconso rfl (zconso (zvo (show (1 : Int32) = i3 1 from rfl)) (zconso (zvo (i3A (rfl : i3 x2 = i3 x2) (show (1 : Int32) = i3 1 from rfl))) (zconso rfl (zconso rfl (zconso rfl (zconso rfl (zconso rfl rfl)))))))), rfl,  by omega, by omega, by omega,  hP⟩
      · replace hP := zE_n hP h6
        have r11 := zH_f hZ 47 x0b x2 19
        refine wz_br (i3L (zm_rd (Z := Z) (ν := ν) (k := 47) (rfl : ((x0b : Nat) : Int) = x0b) (i3I (y := x2) (rfl : i3 x2 = i3 x2) (by omega) (by omega) (by omega)) (show ((19 : Nat) : Int) = 19 from rfl)) (show (0 : Int32) = i3 0 from rfl) (by omega) (by omega) (by omega) (by omega)) (fun h12 => ?_) (fun h12 => ?_)
        · replace hP := zE_p hP h12
          obtain ⟨m2, rfl⟩ : ∃ m2, m = m2 + 1 := ⟨m - 1, by omega⟩
          exact wz_k1 ⟨m2, by omega, 0, (x2 + 1), (zconso rfl (zconso (zvo (show (0 : Int32) = i3 0 from rfl)) (zconso (zvo (i3A (rfl : i3 x2 = i3 x2) (show (1 : Int32) = i3 1 from rfl))) (zconso rfl (zconso rfl (zconso rfl (zconso rfl (zconso rfl rfl)))))))), rfl,  by omega, by omega, by omega,  hP⟩
        · replace hP := zE_n hP h12
          refine wz_br (i3L (show (0 : Int32) = i3 0 from rfl) (zm_rd (Z := Z) (ν := ν) (k := 47) (rfl : ((x0b : Nat) : Int) = x0b) (i3I (y := x2) (rfl : i3 x2 = i3 x2) (by omega) (by omega) (by omega)) (show ((19 : Nat) : Int) = 19 from rfl)) (by omega) (by omega) (by omega) (by omega)) (fun h13 => ?_) (fun h13 => ?_)
          · replace hP := zE_p hP h13
            obtain ⟨m2, rfl⟩ : ∃ m2, m = m2 + 1 := ⟨m - 1, by omega⟩
            exact wz_k1 ⟨m2, by omega, 0, (x2 + 1), (zconso rfl (zconso (zvo (show (0 : Int32) = i3 0 from rfl)) (zconso (zvo (i3A (rfl : i3 x2 = i3 x2) (show (1 : Int32) = i3 1 from rfl))) (zconso rfl (zconso rfl (zconso rfl (zconso rfl (zconso rfl rfl)))))))), rfl,  by omega, by omega, by omega,  hP⟩
          · replace hP := zE_n hP h13
            obtain ⟨m2, rfl⟩ : ∃ m2, m = m2 + 1 := ⟨m - 1, by omega⟩
            exact wz_k1 ⟨m2, by omega, 1, (x2 + 1), (zconso rfl (zconso (zvo (show (1 : Int32) = i3 1 from rfl)) (zconso (zvo (i3A (rfl : i3 x2 = i3 x2) (show (1 : Int32) = i3 1 from rfl))) (zconso rfl (zconso rfl (zconso rfl (zconso rfl (zconso rfl rfl)))))))), rfl,  by omega, by omega, by omega,  hP⟩
/- yX1_areSound -/
def zl_13_5 (x0b : Int) : Nat → qz_Z → Int → Int → Int × Int
  | 0, Z, x1, x2 => (x1, x2)
  | m + 1, Z, x1, x2 => (if (Z 11 x0b 0 5) ≤ x2 then (x1, x2) else (if x1 = 0 then (x1, x2) else (if (Z 46 x0b x2 7) ≠ 1 then (if (Z 46 x0b x2 3) < (Z 46 x0b x2 6) then zl_13_5 x0b m Z 0 (x2 + 1) else zl_13_5 x0b m Z 1 (x2 + 1)) else (if 0 < (Z 46 x0b x2 6) then zl_13_5 x0b m Z 0 (x2 + 1) else zl_13_5 x0b m Z 1 (x2 + 1)))))
theorem sl_13_5 {s : zSM} {Z : qz_Z} {ν : qz_N} (hZ : zH s Z) (hM : s.2 + 0 ≤ 1000000000) (x0b : Nat) {x1 : Int} (gx1 : 0 ≤ x1 ∧ x1 ≤ 1) {x2 : Int} (gx2 : 0 ≤ x2 ∧ x2 ≤ 24) {k : wz_K} {R : wz_R} {L : qz_L} (hL : qz_fg [true, true, true, false, false, false, false, false] L = [some (.inr (.inr (some (10, x0b, 0)))), some (.inl (i3 x1)), some (.inl (i3 x2)), none, none, none, none, none]) {T : Int × Int} (hP : zE T (zl_13_5 x0b ((24 - x2).toNat + 1) Z x1 x2)) (hk : ∀ (L9 : qz_L) (yx1 yx2 : Int), qz_fg [false, true, false, false, false, false, false, false] L9 = [none, some (.inl (i3 yx1)), none, none, none, none, none, none] → (0 ≤ yx1 ∧ yx1 ≤ 1) → (0 ≤ yx2 ∧ yx2 ≤ 24) → zE T ((yx1, yx2)) → k 0 (L9, [], zm Z ν)) : wz_loop qb_13_5 65536 k R (L, [], zm Z ν) := by
  refine wz_lp sb_13_5 (fun m x => ∃ x1 : Int, ∃ x2 : Int, qz_fg [true, true, true, false, false, false, false, false] x.1 = [some (.inr (.inr (some (10, x0b, 0)))), some (.inl (i3 x1)), some (.inl (i3 x2)), none, none, none, none, none] ∧ x.2 = ([], zm Z ν) ∧ m = (24 - x2).toNat ∧ (0 ≤ x1 ∧ x1 ≤ 1) ∧ (0 ≤ x2 ∧ x2 ≤ 24) ∧ zE T (zl_13_5 x0b (m + 1) Z x1 x2)) ?_ 65536 ((24 - x2).toNat) _ (by omega) ⟨x1, x2, hL, rfl, rfl, gx1, gx2, hP⟩
  clear hP gx1 gx2 hL
  clear x1 x2
  rintro m ⟨L, st, μ⟩ ⟨x1, x2, hL, hx, hm, gx1, gx2, hP⟩
  cases hx
  refine fb_13_5 x0b (i3 x1) (i3 x2) _ _ _ _ hL ?_
  have r1 := zH_k hZ 11 x0b 0 5 (lo := 0) (hi := 24) (by decide) rfl
  refine wz_br (i3Le (zm_rd (Z := Z) (ν := ν) (k := 11) (rfl : ((x0b : Nat) : Int) = x0b) (show ((0 : Nat) : Int) = 0 from rfl) (show ((5 : Nat) : Int) = 5 from rfl)) (rfl : i3 x2 = i3 x2) (by omega) (by omega) (by omega) (by omega)) (fun h2 => ?_) (fun h2 => ?_)
  · replace hP := zE_p hP h2
    exact hk _ _ _ (zconso rfl (zconso (zvo (rfl : i3 x1 = i3 x1)) (zconso rfl (zconso rfl (zconso rfl (zconso rfl (zconso rfl (zconso rfl rfl))))))))  (by omega) (by omega)  hP
  · replace hP := zE_n hP h2
    refine wz_br (i3E (rfl : i3 x1 = i3 x1) (show (0 : Int32) = i3 0 from rfl) (by omega) (by omega) (by omega) (by omega)) (fun h3 => ?_) (fun h3 => ?_)
    · replace hP := zE_p hP h3
      exact hk _ _ _ (zconso rfl (zconso (zvo (rfl : i3 x1 = i3 x1)) (zconso rfl (zconso rfl (zconso rfl (zconso rfl (zconso rfl (zconso rfl rfl))))))))  (by omega) (by omega)  hP
    · replace hP := zE_n hP h3
      refine wz_i0 (i3O (n := 24) (rfl : i3 x2 = i3 x2) (by omega) (by omega) (by omega)) ?_
      have r4 := zH_k hZ 46 x0b x2 7 (lo := 0) (hi := 1) (by decide) rfl
      refine wz_br (i3NE (zm_rd (Z := Z) (ν := ν) (k := 46) (rfl : ((x0b : Nat) : Int) = x0b) (i3I (y := x2) (rfl : i3 x2 = i3 x2) (by omega) (by omega) (by omega)) (show ((7 : Nat) : Int) = 7 from rfl)) (show (1 : Int32) = i3 1 from rfl) (by omega) (by omega) (by omega) (by omega)) (fun h5 => ?_) (fun h5 => ?_)
      · replace hP := zE_p hP h5
        have r6 := zH_k hZ 46 x0b x2 6 (lo := 0) (hi := 99) (by decide) rfl
        refine wz_i0 (Eq.trans (i3L (zm_rd (Z := Z) (ν := ν) (k := 46) (rfl : ((x0b : Nat) : Int) = x0b) (i3I (y := x2) (rfl : i3 x2 = i3 x2) (by omega) (by omega) (by omega)) (show ((6 : Nat) : Int) = 6 from rfl)) (show (0 : Int32) = i3 0 from rfl) (by omega) (by omega) (by omega) (by omega)) (decide_eq_false (by omega))) ?_
        have r7 := zH_k hZ 46 x0b x2 3 (lo := 0) (hi := 99) (by decide) rfl
        refine wz_br (i3L (zm_rd (Z := Z) (ν := ν) (k := 46) (rfl : ((x0b : Nat) : Int) = x0b) (i3I (y := x2) (rfl : i3 x2 = i3 x2) (by omega) (by omega) (by omega)) (show ((3 : Nat) : Int) = 3 from rfl)) (zm_rd (Z := Z) (ν := ν) (k := 46) (rfl : ((x0b : Nat) : Int) = x0b) (i3I (y := x2) (rfl : i3 x2 = i3 x2) (by omega) (by omega) (by omega)) (show ((6 : Nat) : Int) = 6 from rfl)) (by omega) (by omega) (by omega) (by omega)) (fun h8 => ?_) (fun h8 => ?_)
        · replace hP := zE_p hP h8
          obtain ⟨m2, rfl⟩ : ∃ m2, m = m2 + 1 := ⟨m - 1, by omega⟩
          exact wz_k1 ⟨m2, by omega, 0, (x2 + 1), (zconso rfl (zconso (zvo (show (0 : Int32) = i3 0 from rfl)) (zconso (zvo (i3A (rfl : i3 x2 = i3 x2) (show (1 : Int32) = i3 1 from rfl))) (zconso rfl (zconso rfl (zconso rfl (zconso rfl (zconso rfl rfl)))))))), rfl,  by omega, by omega, by omega,  hP⟩
        · replace hP := zE_n hP h8
          obtain ⟨m2, rfl⟩ : ∃ m2, m = m2 + 1 := ⟨m - 1, by omega⟩
          exact wz_k1 ⟨m2, by omega, 1, (x2 + 1), (zconso rfl (zconso (zvo (show (1 : Int32) = i3 1 from rfl)) (zconso (zvo (i3A (rfl : i3 x2 = i3 x2) (show (1 : Int32) = i3 1 from rfl))) (zconso rfl (zconso rfl (zconso rfl (zconso rfl (zconso rfl rfl)))))))), rfl,  by omega, by omega, by omega,  hP⟩
      · replace hP := zE_n hP h5
        have r9 := zH_k hZ 46 x0b x2 6 (lo := 0) (hi := 99) (by decide) rfl
        refine wz_i0 (Eq.trans (i3L (zm_rd (Z := Z) (ν := ν) (k := 46) (rfl : ((x0b : Nat) : Int) = x0b) (i3I (y := x2) (rfl : i3 x2 = i3 x2) (by omega) (by omega) (by omega)) (show ((6 : Nat) : Int) = 6 from rfl)) (show (0 : Int32) = i3 0 from rfl) (by omega) (by omega) (by omega) (by omega)) (decide_eq_false (by omega))) ?_
        refine wz_br (i3L (show (0 : Int32) = i3 0 from rfl) (zm_rd (Z := Z) (ν := ν) (k := 46) (rfl : ((x0b : Nat) : Int) = x0b) (i3I (y := x2) (rfl : i3 x2 = i3 x2) (by omega) (by omega) (by omega)) (show ((6 : Nat) : Int) = 6 from rfl)) (by omega) (by omega) (by omega) (by omega)) (fun h10 => ?_) (fun h10 => ?_)
        · replace hP := zE_p hP h10
          obtain ⟨m2, rfl⟩ : ∃ m2, m = m2 + 1 := ⟨m - 1, by omega⟩
          exact wz_k1 ⟨m2, by omega, 0, (x2 + 1), (zconso rfl (zconso (zvo (show (0 : Int32) = i3 0 from rfl)) (zconso (zvo (i3A (rfl : i3 x2 = i3 x2) (show (1 : Int32) = i3 1 from rfl))) (zconso rfl (zconso rfl (zconso rfl (zconso rfl (zconso rfl rfl)))))))), rfl,  by omega, by omega, by omega,  hP⟩
        · replace hP := zE_n hP h10
          obtain ⟨m2, rfl⟩ : ∃ m2, m = m2 + 1 := ⟨m - 1, by omega⟩
          exact wz_k1 ⟨m2, by omega, 1, (x2 + 1), (zconso rfl (zconso (zvo (show (1 : Int32) = i3 1 from rfl)) (zconso (zvo (i3A (rfl : i3 x2 = i3 x2) (show (1 : Int32) = i3 1 from rfl))) (zconso rfl (zconso rfl (zconso rfl (zconso rfl (zconso rfl rfl)))))))), rfl,  by omega, by omega, by omega,  hP⟩
/- yX1_areSound -/
def zf_13 (Z : qz_Z) (a0b : Int) : Int := (zlet2 (zl_13_3 a0b 9 Z 1 0) (fun y1 y2 => (zlet2 (zl_13_4 a0b 61 Z y1 0) (fun y4 y5 => (zlet2 (zl_13_5 a0b 25 Z y4 0) (fun y7 y8 => y7))))))
theorem sp_13 {s : zSM} {Z : qz_Z} {ν : qz_N} (hZ : zH s Z) (a0b : Nat) (hM : s.2 + 0 ≤ 1000000000) : ∃ P : Int, P = zf_13 Z a0b ∧ (qf_13 [.inr (.inr (some (10, a0b, 0)))] (zm Z ν) = some (zm Z ν, .inl (some (.inl (i3 P)))) ∧ 0 ≤ P ∧ P ≤ 1) := by
  obtain ⟨P, hP⟩ := zx (zf_13 Z a0b)
  refine zc_R (Q := fun P => 0 ≤ P ∧ P ≤ 1) hP (fw_13 a0b _ _ ?_)
  replace hP : zE P (zf_13 Z a0b) := hP
  unfold zf_13 at hP
  refine sl_13_3 (ν := ν) hZ (zbh (c := 0) (k := 0) hM (Nat.le_of_ble_eq_true rfl)) a0b (x1 := 1) (by omega) (x2 := 0) (by omega)  (zconso rfl (zconso (zvo (show (1 : Int32) = i3 1 from rfl)) (zconso (zvo (show (0 : Int32) = i3 0 from rfl)) (zconso rfl (zconso rfl (zconso rfl (zconso rfl (zconso rfl rfl)))))))) rfl ?_
  intro L3 y1 y2 hL3 gy1 gy2 q9
  replace hP := zl_e2 hP (Eq.symm q9)
  clear q9
  refine fc_13_8 _ (i3 y1) _ _ _ _ hL3 ?_
  refine sl_13_4 (ν := ν) hZ (zbh (c := 0) (k := 0) hM (Nat.le_of_ble_eq_true rfl)) a0b (x1 := y1) (by omega) (x2 := 0) (by omega)  (zconso rfl (zconso (zvo (rfl : i3 y1 = i3 y1)) (zconso (zvo (show (0 : Int32) = i3 0 from rfl)) (zconso rfl (zconso rfl (zconso rfl (zconso rfl (zconso rfl rfl)))))))) rfl ?_
  intro L6 y4 y5 hL6 gy4 gy5 q9
  replace hP := zl_e2 hP (Eq.symm q9)
  clear q9
  refine fc_13_7 _ (i3 y4) _ _ _ _ hL6 ?_
  refine sl_13_5 (ν := ν) hZ (zbh (c := 0) (k := 0) hM (Nat.le_of_ble_eq_true rfl)) a0b (x1 := y4) (by omega) (x2 := 0) (by omega)  (zconso rfl (zconso (zvo (rfl : i3 y4 = i3 y4)) (zconso (zvo (show (0 : Int32) = i3 0 from rfl)) (zconso rfl (zconso rfl (zconso rfl (zconso rfl (zconso rfl rfl)))))))) rfl ?_
  intro L9 y7 y8 hL9 gy7 gy8 q9
  replace hP := zl_e2 hP (Eq.symm q9)
  clear q9
  refine fc_13_6 (i3 y7) _ _ _ _ hL9 ?_
  refine wz_i1 (i3B (rfl : i3 y7 = i3 y7) (by omega)) ?_
  exact zlR hP (rfl : i3 y7 = i3 y7) ⟨by omega, by omega⟩
/- yX2_isDue -/
def zl_48_1 (x0b : Int) (x1b : Int) (x1ij : Int) (x2ij : Int) : Nat → qz_Z → Int → Int → Int × Int
  | 0, Z, x3, x4 => (x3, x4)
  | m + 1, Z, x3, x4 => (if 5 ≤ x4 then (x3, x4) else (if (Z 50 x0b x2ij (12 + x4)) ≠ (Z 45 x0b (Z 47 x1b x1ij 1) 0) then zl_48_1 x0b x1b x1ij x2ij m Z (z2 (fun x y => x ||| y) x3 0) (x4 + 1) else (if (Z 50 x0b x2ij (17 + x4)) ≤ (Z 11 x0b 0 13) then zl_48_1 x0b x1b x1ij x2ij m Z (z2 (fun x y => x ||| y) x3 0) (x4 + 1) else zl_48_1 x0b x1b x1ij x2ij m Z (z2 (fun x y => x ||| y) x3 1) (x4 + 1))))
theorem sl_48_1 {s : zSM} {Z : qz_Z} {ν : qz_N} (hZ : zH s Z) (hM : s.2 + 0 ≤ 1000000000) (x0b : Nat) (x1b : Nat) (x1i : Nat) {x1ij : Int} (ex1i : (x1i : Int) = x1ij) (gx1ij : 0 ≤ x1ij ∧ x1ij ≤ 59) (x2i : Nat) {x2ij : Int} (ex2i : (x2i : Int) = x2ij) (gx2ij : 0 ≤ x2ij ∧ x2ij ≤ 3) {x3 : Int} (gx3 : 0 ≤ x3 ∧ x3 ≤ 1) {x4 : Int} (gx4 : 0 ≤ x4 ∧ x4 ≤ 5) {k : wz_K} {R : wz_R} {L : qz_L} (hL : qz_fg [true, true, true, true, true] L = [some (.inr (.inr (some (10, x0b, 0)))), some (.inr (.inr (some (47, x1b, x1i)))), some (.inr (.inr (some (50, x0b, x2i)))), some (.inl (i3 x3)), some (.inl (i3 x4))]) {T : Int × Int} (hP : zE T (zl_48_1 x0b x1b x1ij x2ij ((5 - x4).toNat + 1) Z x3 x4)) (hk : ∀ (L9 : qz_L) (yx3 yx4 : Int), qz_fg [false, false, false, true, false] L9 = [none, none, none, some (.inl (i3 yx3)), none] → (0 ≤ yx3 ∧ yx3 ≤ 1) → (0 ≤ yx4 ∧ yx4 ≤ 5) → zE T ((yx3, yx4)) → k 0 (L9, [], zm Z ν)) : wz_loop qb_48_1 65536 k R (L, [], zm Z ν) := by
  refine wz_lp sb_48_1 (fun m x => ∃ x3 : Int, ∃ x4 : Int, qz_fg [true, true, true, true, true] x.1 = [some (.inr (.inr (some (10, x0b, 0)))), some (.inr (.inr (some (47, x1b, x1i)))), some (.inr (.inr (some (50, x0b, x2i)))), some (.inl (i3 x3)), some (.inl (i3 x4))] ∧ x.2 = ([], zm Z ν) ∧ m = (5 - x4).toNat ∧ (0 ≤ x3 ∧ x3 ≤ 1) ∧ (0 ≤ x4 ∧ x4 ≤ 5) ∧ zE T (zl_48_1 x0b x1b x1ij x2ij (m + 1) Z x3 x4)) ?_ 65536 ((5 - x4).toNat) _ (by omega) ⟨x3, x4, hL, rfl, rfl, gx3, gx4, hP⟩
  clear hP gx3 gx4 hL
  clear x3 x4
  rintro m ⟨L, st, μ⟩ ⟨x3, x4, hL, hx, hm, gx3, gx4, hP⟩
  cases hx
  refine fb_48_1 x0b x1b x1i x2i (i3 x3) (i3 x4) _ _ _ _ hL ?_
  refine wz_br (i3Le (show (5 : Int32) = i3 5 from rfl) (rfl : i3 x4 = i3 x4) (by omega) (by omega) (by omega) (by omega)) (fun h1 => ?_) (fun h1 => ?_)
  · replace hP := zE_p hP h1
    exact hk _ _ _ (zconso rfl (zconso rfl (zconso rfl (zconso (zvo (rfl : i3 x3 = i3 x3)) (zconso rfl rfl)))))  (by omega) (by omega)  hP
  · replace hP := zE_n hP h1
    refine wz_i0 (i3O (n := 22) (i3A (show (12 : Int32) = i3 12 from rfl) (rfl : i3 x4 = i3 x4)) (by omega) (by omega) (by omega)) ?_
    have r2 := zH_k hZ 47 x1b x1ij 1 (lo := 0) (hi := 7) (by decide) rfl
    refine wz_i0 (i3O (n := 8) (zm_rd (Z := Z) (ν := ν) (k := 47) (rfl : ((x1b : Nat) : Int) = x1b) ex1i (show ((1 : Nat) : Int) = 1 from rfl)) (by omega) (by omega) (by omega)) ?_
    have r3 := zH_k hZ 50 x0b x2ij (12 + x4) (lo := -1) (hi := 4) (by decide) (zrn_of (lo := 12) (n := 5) (by decide) (by decide +kernel) (by omega) (by omega))
    have r4 := zH_k hZ 45 x0b (Z 47 x1b x1ij 1) 0 (lo := 0) (hi := 4) (by decide) rfl
    refine wz_br (i3NE (zm_rd (Z := Z) (ν := ν) (k := 50) (rfl : ((x0b : Nat) : Int) = x0b) ex2i (i3I (y := (12 + x4)) (i3A (show (12 : Int32) = i3 12 from rfl) (rfl : i3 x4 = i3 x4)) (by omega) (by omega) (by omega))) (zm_rd (Z := Z) (ν := ν) (k := 45) (rfl : ((x0b : Nat) : Int) = x0b) (i3I (y := (Z 47 x1b x1ij 1)) (zm_rd (Z := Z) (ν := ν) (k := 47) (rfl : ((x1b : Nat) : Int) = x1b) ex1i (show ((1 : Nat) : Int) = 1 from rfl)) (by omega) (by omega) (by omega)) (show ((0 : Nat) : Int) = 0 from rfl)) (by omega) (by omega) (by omega) (by omega)) (fun h5 => ?_) (fun h5 => ?_)
    · replace hP := zE_p hP h5
      have r6 := z2_r (fun x y => x ||| y) x3 0
      have r7 := z2_or1 (x := x3) (y := 0) (by omega) (by omega)
      obtain ⟨m2, rfl⟩ : ∃ m2, m = m2 + 1 := ⟨m - 1, by omega⟩
      exact wz_k1 ⟨m2, by omega, (z2 (fun x y => x ||| y) x3 0), (x4 + 1), (zconso rfl (zconso rfl (zconso rfl (zconso (zvo (i3Z (fun x y => x ||| y) (rfl : i3 x3 = i3 x3) (show (0 : Int32) = i3 0 from rfl))) (zconso (zvo (i3A (rfl : i3 x4 = i3 x4) (show (1 : Int32) = i3 1 from rfl))) rfl))))), rfl,  by omega, by omega, by omega,  hP⟩
    · replace hP := zE_n hP h5
      refine wz_i0 (i3O (n := 22) (i3A (show (17 : Int32) = i3 17 from rfl) (rfl : i3 x4 = i3 x4)) (by omega) (by omega) (by omega)) ?_
      have r8 := zH_k hZ 50 x0b x2ij (17 + x4) (lo := -1) (hi := 743) (by decide) (zrn_of (lo := 17) (n := 5) (by decide) (by decide +kernel) (by omega) (by omega))
      have r9 := zH_k hZ 11 x0b 0 13 (lo := 0) (hi := 671) (by decide) rfl
      refine wz_br (i3Le (zm_rd (Z := Z) (ν := ν) (k := 50) (rfl : ((x0b : Nat) : Int) = x0b) ex2i (i3I (y := (17 + x4)) (i3A (show (17 : Int32) = i3 17 from rfl) (rfl : i3 x4 = i3 x4)) (by omega) (by omega) (by omega))) (zm_rd (Z := Z) (ν := ν) (k := 11) (rfl : ((x0b : Nat) : Int) = x0b) (show ((0 : Nat) : Int) = 0 from rfl) (show ((13 : Nat) : Int) = 13 from rfl)) (by omega) (by omega) (by omega) (by omega)) (fun h10 => ?_) (fun h10 => ?_)
      · replace hP := zE_p hP h10
        have r11 := z2_r (fun x y => x ||| y) x3 0
        have r12 := z2_or1 (x := x3) (y := 0) (by omega) (by omega)
        obtain ⟨m2, rfl⟩ : ∃ m2, m = m2 + 1 := ⟨m - 1, by omega⟩
        exact wz_k1 ⟨m2, by omega, (z2 (fun x y => x ||| y) x3 0), (x4 + 1), (zconso rfl (zconso rfl (zconso rfl (zconso (zvo (i3Z (fun x y => x ||| y) (rfl : i3 x3 = i3 x3) (show (0 : Int32) = i3 0 from rfl))) (zconso (zvo (i3A (rfl : i3 x4 = i3 x4) (show (1 : Int32) = i3 1 from rfl))) rfl))))), rfl,  by omega, by omega, by omega,  hP⟩
      · replace hP := zE_n hP h10
        have r13 := z2_r (fun x y => x ||| y) x3 1
        have r14 := z2_or1 (x := x3) (y := 1) (by omega) (by omega)
        obtain ⟨m2, rfl⟩ : ∃ m2, m = m2 + 1 := ⟨m - 1, by omega⟩
        exact wz_k1 ⟨m2, by omega, (z2 (fun x y => x ||| y) x3 1), (x4 + 1), (zconso rfl (zconso rfl (zconso rfl (zconso (zvo (i3Z (fun x y => x ||| y) (rfl : i3 x3 = i3 x3) (show (1 : Int32) = i3 1 from rfl))) (zconso (zvo (i3A (rfl : i3 x4 = i3 x4) (show (1 : Int32) = i3 1 from rfl))) rfl))))), rfl,  by omega, by omega, by omega,  hP⟩
/- yX2_isDue -/
def zf_48 (Z : qz_Z) (a0b : Int) (a1b : Int) (a1ij : Int) : Int := (if (Z 50 a0b (Z 47 a1b a1ij 10) 2) ≠ 0 then (zlet2 (zl_48_1 a0b a1b a1ij (Z 47 a1b a1ij 10) 6 Z 0 0) (fun y5 y6 => y5)) else (zlet2 (zl_48_1 a0b a1b a1ij (Z 47 a1b a1ij 10) 6 Z 1 0) (fun y8 y9 => y8)))
theorem sp_48 {s : zSM} {Z : qz_Z} {ν : qz_N} (hZ : zH s Z) (a0b : Nat) (a1b : Nat) (a1i : Nat) {a1ij : Int} (ea1i : (a1i : Int) = a1ij) (ga1i : 0 ≤ a1ij ∧ a1ij ≤ 59) (gx0 : Z 47 a1b a1ij 9 = 1) (hM : s.2 + 0 ≤ 1000000000) : ∃ P : Int, P = zf_48 Z a0b a1b a1ij ∧ (qf_48 [.inr (.inr (some (10, a0b, 0))), .inr (.inr (some (47, a1b, a1i)))] (zm Z ν) = some (zm Z ν, .inl (some (.inl (i3 P)))) ∧ 0 ≤ P ∧ P ≤ 1) := by
  obtain ⟨P, hP⟩ := zx (zf_48 Z a0b a1b a1ij)
  refine zc_R (Q := fun P => 0 ≤ P ∧ P ≤ 1) hP (fw_48 a0b a1b a1i _ _ ?_)
  replace hP : zE P (zf_48 Z a0b a1b a1ij) := hP
  unfold zf_48 at hP
  have r1 := zH_k hZ 47 a1b a1ij 10 (lo := -1) (hi := 3) (by decide) rfl
  have r2 := zH_lt hZ a1b a1ij
  refine wz_i0 (i3O (n := 4) (zm_rd (Z := Z) (ν := ν) (k := 47) (rfl : ((a1b : Nat) : Int) = a1b) ea1i (show ((10 : Nat) : Int) = 10 from rfl)) (by omega) (by omega) (by omega)) ?_
  have r3 := zH_k hZ 50 a0b (Z 47 a1b a1ij 10) 2 (lo := 0) (hi := 1) (by decide) rfl
  refine wz_br (i3NE (zm_rd (Z := Z) (ν := ν) (k := 50) (rfl : ((a0b : Nat) : Int) = a0b) (i3I (y := (Z 47 a1b a1ij 10)) (zm_rd (Z := Z) (ν := ν) (k := 47) (rfl : ((a1b : Nat) : Int) = a1b) ea1i (show ((10 : Nat) : Int) = 10 from rfl)) (by omega) (by omega) (by omega)) (show ((2 : Nat) : Int) = 2 from rfl)) (show (0 : Int32) = i3 0 from rfl) (by omega) (by omega) (by omega) (by omega)) (fun h4 => ?_) (fun h4 => ?_)
  · replace hP := zE_p hP h4
    refine sl_48_1 (ν := ν) hZ (zbh (c := 0) (k := 0) hM (Nat.le_of_ble_eq_true rfl)) a0b a1b _ ea1i (by omega) _ (i3I (y := (Z 47 a1b a1ij 10)) (zm_rd (Z := Z) (ν := ν) (k := 47) (rfl : ((a1b : Nat) : Int) = a1b) ea1i (show ((10 : Nat) : Int) = 10 from rfl)) (by omega) (by omega) (by omega)) (by omega) (x3 := 0) (by omega) (x4 := 0) (by omega)  (zconso rfl (zconso rfl (zconso rfl (zconso (zvo (show (0 : Int32) = i3 0 from rfl)) (zconso (zvo (show (0 : Int32) = i3 0 from rfl)) rfl))))) rfl ?_
    intro L7 y5 y6 hL7 gy5 gy6 q9
    replace hP := zl_e2 hP (Eq.symm q9)
    clear q9
    refine fc_48_2 (i3 y5) _ _ _ _ hL7 ?_
    refine wz_i1 (i3B (rfl : i3 y5 = i3 y5) (by omega)) ?_
    exact zlR hP (rfl : i3 y5 = i3 y5) ⟨by omega, by omega⟩
  · replace hP := zE_n hP h4
    refine sl_48_1 (ν := ν) hZ (zbh (c := 0) (k := 0) hM (Nat.le_of_ble_eq_true rfl)) a0b a1b _ ea1i (by omega) _ (i3I (y := (Z 47 a1b a1ij 10)) (zm_rd (Z := Z) (ν := ν) (k := 47) (rfl : ((a1b : Nat) : Int) = a1b) ea1i (show ((10 : Nat) : Int) = 10 from rfl)) (by omega) (by omega) (by omega)) (by omega) (x3 := 1) (by omega) (x4 := 0) (by omega)  (zconso rfl (zconso rfl (zconso rfl (zconso (zvo (show (1 : Int32) = i3 1 from rfl)) (zconso (zvo (show (0 : Int32) = i3 0 from rfl)) rfl))))) rfl ?_
    intro L10 y8 y9 hL10 gy8 gy9 q9
    replace hP := zl_e2 hP (Eq.symm q9)
    clear q9
    refine fc_48_2 (i3 y8) _ _ _ _ hL10 ?_
    refine wz_i1 (i3B (rfl : i3 y8 = i3 y8) (by omega)) ?_
    exact zlR hP (rfl : i3 y8 = i3 y8) ⟨by omega, by omega⟩
/- yX2_longBySets -/
def zl_51_1 (x0b : Int) (x2 : Int) (x1 : Int) (x3 : Int) (x4 : Int) : Nat → qz_Z → Int → Int → Int × Int
  | 0, Z, x5, x6 => (x5, x6)
  | m + 1, Z, x5, x6 => (if 5 ≤ x6 then (x5, x6) else (if (z2 (fun x y => x &&& y) (z2 (fun x y => x >>> (y &&& 31)) x3 x6) 1) ≠ 1 then zl_51_1 x0b x2 x1 x3 x4 m Z x5 (x6 + 1) else zl_51_1 x0b x2 x1 x3 x4 m Z (min (w3 ((Z 40 x0b x4 x6) + (Z 200 x2 0 (6 * (z2 (fun x y => x &&& y) x3 (z2 (fun x y => x ^^^ y) (z2 (fun x y => x <<< (y &&& 31)) 1 x6) (-1))) + x6)))) x5) (x6 + 1)))
theorem sl_51_1 {s : zSM} {Z : qz_Z} {ν : qz_N} (hZ : zH s Z) (hM : s.2 + 0 ≤ 1000000000) (x0b : Nat) (x2 : Nat) (hSx2 : zSh ν x2 50 192) {x1 : Int} (gx1 : 0 ≤ x1 ∧ x1 ≤ 31) {x3 : Int} (gx3 : 0 ≤ x3 ∧ x3 ≤ 31) {x4 : Int} (gx4 : 0 ≤ x4 ∧ x4 ≤ 5) {x5 : Int} (gx5 : -2147483648 ≤ x5 ∧ x5 ≤ 671) {x6 : Int} (gx6 : 0 ≤ x6 ∧ x6 ≤ 5) {k : wz_K} {R : wz_R} {L : qz_L} (hL : qz_fg [true, true, true, true, true, true, true, false] L = [some (.inr (.inr (some (10, x0b, 0)))), some (.inl (i3 x1)), some (.inr (.inr (some (200, x2, 0)))), some (.inl (i3 x3)), some (.inl (i3 x4)), some (.inl (i3 x5)), some (.inl (i3 x6)), none]) {T : Int × Int} (hP : zE T (zl_51_1 x0b x2 x1 x3 x4 ((5 - x6).toNat + 1) Z x5 x6)) (hk : ∀ (L9 : qz_L) (yx5 yx6 : Int), qz_fg [true, true, true, true, true, true, false, false] L9 = [some (.inr (.inr (some (10, x0b, 0)))), some (.inl (i3 x1)), some (.inr (.inr (some (200, x2, 0)))), some (.inl (i3 x3)), some (.inl (i3 x4)), some (.inl (i3 yx5)), none, none] → (-2147483648 ≤ yx5 ∧ yx5 ≤ 671) → (0 ≤ yx6 ∧ yx6 ≤ 5) → zE T ((yx5, yx6)) → k 0 (L9, [], zm Z ν)) : wz_loop qb_51_1 65536 k R (L, [], zm Z ν) := by
  refine wz_lp sb_51_1 (fun m x => ∃ x5 : Int, ∃ x6 : Int, qz_fg [true, true, true, true, true, true, true, false] x.1 = [some (.inr (.inr (some (10, x0b, 0)))), some (.inl (i3 x1)), some (.inr (.inr (some (200, x2, 0)))), some (.inl (i3 x3)), some (.inl (i3 x4)), some (.inl (i3 x5)), some (.inl (i3 x6)), none] ∧ x.2 = ([], zm Z ν) ∧ m = (5 - x6).toNat ∧ (-2147483648 ≤ x5 ∧ x5 ≤ 671) ∧ (0 ≤ x6 ∧ x6 ≤ 5) ∧ zE T (zl_51_1 x0b x2 x1 x3 x4 (m + 1) Z x5 x6)) ?_ 65536 ((5 - x6).toNat) _ (by omega) ⟨x5, x6, hL, rfl, rfl, gx5, gx6, hP⟩
  clear hP gx5 gx6 hL
  clear x5 x6
  rintro m ⟨L, st, μ⟩ ⟨x5, x6, hL, hx, hm, gx5, gx6, hP⟩
  cases hx
  refine fb_51_1 x0b (i3 x1) x2 (i3 x3) (i3 x4) (i3 x5) (i3 x6) _ _ _ _ hL ?_
  refine wz_br (i3Le (show (5 : Int32) = i3 5 from rfl) (rfl : i3 x6 = i3 x6) (by omega) (by omega) (by omega) (by omega)) (fun h1 => ?_) (fun h1 => ?_)
  · replace hP := zE_p hP h1
    exact hk _ _ _ (zconso rfl (zconso (zvo (rfl : i3 x1 = i3 x1)) (zconso rfl (zconso (zvo (rfl : i3 x3 = i3 x3)) (zconso (zvo (rfl : i3 x4 = i3 x4)) (zconso (zvo (rfl : i3 x5 = i3 x5)) (zconso rfl (zconso rfl rfl))))))))  (by omega) (by omega)  hP
  · replace hP := zE_n hP h1
    have r2 := z2_r (fun x y => x >>> (y &&& 31)) x3 x6
    have r3 := z2_r (fun x y => x &&& y) (z2 (fun x y => x >>> (y &&& 31)) x3 x6) 1
    have r4 := z2_and (z2 (fun x y => x >>> (y &&& 31)) x3 x6) (y := 1) (by omega) (by omega)
    refine wz_br (i3NE (i3Z (fun x y => x &&& y) (i3Z (fun x y => x >>> (y &&& 31)) (rfl : i3 x3 = i3 x3) (rfl : i3 x6 = i3 x6)) (show (1 : Int32) = i3 1 from rfl)) (show (1 : Int32) = i3 1 from rfl) (by omega) (by omega) (by omega) (by omega)) (fun h5 => ?_) (fun h5 => ?_)
    · replace hP := zE_p hP h5
      obtain ⟨m2, rfl⟩ : ∃ m2, m = m2 + 1 := ⟨m - 1, by omega⟩
      exact wz_k1 ⟨m2, by omega, x5, (x6 + 1), (zconso rfl (zconso (zvo (rfl : i3 x1 = i3 x1)) (zconso rfl (zconso (zvo (rfl : i3 x3 = i3 x3)) (zconso (zvo (rfl : i3 x4 = i3 x4)) (zconso (zvo (rfl : i3 x5 = i3 x5)) (zconso (zvo (i3A (rfl : i3 x6 = i3 x6) (show (1 : Int32) = i3 1 from rfl))) (zconso rfl rfl)))))))), rfl,  by omega, by omega, by omega,  hP⟩
    · replace hP := zE_n hP h5
      refine wz_i0 (i3O (n := 6) (rfl : i3 x4 = i3 x4) (by omega) (by omega) (by omega)) ?_
      refine wz_i0 (i3O (n := 6) (rfl : i3 x6 = i3 x6) (by omega) (by omega) (by omega)) ?_
      refine wz_i1 (by rw [zSh_t hSx2]; rfl) ?_
      have r6 := z2_r (fun x y => x <<< (y &&& 31)) 1 x6
      have r7 := z2_shl4 (n := x6) (by omega) (by omega)
      have r8 := z2_r (fun x y => x ^^^ y) (z2 (fun x y => x <<< (y &&& 31)) 1 x6) (-1)
      have r9 := z2_r (fun x y => x &&& y) x3 (z2 (fun x y => x ^^^ y) (z2 (fun x y => x <<< (y &&& 31)) 1 x6) (-1))
      have r10 := z2_andl (z2 (fun x y => x ^^^ y) (z2 (fun x y => x <<< (y &&& 31)) 1 x6) (-1)) (x := x3) (by omega) (by omega)
      refine wz_i0 (by rw [zSh_l hSx2]; exact i3O (n := 192) (i3A (i3M (i3Z (fun x y => x &&& y) (rfl : i3 x3 = i3 x3) (i3Z (fun x y => x ^^^ y) (i3Z (fun x y => x <<< (y &&& 31)) (show (1 : Int32) = i3 1 from rfl) (rfl : i3 x6 = i3 x6)) (show (-1 : Int32) = i3 (-1) from rfl))) (show (6 : Int32) = i3 6 from rfl)) (rfl : i3 x6 = i3 x6)) (by omega) (by omega) (by omega)) ?_
      have r11 := zH_k hZ 40 x0b x4 x6 (lo := 0) (hi := 12) (by decide) (zrc_40 (by omega) (by omega))
      have r12 := zH_f hZ 200 x2 0 (6 * (z2 (fun x y => x &&& y) x3 (z2 (fun x y => x ^^^ y) (z2 (fun x y => x <<< (y &&& 31)) 1 x6) (-1))) + x6)
      have r13 := w3_r ((Z 40 x0b x4 x6) + (Z 200 x2 0 (6 * (z2 (fun x y => x &&& y) x3 (z2 (fun x y => x ^^^ y) (z2 (fun x y => x <<< (y &&& 31)) 1 x6) (-1))) + x6)))
      obtain ⟨m2, rfl⟩ : ∃ m2, m = m2 + 1 := ⟨m - 1, by omega⟩
      exact wz_k1 ⟨m2, by omega, (min (w3 ((Z 40 x0b x4 x6) + (Z 200 x2 0 (6 * (z2 (fun x y => x &&& y) x3 (z2 (fun x y => x ^^^ y) (z2 (fun x y => x <<< (y &&& 31)) 1 x6) (-1))) + x6)))) x5), (x6 + 1), (zconso rfl (zconso (zvo (rfl : i3 x1 = i3 x1)) (zconso rfl (zconso (zvo (rfl : i3 x3 = i3 x3)) (zconso (zvo (rfl : i3 x4 = i3 x4)) (zconso (zvo (i3Mn (i3W (i3A (zm_rd (Z := Z) (ν := ν) (k := 40) (rfl : ((x0b : Nat) : Int) = x0b) (i3I (y := x4) (rfl : i3 x4 = i3 x4) (by omega) (by omega) (by omega)) (i3I (y := x6) (rfl : i3 x6 = i3 x6) (by omega) (by omega) (by omega))) (zm_rd (Z := Z) (ν := ν) (k := 200) (rfl : ((x2 : Nat) : Int) = x2) (show ((0 : Nat) : Int) = 0 from rfl) (i3I (y := (6 * (z2 (fun x y => x &&& y) x3 (z2 (fun x y => x ^^^ y) (z2 (fun x y => x <<< (y &&& 31)) 1 x6) (-1))) + x6)) (i3A (i3M (i3Z (fun x y => x &&& y) (rfl : i3 x3 = i3 x3) (i3Z (fun x y => x ^^^ y) (i3Z (fun x y => x <<< (y &&& 31)) (show (1 : Int32) = i3 1 from rfl) (rfl : i3 x6 = i3 x6)) (show (-1 : Int32) = i3 (-1) from rfl))) (show (6 : Int32) = i3 6 from rfl)) (rfl : i3 x6 = i3 x6)) (by omega) (by omega) (by omega))))) (rfl : i3 x5 = i3 x5) (by omega) (by omega) (by omega) (by omega))) (zconso (zvo (i3A (rfl : i3 x6 = i3 x6) (show (1 : Int32) = i3 1 from rfl))) (zconso rfl rfl)))))))), rfl,  by omega, by omega, by omega,  hP⟩
/- yX2_longBySets -/
def zl_51_3 (x0b : Int) (x2 : Int) (x1 : Int) (x3 : Int) : Nat → qz_Z → Int → qz_Z × Int
  | 0, Z, x4 => (Z, x4)
  | m + 1, Z, x4 => (if 5 < x4 then (Z, x4) else (if x3 ≠ 0 then (zlet2 (zl_51_1 x0b x2 x1 x3 x4 6 Z 671 0) (fun y4 y5 => (zlet (zu Z 200 x2 0 (6 * x3 + x4) y4) (fun Z7 => zl_51_3 x0b x2 x1 x3 m Z7 (x4 + 1))))) else (zlet2 (zl_51_1 x0b x2 x1 x3 x4 6 Z (Z 40 x0b x4 5) 0) (fun y9 y10 => (zlet (zu Z 200 x2 0 (6 * x3 + x4) y9) (fun Z12 => zl_51_3 x0b x2 x1 x3 m Z12 (x4 + 1)))))))
theorem sl_51_3 {s : zSM} {Zs Z : qz_Z} {ν : qz_N} (hZ : zH s Z) (hM : s.2 + 0 ≤ 1000000000) (hs : s.1 = none) {n9 : Nat} (hn : ν.2.2.2.1 = n9) (x0b : Nat) (x2 : Nat) (hSx2 : zSh ν x2 50 192) {x1 : Int} (gx1 : 0 ≤ x1 ∧ x1 ≤ 31) {x3 : Int} (gx3 : 0 ≤ x3 ∧ x3 ≤ 31) {x4 : Int} (gx4 : 0 ≤ x4 ∧ x4 ≤ 6) (hK : zL [] [x2] n9 Zs Z) (hU : zU [] Zs Z) {k : wz_K} {R : wz_R} {L : qz_L} (hL : qz_fg [true, true, true, true, true, false, false, false] L = [some (.inr (.inr (some (10, x0b, 0)))), some (.inl (i3 x1)), some (.inr (.inr (some (200, x2, 0)))), some (.inl (i3 x3)), some (.inl (i3 x4)), none, none, none]) {T : qz_Z × Int} (hP : zE T (zl_51_3 x0b x2 x1 x3 ((6 - x4).toNat + 1) Z x4)) (hk : ∀ (L9 : qz_L) (Z9 : qz_Z) (yx4 : Int), qz_fg [true, true, true, true, false, false, false, false] L9 = [some (.inr (.inr (some (10, x0b, 0)))), some (.inl (i3 x1)), some (.inr (.inr (some (200, x2, 0)))), some (.inl (i3 x3)), none, none, none, none] → zH s Z9 → zL [] [x2] n9 Zs Z9 → zU [] Zs Z9 → (0 ≤ yx4 ∧ yx4 ≤ 6) → zE T ((Z9, yx4)) → k 0 (L9, [], zm Z9 ν)) : wz_loop qb_51_3 65536 k R (L, [], zm Z ν) := by
  refine wz_lp sb_51_3 (fun m x => ∃ Z : qz_Z, ∃ x4 : Int, qz_fg [true, true, true, true, true, false, false, false] x.1 = [some (.inr (.inr (some (10, x0b, 0)))), some (.inl (i3 x1)), some (.inr (.inr (some (200, x2, 0)))), some (.inl (i3 x3)), some (.inl (i3 x4)), none, none, none] ∧ x.2 = ([], zm Z ν) ∧ zH s Z ∧ zL [] [x2] n9 Zs Z ∧ zU [] Zs Z ∧ m = (6 - x4).toNat ∧ (0 ≤ x4 ∧ x4 ≤ 6) ∧ zE T (zl_51_3 x0b x2 x1 x3 (m + 1) Z x4)) ?_ 65536 ((6 - x4).toNat) _ (by omega) ⟨Z, x4, hL, rfl, hZ, hK, hU, rfl, gx4, hP⟩
  clear hP gx4 hZ hK hU hL
  clear x4
  clear Z
  rintro m ⟨L, st, μ⟩ ⟨Z, x4, hL, hx, hZ, hK, hU, hm, gx4, hP⟩
  cases hx
  refine fb_51_3 x0b (i3 x1) x2 (i3 x3) (i3 x4) _ _ _ _ hL ?_
  have r1 := hSx2.1
  refine wz_br (i3L (show (5 : Int32) = i3 5 from rfl) (rfl : i3 x4 = i3 x4) (by omega) (by omega) (by omega) (by omega)) (fun h2 => ?_) (fun h2 => ?_)
  · replace hP := zE_p hP h2
    exact hk _ _ _ (zconso rfl (zconso (zvo (rfl : i3 x1 = i3 x1)) (zconso rfl (zconso (zvo (rfl : i3 x3 = i3 x3)) (zconso rfl (zconso rfl (zconso rfl (zconso rfl rfl)))))))) hZ hK hU (by omega)  hP
  · replace hP := zE_n hP h2
    refine wz_br (i3NE (rfl : i3 x3 = i3 x3) (show (0 : Int32) = i3 0 from rfl) (by omega) (by omega) (by omega) (by omega)) (fun h3 => ?_) (fun h3 => ?_)
    · replace hP := zE_p hP h3
      refine sl_51_1 (ν := ν) hZ (zbh (c := 0) (k := 0) hM (Nat.le_of_ble_eq_true rfl)) x0b x2 hSx2 (x1 := x1) (by omega) (x3 := x3) (by omega) (x4 := x4) (by omega) (x5 := 671) (by omega) (x6 := 0) (by omega)  (zconso rfl (zconso (zvo (rfl : i3 x1 = i3 x1)) (zconso rfl (zconso (zvo (rfl : i3 x3 = i3 x3)) (zconso (zvo (rfl : i3 x4 = i3 x4)) (zconso (zvo (show (671 : Int32) = i3 671 from rfl)) (zconso (zvo (show (0 : Int32) = i3 0 from rfl)) (zconso rfl rfl)))))))) rfl ?_
      intro L6 y4 y5 hL6 gy4 gy5 q9
      replace hP := zl_e2 hP (Eq.symm q9)
      clear q9
      refine fc_51_2 _ (i3 x1) _ (i3 x3) (i3 x4) (i3 y4) _ _ _ _ hL6 ?_
      refine wz_i1 (by rw [zSh_t hSx2]; rfl) ?_
      refine wz_i0 (by rw [zSh_l hSx2]; exact i3O (n := 192) (i3A (i3M (rfl : i3 x3 = i3 x3) (show (6 : Int32) = i3 6 from rfl)) (rfl : i3 x4 = i3 x4)) (by omega) (by omega) (by omega)) ?_
      obtain ⟨Z7, hZ7⟩ := zx (zu Z 200 x2 0 (6 * x3 + x4) y4)
      replace hP := zl_e hP hZ7
      have hZ7I := zH_200 hZ hZ7 (by omega) hs
      have hZ7U : zU [] Zs Z7 := zU_u hU hZ7 (Or.inl rfl)
      have hZ7K : zL [] [x2] n9 Zs Z7 := zL_a hK hZ7 (Or.inl (by simp))
      intro μ9 e9
      replace e9 := e9.trans (zm_wI (Z := Z) (ν := ν) hZ7 (rfl : ((x2 : Nat) : Int) = x2) (show ((0 : Nat) : Int) = 0 from rfl) (i3I (y := (6 * x3 + x4)) (i3A (i3M (rfl : i3 x3 = i3 x3) (show (6 : Int32) = i3 6 from rfl)) (rfl : i3 x4 = i3 x4)) (by omega) (by omega) (by omega)) (rfl : i3 y4 = i3 y4))
      subst e9
      obtain ⟨m2, rfl⟩ : ∃ m2, m = m2 + 1 := ⟨m - 1, by omega⟩
      refine wz_kbs (n := 1) (?_)
      exact wz_k1 ⟨m2, by omega, Z7, (x4 + 1), (zconso rfl (zconso (zvo (rfl : i3 x1 = i3 x1)) (zconso rfl (zconso (zvo (rfl : i3 x3 = i3 x3)) (zconso (zvo (i3A (rfl : i3 x4 = i3 x4) (show (1 : Int32) = i3 1 from rfl))) (zconso rfl (zconso rfl (zconso rfl rfl)))))))), rfl, hZ7I, hZ7K, hZ7U, by omega, by omega,  hP⟩
    · replace hP := zE_n hP h3
      refine wz_i0 (i3O (n := 6) (rfl : i3 x4 = i3 x4) (by omega) (by omega) (by omega)) ?_
      have r8 := zH_k hZ 40 x0b x4 5 (lo := 0) (hi := 12) (by decide) rfl
      refine sl_51_1 (ν := ν) hZ (zbh (c := 0) (k := 0) hM (Nat.le_of_ble_eq_true rfl)) x0b x2 hSx2 (x1 := x1) (by omega) (x3 := x3) (by omega) (x4 := x4) (by omega) (x5 := (Z 40 x0b x4 5)) (by omega) (x6 := 0) (by omega)  (zconso rfl (zconso (zvo (rfl : i3 x1 = i3 x1)) (zconso rfl (zconso (zvo (rfl : i3 x3 = i3 x3)) (zconso (zvo (rfl : i3 x4 = i3 x4)) (zconso (zvo (zm_rd (Z := Z) (ν := ν) (k := 40) (rfl : ((x0b : Nat) : Int) = x0b) (i3I (y := x4) (rfl : i3 x4 = i3 x4) (by omega) (by omega) (by omega)) (show ((5 : Nat) : Int) = 5 from rfl))) (zconso (zvo (show (0 : Int32) = i3 0 from rfl)) (zconso rfl rfl)))))))) rfl ?_
      intro L11 y9 y10 hL11 gy9 gy10 q9
      replace hP := zl_e2 hP (Eq.symm q9)
      clear q9
      refine fc_51_2 _ (i3 x1) _ (i3 x3) (i3 x4) (i3 y9) _ _ _ _ hL11 ?_
      refine wz_i1 (by rw [zSh_t hSx2]; rfl) ?_
      refine wz_i0 (by rw [zSh_l hSx2]; exact i3O (n := 192) (i3A (i3M (rfl : i3 x3 = i3 x3) (show (6 : Int32) = i3 6 from rfl)) (rfl : i3 x4 = i3 x4)) (by omega) (by omega) (by omega)) ?_
      obtain ⟨Z12, hZ12⟩ := zx (zu Z 200 x2 0 (6 * x3 + x4) y9)
      replace hP := zl_e hP hZ12
      have hZ12I := zH_200 hZ hZ12 (by omega) hs
      have hZ12U : zU [] Zs Z12 := zU_u hU hZ12 (Or.inl rfl)
      have hZ12K : zL [] [x2] n9 Zs Z12 := zL_a hK hZ12 (Or.inl (by simp))
      intro μ9 e9
      replace e9 := e9.trans (zm_wI (Z := Z) (ν := ν) hZ12 (rfl : ((x2 : Nat) : Int) = x2) (show ((0 : Nat) : Int) = 0 from rfl) (i3I (y := (6 * x3 + x4)) (i3A (i3M (rfl : i3 x3 = i3 x3) (show (6 : Int32) = i3 6 from rfl)) (rfl : i3 x4 = i3 x4)) (by omega) (by omega) (by omega)) (rfl : i3 y9 = i3 y9))
      subst e9
      obtain ⟨m2, rfl⟩ : ∃ m2, m = m2 + 1 := ⟨m - 1, by omega⟩
      refine wz_kbs (n := 1) (?_)
      exact wz_k1 ⟨m2, by omega, Z12, (x4 + 1), (zconso rfl (zconso (zvo (rfl : i3 x1 = i3 x1)) (zconso rfl (zconso (zvo (rfl : i3 x3 = i3 x3)) (zconso (zvo (i3A (rfl : i3 x4 = i3 x4) (show (1 : Int32) = i3 1 from rfl))) (zconso rfl (zconso rfl (zconso rfl rfl)))))))), rfl, hZ12I, hZ12K, hZ12U, by omega, by omega,  hP⟩
/- yX2_longBySets -/
def zl_51_5 (x0b : Int) (x2 : Int) (x1 : Int) : Nat → qz_Z → Int → qz_Z × Int
  | 0, Z, x3 => (Z, x3)
  | m + 1, Z, x3 => (if 32 ≤ x3 then (Z, x3) else (zlet2 (zl_51_3 x0b x2 x1 x3 7 Z 0) (fun Z4 y3 => zl_51_5 x0b x2 x1 m Z4 (x3 + 1))))
theorem sl_51_5 {s : zSM} {Zs Z : qz_Z} {ν : qz_N} (hZ : zH s Z) (hM : s.2 + 0 ≤ 1000000000) (hs : s.1 = none) {n9 : Nat} (hn : ν.2.2.2.1 = n9) (x0b : Nat) (x2 : Nat) (hSx2 : zSh ν x2 50 192) {x1 : Int} (gx1 : 0 ≤ x1 ∧ x1 ≤ 31) {x3 : Int} (gx3 : 0 ≤ x3 ∧ x3 ≤ 32) (hK : zL [] [x2] n9 Zs Z) (hU : zU [] Zs Z) {k : wz_K} {R : wz_R} {L : qz_L} (hL : qz_fg [true, true, true, true, false, false, false, false] L = [some (.inr (.inr (some (10, x0b, 0)))), some (.inl (i3 x1)), some (.inr (.inr (some (200, x2, 0)))), some (.inl (i3 x3)), none, none, none, none]) {T : qz_Z × Int} (hP : zE T (zl_51_5 x0b x2 x1 ((32 - x3).toNat + 1) Z x3)) (hk : ∀ (L9 : qz_L) (Z9 : qz_Z) (yx3 : Int), qz_fg [false, true, true, false, false, false, false, false] L9 = [none, some (.inl (i3 x1)), some (.inr (.inr (some (200, x2, 0)))), none, none, none, none, none] → zH s Z9 → zL [] [x2] n9 Zs Z9 → zU [] Zs Z9 → (0 ≤ yx3 ∧ yx3 ≤ 32) → zE T ((Z9, yx3)) → k 0 (L9, [], zm Z9 ν)) : wz_loop qb_51_5 65536 k R (L, [], zm Z ν) := by
  refine wz_lp sb_51_5 (fun m x => ∃ Z : qz_Z, ∃ x3 : Int, qz_fg [true, true, true, true, false, false, false, false] x.1 = [some (.inr (.inr (some (10, x0b, 0)))), some (.inl (i3 x1)), some (.inr (.inr (some (200, x2, 0)))), some (.inl (i3 x3)), none, none, none, none] ∧ x.2 = ([], zm Z ν) ∧ zH s Z ∧ zL [] [x2] n9 Zs Z ∧ zU [] Zs Z ∧ m = (32 - x3).toNat ∧ (0 ≤ x3 ∧ x3 ≤ 32) ∧ zE T (zl_51_5 x0b x2 x1 (m + 1) Z x3)) ?_ 65536 ((32 - x3).toNat) _ (by omega) ⟨Z, x3, hL, rfl, hZ, hK, hU, rfl, gx3, hP⟩
  clear hP gx3 hZ hK hU hL
  clear x3
  clear Z
  rintro m ⟨L, st, μ⟩ ⟨Z, x3, hL, hx, hZ, hK, hU, hm, gx3, hP⟩
  cases hx
  refine fb_51_5 x0b (i3 x1) x2 (i3 x3) _ _ _ _ hL ?_
  have r1 := hSx2.1
  refine wz_br (i3Le (show (32 : Int32) = i3 32 from rfl) (rfl : i3 x3 = i3 x3) (by omega) (by omega) (by omega) (by omega)) (fun h2 => ?_) (fun h2 => ?_)
  · replace hP := zE_p hP h2
    exact hk _ _ _ (zconso rfl (zconso (zvo (rfl : i3 x1 = i3 x1)) (zconso rfl (zconso rfl (zconso rfl (zconso rfl (zconso rfl (zconso rfl rfl)))))))) hZ hK hU (by omega)  hP
  · replace hP := zE_n hP h2
    refine sl_51_3 (ν := ν) hZ (zbh (c := 0) (k := 0) hM (Nat.le_of_ble_eq_true rfl)) hs hn x0b x2 hSx2 (x1 := x1) (by omega) (x3 := x3) (by omega) (x4 := 0) (by omega) zL_r zU_r  (zconso rfl (zconso (zvo (rfl : i3 x1 = i3 x1)) (zconso rfl (zconso (zvo (rfl : i3 x3 = i3 x3)) (zconso (zvo (show (0 : Int32) = i3 0 from rfl)) (zconso rfl (zconso rfl (zconso rfl rfl)))))))) rfl ?_
    intro L5 Z4 y3 hL5 hZ4I kZ4 jZ4 gy3 q9
    replace hP := zl_e2 hP (Eq.symm q9)
    clear q9
    have hZ4U : zU [] Zs Z4 := zU_t hU jZ4 zU_b0
    have hZ4K : zL [] [x2] n9 Zs Z4 := zL_t hK kZ4 (by decide) (zL_b1 (Or.inl (by simp)) zL_b0) (by omega)
    refine fc_51_4 _ (i3 x1) _ (i3 x3) _ _ _ _ hL5 ?_
    obtain ⟨m2, rfl⟩ : ∃ m2, m = m2 + 1 := ⟨m - 1, by omega⟩
    refine wz_kbs (n := 1) (?_)
    exact wz_k1 ⟨m2, by omega, Z4, (x3 + 1), (zconso rfl (zconso (zvo (rfl : i3 x1 = i3 x1)) (zconso rfl (zconso (zvo (i3A (rfl : i3 x3 = i3 x3) (show (1 : Int32) = i3 1 from rfl))) (zconso rfl (zconso rfl (zconso rfl (zconso rfl rfl)))))))), rfl, hZ4I, hZ4K, hZ4U, by omega, by omega,  hP⟩
/- yX2_longBySets -/
def zf_51 (Z : qz_Z) (n9 : Int) (a0b : Int) (a1 : Int) : qz_Z × Int × Int := (zlet (zzi Z n9) (fun Z1 => (zlet (n9 + 1) (fun n3 => (zlet2 (zl_51_5 a0b n9 a1 33 Z1 0) (fun Z5 y4 => (Z5, n3, (Z5 200 n9 0 (5 + 6 * a1)))))))))
theorem sp_51 {s : zSM} {Z : qz_Z} {ν : qz_N} (hZ : zH s Z) (hs : s.1 = none) {n9 : Nat} (hn : ν.2.2.2.1 = n9) (a0b : Nat) {a1 : Int} (ga1 : 0 ≤ a1 ∧ a1 ≤ 31) (hM : s.2 + 0 ≤ 1000000000) : ∃ (Z1 : qz_Z) (ν1 : qz_N) (n1 : Nat) (P : Int), (Z1, (n1 : Int), P) = zf_51 Z n9 a0b a1 ∧ (qf_51 [.inr (.inr (some (10, a0b, 0))), .inl (i3 a1)] (zm Z ν) = some (zm Z1 ν1, .inl (some (.inl (i3 P)))) ∧ zH s Z1 ∧ zL [] [] n9 Z Z1 ∧ zU [] Z Z1 ∧ ν1.2.2.2.1 = n1 ∧ zGl 192 ν ν1 ∧ n9 ≤ n1 ∧ n1 ≤ n9 + 1 ∧ -2147483648 ≤ P ∧ P ≤ 2147483647) := by
  obtain ⟨P, hP⟩ := zx (zf_51 Z n9 a0b a1)
  refine zc_Wn (Q := fun Z1 ν1 n1 P => zH s Z1 ∧ zL [] [] n9 Z Z1 ∧ zU [] Z Z1 ∧ ν1.2.2.2.1 = n1 ∧ zGl 192 ν ν1 ∧ n9 ≤ n1 ∧ n1 ≤ n9 + 1 ∧ -2147483648 ≤ P ∧ P ≤ 2147483647) hP (fw_51 a0b (i3 a1) _ _ ?_)
  replace hP : zE P (zf_51 Z n9 a0b a1) := hP
  unfold zf_51 at hP
  obtain ⟨Z1, hZ1⟩ := zx (zzr Z n9)
  obtain ⟨ν2, hν2⟩ := zx (nal ν 50 1 192 1 192)
  obtain ⟨n3, hn3⟩ : ∃ m : Nat, m = n9 + 1 := ⟨_, rfl⟩
  replace hP := zl_e hP (hZ1.trans zzi_e)
  replace hP := zl_e hP (show ((n3 : Nat) : Int) = ((n9 : Nat) : Int) + 1 from by omega)
  intro μ9 e9
  replace e9 := zal_e e9 hn hZ1 hν2
  subst e9
  rw [show qz_na (zm Z ν) = n9 from hn]
  have hZ1I := zH_z hZ hZ1 hs
  have hZ1K : zL [] [] n9 Z Z1 := zL_z2 zL_r (by omega) hZ1
  have hZ1U : zU [] Z Z1 := zU_z zU_r hZ1
  have hnν2 := (nal_na hn hν2).trans hn3.symm
  have hGν2 := zGl_al (K := 192) zGl_r hν2 (by decide)
  have hSν2 := zSh_new hn hν2
  refine sl_51_5 (ν := ν2) hZ1I (zbh (c := 0) (k := 0) hM (Nat.le_of_ble_eq_true rfl)) hs hnν2 a0b n9 hSν2 (x1 := a1) (by omega) (x3 := 0) (by omega) zL_r zU_r  (zconso rfl (zconso (zvo (rfl : i3 a1 = i3 a1)) (zconso rfl (zconso (zvo (show (0 : Int32) = i3 0 from rfl)) (zconso rfl (zconso rfl (zconso rfl (zconso rfl rfl)))))))) rfl ?_
  intro L6 Z5 y4 hL6 hZ5I kZ5 jZ5 gy4 q9
  replace hP := zl_e2 hP (Eq.symm q9)
  clear q9
  have hZ5U : zU [] Z Z5 := zU_t hZ1U jZ5 zU_b0
  have hZ5K : zL [] [] n9 Z Z5 := zL_t hZ1K kZ5 (by decide) (zL_b1 (Or.inr (by omega)) zL_b0) (by omega)
  refine fc_51_6 (i3 a1) _ _ _ _ _ hL6 ?_
  refine wz_i1 (by rw [zSh_t hSν2]; rfl) ?_
  refine wz_i0 (by rw [zSh_l hSν2]; exact i3O (n := 192) (i3A (i3M (rfl : i3 a1 = i3 a1) (show (6 : Int32) = i3 6 from rfl)) (show (5 : Int32) = i3 5 from rfl)) (by omega) (by omega) (by omega)) ?_
  have r7 := zH_f hZ5I 200 n9 0 (5 + 6 * a1)
  exact zlWn hP (zm_rd (Z := Z5) (ν := ν2) (k := 200) (rfl : ((n9 : Nat) : Int) = n9) (show ((0 : Nat) : Int) = 0 from rfl) (i3I (y := (5 + 6 * a1)) (i3A (i3M (rfl : i3 a1 = i3 a1) (show (6 : Int32) = i3 6 from rfl)) (show (5 : Int32) = i3 5 from rfl)) (by omega) (by omega) (by omega))) ⟨hZ5I, hZ5K, hZ5U, hnν2, hGν2, by omega, by omega, by omega, by omega⟩
/- yX2_areSound -/
def zl_38_1 (x0b : Int) : Nat → qz_Z → Int → Int → Int × Int
  | 0, Z, x1, x2 => (x1, x2)
  | m + 1, Z, x1, x2 => (if (Z 11 x0b 0 6) ≤ x2 then (x1, x2) else (if x1 = 0 then (x1, x2) else (if (Z 47 x0b x2 10) < 0 then (if (Z 47 x0b x2 9) ≠ 1 then zl_38_1 x0b m Z 1 (x2 + 1) else zl_38_1 x0b m Z 0 (x2 + 1)) else (if ((Z 11 x0b 0 8) - 1) < (Z 47 x0b x2 10) then (if (Z 47 x0b x2 9) ≠ 1 then zl_38_1 x0b m Z 0 (x2 + 1) else zl_38_1 x0b m Z 0 (x2 + 1)) else (if (Z 47 x0b x2 9) ≠ 1 then zl_38_1 x0b m Z 0 (x2 + 1) else (zlet (zf_48 Z x0b x0b x2) (fun v15 => (if v15 = 0 then zl_38_1 x0b m Z 0 (x2 + 1) else zl_38_1 x0b m Z 1 (x2 + 1)))))))))
theorem sl_38_1 {s : zSM} {Z : qz_Z} {ν : qz_N} (hZ : zH s Z) (hM : s.2 + 0 ≤ 1000000000) (x0b : Nat) {x1 : Int} (gx1 : 0 ≤ x1 ∧ x1 ≤ 1) {x2 : Int} (gx2 : 0 ≤ x2 ∧ x2 ≤ 60) {k : wz_K} {R : wz_R} {L : qz_L} (hL : qz_fg [true, true, true, false, false, false, false] L = [some (.inr (.inr (some (10, x0b, 0)))), some (.inl (i3 x1)), some (.inl (i3 x2)), none, none, none, none]) {T : Int × Int} (hP : zE T (zl_38_1 x0b ((60 - x2).toNat + 1) Z x1 x2)) (hk : ∀ (L9 : qz_L) (yx1 yx2 : Int), qz_fg [true, true, false, false, false, false, false] L9 = [some (.inr (.inr (some (10, x0b, 0)))), some (.inl (i3 yx1)), none, none, none, none, none] → (0 ≤ yx1 ∧ yx1 ≤ 1) → (0 ≤ yx2 ∧ yx2 ≤ 60) → zE T ((yx1, yx2)) → k 0 (L9, [], zm Z ν)) : wz_loop qb_38_1 65536 k R (L, [], zm Z ν) := by
  refine wz_lp sb_38_1 (fun m x => ∃ x1 : Int, ∃ x2 : Int, qz_fg [true, true, true, false, false, false, false] x.1 = [some (.inr (.inr (some (10, x0b, 0)))), some (.inl (i3 x1)), some (.inl (i3 x2)), none, none, none, none] ∧ x.2 = ([], zm Z ν) ∧ m = (60 - x2).toNat ∧ (0 ≤ x1 ∧ x1 ≤ 1) ∧ (0 ≤ x2 ∧ x2 ≤ 60) ∧ zE T (zl_38_1 x0b (m + 1) Z x1 x2)) ?_ 65536 ((60 - x2).toNat) _ (by omega) ⟨x1, x2, hL, rfl, rfl, gx1, gx2, hP⟩
  clear hP gx1 gx2 hL
  clear x1 x2
  rintro m ⟨L, st, μ⟩ ⟨x1, x2, hL, hx, hm, gx1, gx2, hP⟩
  cases hx
  refine fb_38_1 x0b (i3 x1) (i3 x2) _ _ _ _ hL ?_
  have r1 := zH_k hZ 11 x0b 0 6 (lo := 0) (hi := 60) (by decide) rfl
  refine wz_br (i3Le (zm_rd (Z := Z) (ν := ν) (k := 11) (rfl : ((x0b : Nat) : Int) = x0b) (show ((0 : Nat) : Int) = 0 from rfl) (show ((6 : Nat) : Int) = 6 from rfl)) (rfl : i3 x2 = i3 x2) (by omega) (by omega) (by omega) (by omega)) (fun h2 => ?_) (fun h2 => ?_)
  · replace hP := zE_p hP h2
    exact hk _ _ _ (zconso rfl (zconso (zvo (rfl : i3 x1 = i3 x1)) (zconso rfl (zconso rfl (zconso rfl (zconso rfl (zconso rfl rfl)))))))  (by omega) (by omega)  hP
  · replace hP := zE_n hP h2
    refine wz_br (i3E (rfl : i3 x1 = i3 x1) (show (0 : Int32) = i3 0 from rfl) (by omega) (by omega) (by omega) (by omega)) (fun h3 => ?_) (fun h3 => ?_)
    · replace hP := zE_p hP h3
      exact hk _ _ _ (zconso rfl (zconso (zvo (rfl : i3 x1 = i3 x1)) (zconso rfl (zconso rfl (zconso rfl (zconso rfl (zconso rfl rfl)))))))  (by omega) (by omega)  hP
    · replace hP := zE_n hP h3
      refine wz_i0 (i3O (n := 60) (rfl : i3 x2 = i3 x2) (by omega) (by omega) (by omega)) ?_
      have r4 := zH_k hZ 47 x0b x2 10 (lo := -1) (hi := 3) (by decide) rfl
      have r5 := zH_lt hZ x0b x2
      refine wz_br (i3L (zm_rd (Z := Z) (ν := ν) (k := 47) (rfl : ((x0b : Nat) : Int) = x0b) (i3I (y := x2) (rfl : i3 x2 = i3 x2) (by omega) (by omega) (by omega)) (show ((10 : Nat) : Int) = 10 from rfl)) (show (0 : Int32) = i3 0 from rfl) (by omega) (by omega) (by omega) (by omega)) (fun h6 => ?_) (fun h6 => ?_)
      · replace hP := zE_p hP h6
        have r7 := zH_k hZ 47 x0b x2 9 (lo := 0) (hi := 3) (by decide) rfl
        refine wz_br (i3NE (zm_rd (Z := Z) (ν := ν) (k := 47) (rfl : ((x0b : Nat) : Int) = x0b) (i3I (y := x2) (rfl : i3 x2 = i3 x2) (by omega) (by omega) (by omega)) (show ((9 : Nat) : Int) = 9 from rfl)) (show (1 : Int32) = i3 1 from rfl) (by omega) (by omega) (by omega) (by omega)) (fun h8 => ?_) (fun h8 => ?_)
        · replace hP := zE_p hP h8
          refine wz_i0 (Eq.trans (i3NE (zm_rd (Z := Z) (ν := ν) (k := 47) (rfl : ((x0b : Nat) : Int) = x0b) (i3I (y := x2) (rfl : i3 x2 = i3 x2) (by omega) (by omega) (by omega)) (show ((10 : Nat) : Int) = 10 from rfl)) (show (-1 : Int32) = i3 (-1) from rfl) (by omega) (by omega) (by omega) (by omega)) (decide_eq_false (by omega))) ?_
          obtain ⟨m2, rfl⟩ : ∃ m2, m = m2 + 1 := ⟨m - 1, by omega⟩
          exact wz_k1 ⟨m2, by omega, 1, (x2 + 1), (zconso rfl (zconso (zvo (show (1 : Int32) = i3 1 from rfl)) (zconso (zvo (i3A (rfl : i3 x2 = i3 x2) (show (1 : Int32) = i3 1 from rfl))) (zconso rfl (zconso rfl (zconso rfl (zconso rfl rfl))))))), rfl,  by omega, by omega, by omega,  hP⟩
        · replace hP := zE_n hP h8
          obtain ⟨m2, rfl⟩ : ∃ m2, m = m2 + 1 := ⟨m - 1, by omega⟩
          exact wz_k1 ⟨m2, by omega, 0, (x2 + 1), (zconso rfl (zconso (zvo (show (0 : Int32) = i3 0 from rfl)) (zconso (zvo (i3A (rfl : i3 x2 = i3 x2) (show (1 : Int32) = i3 1 from rfl))) (zconso rfl (zconso rfl (zconso rfl (zconso rfl rfl))))))), rfl,  by omega, by omega, by omega,  hP⟩
      · replace hP := zE_n hP h6
        have r9 := zH_k hZ 11 x0b 0 8 (lo := 0) (hi := 4) (by decide) rfl
        refine wz_br (i3L (i3S (zm_rd (Z := Z) (ν := ν) (k := 11) (rfl : ((x0b : Nat) : Int) = x0b) (show ((0 : Nat) : Int) = 0 from rfl) (show ((8 : Nat) : Int) = 8 from rfl)) (show (1 : Int32) = i3 1 from rfl)) (zm_rd (Z := Z) (ν := ν) (k := 47) (rfl : ((x0b : Nat) : Int) = x0b) (i3I (y := x2) (rfl : i3 x2 = i3 x2) (by omega) (by omega) (by omega)) (show ((10 : Nat) : Int) = 10 from rfl)) (by omega) (by omega) (by omega) (by omega)) (fun h10 => ?_) (fun h10 => ?_)
        · replace hP := zE_p hP h10
          have r11 := zH_k hZ 47 x0b x2 9 (lo := 0) (hi := 3) (by decide) rfl
          refine wz_br (i3NE (zm_rd (Z := Z) (ν := ν) (k := 47) (rfl : ((x0b : Nat) : Int) = x0b) (i3I (y := x2) (rfl : i3 x2 = i3 x2) (by omega) (by omega) (by omega)) (show ((9 : Nat) : Int) = 9 from rfl)) (show (1 : Int32) = i3 1 from rfl) (by omega) (by omega) (by omega) (by omega)) (fun h12 => ?_) (fun h12 => ?_)
          · replace hP := zE_p hP h12
            refine wz_i1 (Eq.trans (i3NE (zm_rd (Z := Z) (ν := ν) (k := 47) (rfl : ((x0b : Nat) : Int) = x0b) (i3I (y := x2) (rfl : i3 x2 = i3 x2) (by omega) (by omega) (by omega)) (show ((10 : Nat) : Int) = 10 from rfl)) (show (-1 : Int32) = i3 (-1) from rfl) (by omega) (by omega) (by omega) (by omega)) (decide_eq_true (by omega))) ?_
            obtain ⟨m2, rfl⟩ : ∃ m2, m = m2 + 1 := ⟨m - 1, by omega⟩
            exact wz_k1 ⟨m2, by omega, 0, (x2 + 1), (zconso rfl (zconso (zvo (show (0 : Int32) = i3 0 from rfl)) (zconso (zvo (i3A (rfl : i3 x2 = i3 x2) (show (1 : Int32) = i3 1 from rfl))) (zconso rfl (zconso rfl (zconso rfl (zconso rfl rfl))))))), rfl,  by omega, by omega, by omega,  hP⟩
          · replace hP := zE_n hP h12
            obtain ⟨m2, rfl⟩ : ∃ m2, m = m2 + 1 := ⟨m - 1, by omega⟩
            exact wz_k1 ⟨m2, by omega, 0, (x2 + 1), (zconso rfl (zconso (zvo (show (0 : Int32) = i3 0 from rfl)) (zconso (zvo (i3A (rfl : i3 x2 = i3 x2) (show (1 : Int32) = i3 1 from rfl))) (zconso rfl (zconso rfl (zconso rfl (zconso rfl rfl))))))), rfl,  by omega, by omega, by omega,  hP⟩
        · replace hP := zE_n hP h10
          have r13 := zH_k hZ 47 x0b x2 9 (lo := 0) (hi := 3) (by decide) rfl
          refine wz_br (i3NE (zm_rd (Z := Z) (ν := ν) (k := 47) (rfl : ((x0b : Nat) : Int) = x0b) (i3I (y := x2) (rfl : i3 x2 = i3 x2) (by omega) (by omega) (by omega)) (show ((9 : Nat) : Int) = 9 from rfl)) (show (1 : Int32) = i3 1 from rfl) (by omega) (by omega) (by omega) (by omega)) (fun h14 => ?_) (fun h14 => ?_)
          · replace hP := zE_p hP h14
            refine wz_i1 (Eq.trans (i3NE (zm_rd (Z := Z) (ν := ν) (k := 47) (rfl : ((x0b : Nat) : Int) = x0b) (i3I (y := x2) (rfl : i3 x2 = i3 x2) (by omega) (by omega) (by omega)) (show ((10 : Nat) : Int) = 10 from rfl)) (show (-1 : Int32) = i3 (-1) from rfl) (by omega) (by omega) (by omega) (by omega)) (decide_eq_true (by omega))) ?_
            obtain ⟨m2, rfl⟩ : ∃ m2, m = m2 + 1 := ⟨m - 1, by omega⟩
            exact wz_k1 ⟨m2, by omega, 0, (x2 + 1), (zconso rfl (zconso (zvo (show (0 : Int32) = i3 0 from rfl)) (zconso (zvo (i3A (rfl : i3 x2 = i3 x2) (show (1 : Int32) = i3 1 from rfl))) (zconso rfl (zconso rfl (zconso rfl (zconso rfl rfl))))))), rfl,  by omega, by omega, by omega,  hP⟩
          · replace hP := zE_n hP h14
            obtain ⟨v15, hv15, c9, lv15, uv15⟩ := sp_48 (ν := ν) hZ x0b x0b _ (i3I (y := x2) (rfl : i3 x2 = i3 x2) (by omega) (by omega) (by omega)) (by omega) (by omega) (zbh (c := 0) (k := 0) hM (Nat.le_of_ble_eq_true rfl))
            replace hP := zl_e hP hv15
            refine wz_cI_of (zas (zcons rfl (zcons rfl rfl)) c9) ?_
            clear c9
            refine wz_br (i3E (rfl : i3 v15 = i3 v15) (show (0 : Int32) = i3 0 from rfl) (by omega) (by omega) (by omega) (by omega)) (fun h16 => ?_) (fun h16 => ?_)
            · replace hP := zE_p hP h16
              obtain ⟨m2, rfl⟩ : ∃ m2, m = m2 + 1 := ⟨m - 1, by omega⟩
              exact wz_k1 ⟨m2, by omega, 0, (x2 + 1), (zconso rfl (zconso (zvo (show (0 : Int32) = i3 0 from rfl)) (zconso (zvo (i3A (rfl : i3 x2 = i3 x2) (show (1 : Int32) = i3 1 from rfl))) (zconso rfl (zconso rfl (zconso rfl (zconso rfl rfl))))))), rfl,  by omega, by omega, by omega,  hP⟩
            · replace hP := zE_n hP h16
              obtain ⟨m2, rfl⟩ : ∃ m2, m = m2 + 1 := ⟨m - 1, by omega⟩
              exact wz_k1 ⟨m2, by omega, 1, (x2 + 1), (zconso rfl (zconso (zvo (show (1 : Int32) = i3 1 from rfl)) (zconso (zvo (i3A (rfl : i3 x2 = i3 x2) (show (1 : Int32) = i3 1 from rfl))) (zconso rfl (zconso rfl (zconso rfl (zconso rfl rfl))))))), rfl,  by omega, by omega, by omega,  hP⟩
/- yX2_areSound -/
def zl_38_2 (x0b : Int) : Nat → qz_Z → Int → Int → Int → qz_Z × Int × Int × Int
  | 0, Z, n8, x1, x2 => (Z, n8, x1, x2)
  | m + 1, Z, n8, x1, x2 => (if (Z 11 x0b 0 8) ≤ x2 then (Z, n8, x1, x2) else (if x1 = 0 then (Z, n8, x1, x2) else (if (Z 50 x0b x2 2) ≠ 1 then (if (Z 11 x0b 0 13) < (Z 50 x0b x2 7) then (zlet (zf_59 Z x0b x2) (fun v9 => (zlet (zf_43 Z x0b x2) (fun v10 => (if (Z 50 x0b x2 0) < v10 then zl_38_2 x0b m Z n8 0 (x2 + 1) else (zlet (zzi Z n8) (fun Z13 => (zlet (n8 + 1) (fun n15 => (zlet3 (zf_1056 Z13 n15 x0b v9 n8) (fun Z16 n19 v17 => (zlet3 (zf_51 Z16 n19 x0b v9) (fun Z20 n23 v21 => (if v17 ≠ v21 then zl_38_2 x0b m Z20 n23 0 (x2 + 1) else zl_38_2 x0b m Z20 n23 1 (x2 + 1))))))))))))))) else (if (Z 50 x0b x2 8) ≤ (Z 11 x0b 0 13) then (zlet (zf_59 Z x0b x2) (fun v27 => (zlet (zf_43 Z x0b x2) (fun v28 => (if (Z 50 x0b x2 0) < v28 then zl_38_2 x0b m Z n8 0 (x2 + 1) else (zlet (zzi Z n8) (fun Z31 => (zlet (n8 + 1) (fun n33 => (zlet3 (zf_1056 Z31 n33 x0b v27 n8) (fun Z34 n37 v35 => (zlet3 (zf_51 Z34 n37 x0b v27) (fun Z38 n41 v39 => (if v35 ≠ v39 then zl_38_2 x0b m Z38 n41 0 (x2 + 1) else zl_38_2 x0b m Z38 n41 1 (x2 + 1))))))))))))))) else (zlet (zf_59 Z x0b x2) (fun v43 => (zlet (zf_43 Z x0b x2) (fun v44 => (if (Z 50 x0b x2 0) < v44 then zl_38_2 x0b m Z n8 0 (x2 + 1) else (zlet (zzi Z n8) (fun Z47 => (zlet (n8 + 1) (fun n49 => (zlet3 (zf_1056 Z47 n49 x0b v43 n8) (fun Z50 n53 v51 => (zlet3 (zf_51 Z50 n53 x0b v43) (fun Z54 n57 v55 => (if v51 ≠ v55 then zl_38_2 x0b m Z54 n57 0 (x2 + 1) else zl_38_2 x0b m Z54 n57 1 (x2 + 1))))))))))))))))) else (if (Z 11 x0b 0 13) < (Z 50 x0b x2 7) then (zlet (zf_59 Z x0b x2) (fun v62 => (zlet (zf_43 Z x0b x2) (fun v63 => (if (Z 50 x0b x2 0) < v63 then zl_38_2 x0b m Z n8 0 (x2 + 1) else zl_38_2 x0b m Z n8 0 (x2 + 1)))))) else (if (Z 50 x0b x2 8) ≤ (Z 11 x0b 0 13) then (zlet (zf_59 Z x0b x2) (fun v68 => (zlet (zf_43 Z x0b x2) (fun v69 => (if (Z 50 x0b x2 0) < v69 then zl_38_2 x0b m Z n8 0 (x2 + 1) else zl_38_2 x0b m Z n8 0 (x2 + 1)))))) else (zlet (zf_59 Z x0b x2) (fun v72 => (zlet (zf_43 Z x0b x2) (fun v73 => (if (Z 50 x0b x2 0) < v73 then zl_38_2 x0b m Z n8 0 (x2 + 1) else zl_38_2 x0b m Z n8 1 (x2 + 1)))))))))))
theorem sl_38_2 {s : zSM} {Zs Z : qz_Z} {νs : qz_N} {ν : qz_N} (hZ : zH s Z) (hM : s.2 + 0 ≤ 1000000000) (hs : s.1 = none) {n9 n8 : Nat} (hn : ν.2.2.2.1 = n8) (h98 : n9 ≤ n8) (hG : zGl 192 νs ν) (x0b : Nat) {x1 : Int} (gx1 : 0 ≤ x1 ∧ x1 ≤ 1) {x2 : Int} (gx2 : 0 ≤ x2 ∧ x2 ≤ 4) (hK : zL [] [] n9 Zs Z) (hU : zU [] Zs Z) {k : wz_K} {R : wz_R} {L : qz_L} (hL : qz_fg [true, true, true, false, false, false, false] L = [some (.inr (.inr (some (10, x0b, 0)))), some (.inl (i3 x1)), some (.inl (i3 x2)), none, none, none, none]) {T : qz_Z × Int × Int × Int} (hP : zE T (zl_38_2 x0b ((4 - x2).toNat + 1) Z n8 x1 x2)) (hk : ∀ (L9 : qz_L) (Z9 : qz_Z) (ν9 : qz_N) (n7 : Nat) (yx1 yx2 : Int), qz_fg [false, true, false, false, false, false, false] L9 = [none, some (.inl (i3 yx1)), none, none, none, none, none] → zH s Z9 → zL [] [] n9 Zs Z9 → zU [] Zs Z9 → ν9.2.2.2.1 = n7 → zGl 192 νs ν9 → n9 ≤ n7 → (0 ≤ yx1 ∧ yx1 ≤ 1) → (0 ≤ yx2 ∧ yx2 ≤ 4) → zE T ((Z9, (n7 : Int), yx1, yx2)) → k 0 (L9, [], zm Z9 ν9)) : wz_loop qb_38_2 65536 k R (L, [], zm Z ν) := by
  refine wz_lp sb_38_2 (fun m x => ∃ Z : qz_Z, ∃ ν : qz_N, ∃ n8 : Nat, ∃ x1 : Int, ∃ x2 : Int, qz_fg [true, true, true, false, false, false, false] x.1 = [some (.inr (.inr (some (10, x0b, 0)))), some (.inl (i3 x1)), some (.inl (i3 x2)), none, none, none, none] ∧ x.2 = ([], zm Z ν) ∧ zH s Z ∧ zL [] [] n9 Zs Z ∧ zU [] Zs Z ∧ ν.2.2.2.1 = n8 ∧ n9 ≤ n8 ∧ zGl 192 νs ν ∧ m = (4 - x2).toNat ∧ (0 ≤ x1 ∧ x1 ≤ 1) ∧ (0 ≤ x2 ∧ x2 ≤ 4) ∧ zE T (zl_38_2 x0b (m + 1) Z n8 x1 x2)) ?_ 65536 ((4 - x2).toNat) _ (by omega) ⟨Z, ν, n8, x1, x2, hL, rfl, hZ, hK, hU, hn, h98, hG, rfl, gx1, gx2, hP⟩
  clear hP gx1 gx2 hZ hK hU hn h98 hG hL
  clear x1 x2
  clear Z n8
  clear ν
  rintro m ⟨L, st, μ⟩ ⟨Z, ν, n8, x1, x2, hL, hx, hZ, hK, hU, hn, h98, hG, hm, gx1, gx2, hP⟩
  cases hx
  refine fb_38_2 x0b (i3 x1) (i3 x2) _ _ _ _ hL ?_
  have r1 := zH_k hZ 11 x0b 0 8 (lo := 0) (hi := 4) (by decide) rfl
  refine wz_br (i3Le (zm_rd (Z := Z) (ν := ν) (k := 11) (rfl : ((x0b : Nat) : Int) = x0b) (show ((0 : Nat) : Int) = 0 from rfl) (show ((8 : Nat) : Int) = 8 from rfl)) (rfl : i3 x2 = i3 x2) (by omega) (by omega) (by omega) (by omega)) (fun h2 => ?_) (fun h2 => ?_)
  · replace hP := zE_p hP h2
    exact hk _ _ _ _ _ _ (zconso rfl (zconso (zvo (rfl : i3 x1 = i3 x1)) (zconso rfl (zconso rfl (zconso rfl (zconso rfl (zconso rfl rfl))))))) hZ hK hU hn hG (by omega) (by omega) (by omega)  hP
  · replace hP := zE_n hP h2
    refine wz_br (i3E (rfl : i3 x1 = i3 x1) (show (0 : Int32) = i3 0 from rfl) (by omega) (by omega) (by omega) (by omega)) (fun h3 => ?_) (fun h3 => ?_)
    · replace hP := zE_p hP h3
      exact hk _ _ _ _ _ _ (zconso rfl (zconso (zvo (rfl : i3 x1 = i3 x1)) (zconso rfl (zconso rfl (zconso rfl (zconso rfl (zconso rfl rfl))))))) hZ hK hU hn hG (by omega) (by omega) (by omega)  hP
    · replace hP := zE_n hP h3
      refine wz_i0 (i3O (n := 4) (rfl : i3 x2 = i3 x2) (by omega) (by omega) (by omega)) ?_
      have r4 := zH_k hZ 50 x0b x2 2 (lo := 0) (hi := 1) (by decide) rfl
      refine wz_br (i3NE (zm_rd (Z := Z) (ν := ν) (k := 50) (rfl : ((x0b : Nat) : Int) = x0b) (i3I (y := x2) (rfl : i3 x2 = i3 x2) (by omega) (by omega) (by omega)) (show ((2 : Nat) : Int) = 2 from rfl)) (show (1 : Int32) = i3 1 from rfl) (by omega) (by omega) (by omega) (by omega)) (fun h5 => ?_) (fun h5 => ?_)
      · replace hP := zE_p hP h5
        have r6 := zH_k hZ 11 x0b 0 13 (lo := 0) (hi := 671) (by decide) rfl
        have r7 := zH_k hZ 50 x0b x2 7 (lo := -1) (hi := 671) (by decide) rfl
        refine wz_br (i3L (zm_rd (Z := Z) (ν := ν) (k := 11) (rfl : ((x0b : Nat) : Int) = x0b) (show ((0 : Nat) : Int) = 0 from rfl) (show ((13 : Nat) : Int) = 13 from rfl)) (zm_rd (Z := Z) (ν := ν) (k := 50) (rfl : ((x0b : Nat) : Int) = x0b) (i3I (y := x2) (rfl : i3 x2 = i3 x2) (by omega) (by omega) (by omega)) (show ((7 : Nat) : Int) = 7 from rfl)) (by omega) (by omega) (by omega) (by omega)) (fun h8 => ?_) (fun h8 => ?_)
        · replace hP := zE_p hP h8
          obtain ⟨v9, hv9, c9, lv9, uv9⟩ := sp_59 (ν := ν) hZ x0b (a1 := x2) (by omega) (zbh (c := 0) (k := 0) hM (Nat.le_of_ble_eq_true rfl))
          replace hP := zl_e hP hv9
          refine wz_cI_of (zas (zcons rfl (zcons (zvi (rfl : i3 x2 = i3 x2)) rfl)) c9) ?_
          clear c9
          obtain ⟨v10, hv10, c9, lv10, uv10⟩ := sp_43 (ν := ν) hZ x0b (a1 := x2) (by omega) (zbh (c := 0) (k := 0) hM (Nat.le_of_ble_eq_true rfl))
          replace hP := zl_e hP hv10
          refine wz_cI_of (zas (zcons rfl (zcons (zvi (rfl : i3 x2 = i3 x2)) rfl)) c9) ?_
          clear c9
          have r11 := zH_k hZ 50 x0b x2 0 (lo := 0) (hi := 99) (by decide) rfl
          refine wz_br (i3L (zm_rd (Z := Z) (ν := ν) (k := 50) (rfl : ((x0b : Nat) : Int) = x0b) (i3I (y := x2) (rfl : i3 x2 = i3 x2) (by omega) (by omega) (by omega)) (show ((0 : Nat) : Int) = 0 from rfl)) (rfl : i3 v10 = i3 v10) (by omega) (by omega) (by omega) (by omega)) (fun h12 => ?_) (fun h12 => ?_)
          · replace hP := zE_p hP h12
            obtain ⟨m2, rfl⟩ : ∃ m2, m = m2 + 1 := ⟨m - 1, by omega⟩
            exact wz_k1 ⟨m2, by omega, Z, ν, n8, 0, (x2 + 1), (zconso rfl (zconso (zvo (show (0 : Int32) = i3 0 from rfl)) (zconso (zvo (i3A (rfl : i3 x2 = i3 x2) (show (1 : Int32) = i3 1 from rfl))) (zconso rfl (zconso rfl (zconso rfl (zconso rfl rfl))))))), rfl, hZ, hK, hU, hn, by omega, hG, by omega, by omega, by omega,  hP⟩
          · replace hP := zE_n hP h12
            obtain ⟨Z13, hZ13⟩ := zx (zzr Z n8)
            obtain ⟨ν14, hν14⟩ := zx (nal ν 50 1 5 1 5)
            obtain ⟨n15, hn15⟩ : ∃ m : Nat, m = n8 + 1 := ⟨_, rfl⟩
            replace hP := zl_e hP (hZ13.trans zzi_e)
            replace hP := zl_e hP (show ((n15 : Nat) : Int) = ((n8 : Nat) : Int) + 1 from by omega)
            intro μ9 e9
            replace e9 := zal_e e9 hn hZ13 hν14
            subst e9
            rw [show qz_na (zm Z ν) = n8 from hn]
            have hZ13I := zH_z hZ hZ13 hs
            have hZ13K : zL [] [] n9 Zs Z13 := zL_z2 hK (by omega) hZ13
            have hZ13U : zU [] Zs Z13 := zU_z hU hZ13
            have hnν14 := (nal_na hn hν14).trans hn15.symm
            have hGν14 := zGl_al (K := 192) hG hν14 (by decide)
            have hSν14 := zSh_new hn hν14
            have gAν14 := zA_new (lo := -1) (hi := 4) hZ13 ⟨by decide, by decide⟩
            obtain ⟨Z16, ν18, n19, v17, hv17, c9, hZ16I, kZ16, jZ16, hnν18, gν18, b1ν18, b2ν18, lv17, uv17, aZ16_a2b⟩ := sp_1056 (ν := ν14) hZ13I hs hnν14 x0b (a1 := v9) (by omega) n8 hSν14 gAν14 (zbh (c := 0) (k := 0) hM (Nat.le_of_ble_eq_true rfl))
            have hZ16U : zU [] Zs Z16 := zU_t hZ13U jZ16 zU_b0
            have hZ16K : zL [] [] n9 Zs Z16 := zL_t hZ13K kZ16 (by decide) (zL_b1 (Or.inr (by omega)) zL_b0) (by omega)
            replace hP := zl_e3 hP hv17
            refine wz_cI_of (zas (zcons rfl (zcons (zvi (rfl : i3 v9 = i3 v9)) (zcons rfl rfl))) c9) ?_
            clear c9 hv17
            have hGν18 := zGl_t (K := 192) hGν14 (zGl_5 gν18)
            obtain ⟨Z20, ν22, n23, v21, hv21, c9, hZ20I, kZ20, jZ20, hnν22, gν22, b1ν22, b2ν22, lv21, uv21⟩ := sp_51 (ν := ν18) hZ16I hs hnν18 x0b (a1 := v9) (by omega) (zbh (c := 0) (k := 0) hM (Nat.le_of_ble_eq_true rfl))
            have hZ20U : zU [] Zs Z20 := zU_t hZ16U jZ20 zU_b0
            have hZ20K : zL [] [] n9 Zs Z20 := zL_t hZ16K kZ20 (by decide) zL_b0 (by omega)
            replace hP := zl_e3 hP hv21
            refine wz_cI_of (zas (zcons rfl (zcons (zvi (rfl : i3 v9 = i3 v9)) rfl)) c9) ?_
            clear c9 hv21
            have hGν22 := zGl_t (K := 192) hGν18 gν22
            refine wz_br (i3NE (rfl : i3 v17 = i3 v17) (rfl : i3 v21 = i3 v21) (by omega) (by omega) (by omega) (by omega)) (fun h24 => ?_) (fun h24 => ?_)
            · replace hP := zE_p hP h24
              obtain ⟨m2, rfl⟩ : ∃ m2, m = m2 + 1 := ⟨m - 1, by omega⟩
              exact wz_k1 ⟨m2, by omega, Z20, ν22, n23, 0, (x2 + 1), (zconso rfl (zconso (zvo (show (0 : Int32) = i3 0 from rfl)) (zconso (zvo (i3A (rfl : i3 x2 = i3 x2) (show (1 : Int32) = i3 1 from rfl))) (zconso rfl (zconso rfl (zconso rfl (zconso rfl rfl))))))), rfl, hZ20I, hZ20K, hZ20U, hnν22, by omega, hGν22, by omega, by omega, by omega,  hP⟩
            · replace hP := zE_n hP h24
              obtain ⟨m2, rfl⟩ : ∃ m2, m = m2 + 1 := ⟨m - 1, by omega⟩
              exact wz_k1 ⟨m2, by omega, Z20, ν22, n23, 1, (x2 + 1), (zconso rfl (zconso (zvo (show (1 : Int32) = i3 1 from rfl)) (zconso (zvo (i3A (rfl : i3 x2 = i3 x2) (show (1 : Int32) = i3 1 from rfl))) (zconso rfl (zconso rfl (zconso rfl (zconso rfl rfl))))))), rfl, hZ20I, hZ20K, hZ20U, hnν22, by omega, hGν22, by omega, by omega, by omega,  hP⟩
        · replace hP := zE_n hP h8
          have r25 := zH_k hZ 50 x0b x2 8 (lo := -1) (hi := 743) (by decide) rfl
          refine wz_br (i3Le (zm_rd (Z := Z) (ν := ν) (k := 50) (rfl : ((x0b : Nat) : Int) = x0b) (i3I (y := x2) (rfl : i3 x2 = i3 x2) (by omega) (by omega) (by omega)) (show ((8 : Nat) : Int) = 8 from rfl)) (zm_rd (Z := Z) (ν := ν) (k := 11) (rfl : ((x0b : Nat) : Int) = x0b) (show ((0 : Nat) : Int) = 0 from rfl) (show ((13 : Nat) : Int) = 13 from rfl)) (by omega) (by omega) (by omega) (by omega)) (fun h26 => ?_) (fun h26 => ?_)
          · replace hP := zE_p hP h26
            obtain ⟨v27, hv27, c9, lv27, uv27⟩ := sp_59 (ν := ν) hZ x0b (a1 := x2) (by omega) (zbh (c := 0) (k := 0) hM (Nat.le_of_ble_eq_true rfl))
            replace hP := zl_e hP hv27
            refine wz_cI_of (zas (zcons rfl (zcons (zvi (rfl : i3 x2 = i3 x2)) rfl)) c9) ?_
            clear c9
            obtain ⟨v28, hv28, c9, lv28, uv28⟩ := sp_43 (ν := ν) hZ x0b (a1 := x2) (by omega) (zbh (c := 0) (k := 0) hM (Nat.le_of_ble_eq_true rfl))
            replace hP := zl_e hP hv28
            refine wz_cI_of (zas (zcons rfl (zcons (zvi (rfl : i3 x2 = i3 x2)) rfl)) c9) ?_
            clear c9
            have r29 := zH_k hZ 50 x0b x2 0 (lo := 0) (hi := 99) (by decide) rfl
            refine wz_br (i3L (zm_rd (Z := Z) (ν := ν) (k := 50) (rfl : ((x0b : Nat) : Int) = x0b) (i3I (y := x2) (rfl : i3 x2 = i3 x2) (by omega) (by omega) (by omega)) (show ((0 : Nat) : Int) = 0 from rfl)) (rfl : i3 v28 = i3 v28) (by omega) (by omega) (by omega) (by omega)) (fun h30 => ?_) (fun h30 => ?_)
            · replace hP := zE_p hP h30
              obtain ⟨m2, rfl⟩ : ∃ m2, m = m2 + 1 := ⟨m - 1, by omega⟩
              exact wz_k1 ⟨m2, by omega, Z, ν, n8, 0, (x2 + 1), (zconso rfl (zconso (zvo (show (0 : Int32) = i3 0 from rfl)) (zconso (zvo (i3A (rfl : i3 x2 = i3 x2) (show (1 : Int32) = i3 1 from rfl))) (zconso rfl (zconso rfl (zconso rfl (zconso rfl rfl))))))), rfl, hZ, hK, hU, hn, by omega, hG, by omega, by omega, by omega,  hP⟩
            · replace hP := zE_n hP h30
              obtain ⟨Z31, hZ31⟩ := zx (zzr Z n8)
              obtain ⟨ν32, hν32⟩ := zx (nal ν 50 1 5 1 5)
              obtain ⟨n33, hn33⟩ : ∃ m : Nat, m = n8 + 1 := ⟨_, rfl⟩
              replace hP := zl_e hP (hZ31.trans zzi_e)
              replace hP := zl_e hP (show ((n33 : Nat) : Int) = ((n8 : Nat) : Int) + 1 from by omega)
              intro μ9 e9
              replace e9 := zal_e e9 hn hZ31 hν32
              subst e9
              rw [show qz_na (zm Z ν) = n8 from hn]
              have hZ31I := zH_z hZ hZ31 hs
              have hZ31K : zL [] [] n9 Zs Z31 := zL_z2 hK (by omega) hZ31
              have hZ31U : zU [] Zs Z31 := zU_z hU hZ31
              have hnν32 := (nal_na hn hν32).trans hn33.symm
              have hGν32 := zGl_al (K := 192) hG hν32 (by decide)
              have hSν32 := zSh_new hn hν32
              have gAν32 := zA_new (lo := -1) (hi := 4) hZ31 ⟨by decide, by decide⟩
              obtain ⟨Z34, ν36, n37, v35, hv35, c9, hZ34I, kZ34, jZ34, hnν36, gν36, b1ν36, b2ν36, lv35, uv35, aZ34_a2b⟩ := sp_1056 (ν := ν32) hZ31I hs hnν32 x0b (a1 := v27) (by omega) n8 hSν32 gAν32 (zbh (c := 0) (k := 0) hM (Nat.le_of_ble_eq_true rfl))
              have hZ34U : zU [] Zs Z34 := zU_t hZ31U jZ34 zU_b0
              have hZ34K : zL [] [] n9 Zs Z34 := zL_t hZ31K kZ34 (by decide) (zL_b1 (Or.inr (by omega)) zL_b0) (by omega)
              replace hP := zl_e3 hP hv35
              refine wz_cI_of (zas (zcons rfl (zcons (zvi (rfl : i3 v27 = i3 v27)) (zcons rfl rfl))) c9) ?_
              clear c9 hv35
              have hGν36 := zGl_t (K := 192) hGν32 (zGl_5 gν36)
              obtain ⟨Z38, ν40, n41, v39, hv39, c9, hZ38I, kZ38, jZ38, hnν40, gν40, b1ν40, b2ν40, lv39, uv39⟩ := sp_51 (ν := ν36) hZ34I hs hnν36 x0b (a1 := v27) (by omega) (zbh (c := 0) (k := 0) hM (Nat.le_of_ble_eq_true rfl))
              have hZ38U : zU [] Zs Z38 := zU_t hZ34U jZ38 zU_b0
              have hZ38K : zL [] [] n9 Zs Z38 := zL_t hZ34K kZ38 (by decide) zL_b0 (by omega)
              replace hP := zl_e3 hP hv39
              refine wz_cI_of (zas (zcons rfl (zcons (zvi (rfl : i3 v27 = i3 v27)) rfl)) c9) ?_
              clear c9 hv39
              have hGν40 := zGl_t (K := 192) hGν36 gν40
              refine wz_br (i3NE (rfl : i3 v35 = i3 v35) (rfl : i3 v39 = i3 v39) (by omega) (by omega) (by omega) (by omega)) (fun h42 => ?_) (fun h42 => ?_)
              · replace hP := zE_p hP h42
                obtain ⟨m2, rfl⟩ : ∃ m2, m = m2 + 1 := ⟨m - 1, by omega⟩
                exact wz_k1 ⟨m2, by omega, Z38, ν40, n41, 0, (x2 + 1), (zconso rfl (zconso (zvo (show (0 : Int32) = i3 0 from rfl)) (zconso (zvo (i3A (rfl : i3 x2 = i3 x2) (show (1 : Int32) = i3 1 from rfl))) (zconso rfl (zconso rfl (zconso rfl (zconso rfl rfl))))))), rfl, hZ38I, hZ38K, hZ38U, hnν40, by omega, hGν40, by omega, by omega, by omega,  hP⟩
              · replace hP := zE_n hP h42
                obtain ⟨m2, rfl⟩ : ∃ m2, m = m2 + 1 := ⟨m - 1, by omega⟩
                exact wz_k1 ⟨m2, by omega, Z38, ν40, n41, 1, (x2 + 1), (zconso rfl (zconso (zvo (show (1 : Int32) = i3 1 from rfl)) (zconso (zvo (i3A (rfl : i3 x2 = i3 x2) (show (1 : Int32) = i3 1 from rfl))) (zconso rfl (zconso rfl (zconso rfl (zconso rfl rfl))))))), rfl, hZ38I, hZ38K, hZ38U, hnν40, by omega, hGν40, by omega, by omega, by omega,  hP⟩
          · replace hP := zE_n hP h26
            obtain ⟨v43, hv43, c9, lv43, uv43⟩ := sp_59 (ν := ν) hZ x0b (a1 := x2) (by omega) (zbh (c := 0) (k := 0) hM (Nat.le_of_ble_eq_true rfl))
            replace hP := zl_e hP hv43
            refine wz_cI_of (zas (zcons rfl (zcons (zvi (rfl : i3 x2 = i3 x2)) rfl)) c9) ?_
            clear c9
            obtain ⟨v44, hv44, c9, lv44, uv44⟩ := sp_43 (ν := ν) hZ x0b (a1 := x2) (by omega) (zbh (c := 0) (k := 0) hM (Nat.le_of_ble_eq_true rfl))
            replace hP := zl_e hP hv44
            refine wz_cI_of (zas (zcons rfl (zcons (zvi (rfl : i3 x2 = i3 x2)) rfl)) c9) ?_
            clear c9
            have r45 := zH_k hZ 50 x0b x2 0 (lo := 0) (hi := 99) (by decide) rfl
            refine wz_br (i3L (zm_rd (Z := Z) (ν := ν) (k := 50) (rfl : ((x0b : Nat) : Int) = x0b) (i3I (y := x2) (rfl : i3 x2 = i3 x2) (by omega) (by omega) (by omega)) (show ((0 : Nat) : Int) = 0 from rfl)) (rfl : i3 v44 = i3 v44) (by omega) (by omega) (by omega) (by omega)) (fun h46 => ?_) (fun h46 => ?_)
            · replace hP := zE_p hP h46
              obtain ⟨m2, rfl⟩ : ∃ m2, m = m2 + 1 := ⟨m - 1, by omega⟩
              exact wz_k1 ⟨m2, by omega, Z, ν, n8, 0, (x2 + 1), (zconso rfl (zconso (zvo (show (0 : Int32) = i3 0 from rfl)) (zconso (zvo (i3A (rfl : i3 x2 = i3 x2) (show (1 : Int32) = i3 1 from rfl))) (zconso rfl (zconso rfl (zconso rfl (zconso rfl rfl))))))), rfl, hZ, hK, hU, hn, by omega, hG, by omega, by omega, by omega,  hP⟩
            · replace hP := zE_n hP h46
              obtain ⟨Z47, hZ47⟩ := zx (zzr Z n8)
              obtain ⟨ν48, hν48⟩ := zx (nal ν 50 1 5 1 5)
              obtain ⟨n49, hn49⟩ : ∃ m : Nat, m = n8 + 1 := ⟨_, rfl⟩
              replace hP := zl_e hP (hZ47.trans zzi_e)
              replace hP := zl_e hP (show ((n49 : Nat) : Int) = ((n8 : Nat) : Int) + 1 from by omega)
              intro μ9 e9
              replace e9 := zal_e e9 hn hZ47 hν48
              subst e9
              rw [show qz_na (zm Z ν) = n8 from hn]
              have hZ47I := zH_z hZ hZ47 hs
              have hZ47K : zL [] [] n9 Zs Z47 := zL_z2 hK (by omega) hZ47
              have hZ47U : zU [] Zs Z47 := zU_z hU hZ47
              have hnν48 := (nal_na hn hν48).trans hn49.symm
              have hGν48 := zGl_al (K := 192) hG hν48 (by decide)
              have hSν48 := zSh_new hn hν48
              have gAν48 := zA_new (lo := -1) (hi := 4) hZ47 ⟨by decide, by decide⟩
              obtain ⟨Z50, ν52, n53, v51, hv51, c9, hZ50I, kZ50, jZ50, hnν52, gν52, b1ν52, b2ν52, lv51, uv51, aZ50_a2b⟩ := sp_1056 (ν := ν48) hZ47I hs hnν48 x0b (a1 := v43) (by omega) n8 hSν48 gAν48 (zbh (c := 0) (k := 0) hM (Nat.le_of_ble_eq_true rfl))
              have hZ50U : zU [] Zs Z50 := zU_t hZ47U jZ50 zU_b0
              have hZ50K : zL [] [] n9 Zs Z50 := zL_t hZ47K kZ50 (by decide) (zL_b1 (Or.inr (by omega)) zL_b0) (by omega)
              replace hP := zl_e3 hP hv51
              refine wz_cI_of (zas (zcons rfl (zcons (zvi (rfl : i3 v43 = i3 v43)) (zcons rfl rfl))) c9) ?_
              clear c9 hv51
              have hGν52 := zGl_t (K := 192) hGν48 (zGl_5 gν52)
              obtain ⟨Z54, ν56, n57, v55, hv55, c9, hZ54I, kZ54, jZ54, hnν56, gν56, b1ν56, b2ν56, lv55, uv55⟩ := sp_51 (ν := ν52) hZ50I hs hnν52 x0b (a1 := v43) (by omega) (zbh (c := 0) (k := 0) hM (Nat.le_of_ble_eq_true rfl))
              have hZ54U : zU [] Zs Z54 := zU_t hZ50U jZ54 zU_b0
              have hZ54K : zL [] [] n9 Zs Z54 := zL_t hZ50K kZ54 (by decide) zL_b0 (by omega)
              replace hP := zl_e3 hP hv55
              refine wz_cI_of (zas (zcons rfl (zcons (zvi (rfl : i3 v43 = i3 v43)) rfl)) c9) ?_
              clear c9 hv55
              have hGν56 := zGl_t (K := 192) hGν52 gν56
              refine wz_br (i3NE (rfl : i3 v51 = i3 v51) (rfl : i3 v55 = i3 v55) (by omega) (by omega) (by omega) (by omega)) (fun h58 => ?_) (fun h58 => ?_)
              · replace hP := zE_p hP h58
                obtain ⟨m2, rfl⟩ : ∃ m2, m = m2 + 1 := ⟨m - 1, by omega⟩
                exact wz_k1 ⟨m2, by omega, Z54, ν56, n57, 0, (x2 + 1), (zconso rfl (zconso (zvo (show (0 : Int32) = i3 0 from rfl)) (zconso (zvo (i3A (rfl : i3 x2 = i3 x2) (show (1 : Int32) = i3 1 from rfl))) (zconso rfl (zconso rfl (zconso rfl (zconso rfl rfl))))))), rfl, hZ54I, hZ54K, hZ54U, hnν56, by omega, hGν56, by omega, by omega, by omega,  hP⟩
              · replace hP := zE_n hP h58
                obtain ⟨m2, rfl⟩ : ∃ m2, m = m2 + 1 := ⟨m - 1, by omega⟩
                exact wz_k1 ⟨m2, by omega, Z54, ν56, n57, 1, (x2 + 1), (zconso rfl (zconso (zvo (show (1 : Int32) = i3 1 from rfl)) (zconso (zvo (i3A (rfl : i3 x2 = i3 x2) (show (1 : Int32) = i3 1 from rfl))) (zconso rfl (zconso rfl (zconso rfl (zconso rfl rfl))))))), rfl, hZ54I, hZ54K, hZ54U, hnν56, by omega, hGν56, by omega, by omega, by omega,  hP⟩
      · replace hP := zE_n hP h5
        have r59 := zH_k hZ 11 x0b 0 13 (lo := 0) (hi := 671) (by decide) rfl
        have r60 := zH_k hZ 50 x0b x2 7 (lo := -1) (hi := 671) (by decide) rfl
        refine wz_br (i3L (zm_rd (Z := Z) (ν := ν) (k := 11) (rfl : ((x0b : Nat) : Int) = x0b) (show ((0 : Nat) : Int) = 0 from rfl) (show ((13 : Nat) : Int) = 13 from rfl)) (zm_rd (Z := Z) (ν := ν) (k := 50) (rfl : ((x0b : Nat) : Int) = x0b) (i3I (y := x2) (rfl : i3 x2 = i3 x2) (by omega) (by omega) (by omega)) (show ((7 : Nat) : Int) = 7 from rfl)) (by omega) (by omega) (by omega) (by omega)) (fun h61 => ?_) (fun h61 => ?_)
        · replace hP := zE_p hP h61
          obtain ⟨v62, hv62, c9, lv62, uv62⟩ := sp_59 (ν := ν) hZ x0b (a1 := x2) (by omega) (zbh (c := 0) (k := 0) hM (Nat.le_of_ble_eq_true rfl))
          replace hP := zl_e hP hv62
          refine wz_cI_of (zas (zcons rfl (zcons (zvi (rfl : i3 x2 = i3 x2)) rfl)) c9) ?_
          clear c9
          obtain ⟨v63, hv63, c9, lv63, uv63⟩ := sp_43 (ν := ν) hZ x0b (a1 := x2) (by omega) (zbh (c := 0) (k := 0) hM (Nat.le_of_ble_eq_true rfl))
          replace hP := zl_e hP hv63
          refine wz_cI_of (zas (zcons rfl (zcons (zvi (rfl : i3 x2 = i3 x2)) rfl)) c9) ?_
          clear c9
          have r64 := zH_k hZ 50 x0b x2 0 (lo := 0) (hi := 99) (by decide) rfl
          refine wz_br (i3L (zm_rd (Z := Z) (ν := ν) (k := 50) (rfl : ((x0b : Nat) : Int) = x0b) (i3I (y := x2) (rfl : i3 x2 = i3 x2) (by omega) (by omega) (by omega)) (show ((0 : Nat) : Int) = 0 from rfl)) (rfl : i3 v63 = i3 v63) (by omega) (by omega) (by omega) (by omega)) (fun h65 => ?_) (fun h65 => ?_)
          · replace hP := zE_p hP h65
            obtain ⟨m2, rfl⟩ : ∃ m2, m = m2 + 1 := ⟨m - 1, by omega⟩
            exact wz_k1 ⟨m2, by omega, Z, ν, n8, 0, (x2 + 1), (zconso rfl (zconso (zvo (show (0 : Int32) = i3 0 from rfl)) (zconso (zvo (i3A (rfl : i3 x2 = i3 x2) (show (1 : Int32) = i3 1 from rfl))) (zconso rfl (zconso rfl (zconso rfl (zconso rfl rfl))))))), rfl, hZ, hK, hU, hn, by omega, hG, by omega, by omega, by omega,  hP⟩
          · replace hP := zE_n hP h65
            obtain ⟨m2, rfl⟩ : ∃ m2, m = m2 + 1 := ⟨m - 1, by omega⟩
            exact wz_k1 ⟨m2, by omega, Z, ν, n8, 0, (x2 + 1), (zconso rfl (zconso (zvo (show (0 : Int32) = i3 0 from rfl)) (zconso (zvo (i3A (rfl : i3 x2 = i3 x2) (show (1 : Int32) = i3 1 from rfl))) (zconso rfl (zconso rfl (zconso rfl (zconso rfl rfl))))))), rfl, hZ, hK, hU, hn, by omega, hG, by omega, by omega, by omega,  hP⟩
        · replace hP := zE_n hP h61
          have r66 := zH_k hZ 50 x0b x2 8 (lo := -1) (hi := 743) (by decide) rfl
          refine wz_br (i3Le (zm_rd (Z := Z) (ν := ν) (k := 50) (rfl : ((x0b : Nat) : Int) = x0b) (i3I (y := x2) (rfl : i3 x2 = i3 x2) (by omega) (by omega) (by omega)) (show ((8 : Nat) : Int) = 8 from rfl)) (zm_rd (Z := Z) (ν := ν) (k := 11) (rfl : ((x0b : Nat) : Int) = x0b) (show ((0 : Nat) : Int) = 0 from rfl) (show ((13 : Nat) : Int) = 13 from rfl)) (by omega) (by omega) (by omega) (by omega)) (fun h67 => ?_) (fun h67 => ?_)
          · replace hP := zE_p hP h67
            obtain ⟨v68, hv68, c9, lv68, uv68⟩ := sp_59 (ν := ν) hZ x0b (a1 := x2) (by omega) (zbh (c := 0) (k := 0) hM (Nat.le_of_ble_eq_true rfl))
            replace hP := zl_e hP hv68
            refine wz_cI_of (zas (zcons rfl (zcons (zvi (rfl : i3 x2 = i3 x2)) rfl)) c9) ?_
            clear c9
            obtain ⟨v69, hv69, c9, lv69, uv69⟩ := sp_43 (ν := ν) hZ x0b (a1 := x2) (by omega) (zbh (c := 0) (k := 0) hM (Nat.le_of_ble_eq_true rfl))
            replace hP := zl_e hP hv69
            refine wz_cI_of (zas (zcons rfl (zcons (zvi (rfl : i3 x2 = i3 x2)) rfl)) c9) ?_
            clear c9
            have r70 := zH_k hZ 50 x0b x2 0 (lo := 0) (hi := 99) (by decide) rfl
            refine wz_br (i3L (zm_rd (Z := Z) (ν := ν) (k := 50) (rfl : ((x0b : Nat) : Int) = x0b) (i3I (y := x2) (rfl : i3 x2 = i3 x2) (by omega) (by omega) (by omega)) (show ((0 : Nat) : Int) = 0 from rfl)) (rfl : i3 v69 = i3 v69) (by omega) (by omega) (by omega) (by omega)) (fun h71 => ?_) (fun h71 => ?_)
            · replace hP := zE_p hP h71
              obtain ⟨m2, rfl⟩ : ∃ m2, m = m2 + 1 := ⟨m - 1, by omega⟩
              exact wz_k1 ⟨m2, by omega, Z, ν, n8, 0, (x2 + 1), (zconso rfl (zconso (zvo (show (0 : Int32) = i3 0 from rfl)) (zconso (zvo (i3A (rfl : i3 x2 = i3 x2) (show (1 : Int32) = i3 1 from rfl))) (zconso rfl (zconso rfl (zconso rfl (zconso rfl rfl))))))), rfl, hZ, hK, hU, hn, by omega, hG, by omega, by omega, by omega,  hP⟩
            · replace hP := zE_n hP h71
              obtain ⟨m2, rfl⟩ : ∃ m2, m = m2 + 1 := ⟨m - 1, by omega⟩
              exact wz_k1 ⟨m2, by omega, Z, ν, n8, 0, (x2 + 1), (zconso rfl (zconso (zvo (show (0 : Int32) = i3 0 from rfl)) (zconso (zvo (i3A (rfl : i3 x2 = i3 x2) (show (1 : Int32) = i3 1 from rfl))) (zconso rfl (zconso rfl (zconso rfl (zconso rfl rfl))))))), rfl, hZ, hK, hU, hn, by omega, hG, by omega, by omega, by omega,  hP⟩
          · replace hP := zE_n hP h67
            obtain ⟨v72, hv72, c9, lv72, uv72⟩ := sp_59 (ν := ν) hZ x0b (a1 := x2) (by omega) (zbh (c := 0) (k := 0) hM (Nat.le_of_ble_eq_true rfl))
            replace hP := zl_e hP hv72
            refine wz_cI_of (zas (zcons rfl (zcons (zvi (rfl : i3 x2 = i3 x2)) rfl)) c9) ?_
            clear c9
            obtain ⟨v73, hv73, c9, lv73, uv73⟩ := sp_43 (ν := ν) hZ x0b (a1 := x2) (by omega) (zbh (c := 0) (k := 0) hM (Nat.le_of_ble_eq_true rfl))
            replace hP := zl_e hP hv73
            refine wz_cI_of (zas (zcons rfl (zcons (zvi (rfl : i3 x2 = i3 x2)) rfl)) c9) ?_
            clear c9
            have r74 := zH_k hZ 50 x0b x2 0 (lo := 0) (hi := 99) (by decide) rfl
            refine wz_br (i3L (zm_rd (Z := Z) (ν := ν) (k := 50) (rfl : ((x0b : Nat) : Int) = x0b) (i3I (y := x2) (rfl : i3 x2 = i3 x2) (by omega) (by omega) (by omega)) (show ((0 : Nat) : Int) = 0 from rfl)) (rfl : i3 v73 = i3 v73) (by omega) (by omega) (by omega) (by omega)) (fun h75 => ?_) (fun h75 => ?_)
            · replace hP := zE_p hP h75
              obtain ⟨m2, rfl⟩ : ∃ m2, m = m2 + 1 := ⟨m - 1, by omega⟩
              exact wz_k1 ⟨m2, by omega, Z, ν, n8, 0, (x2 + 1), (zconso rfl (zconso (zvo (show (0 : Int32) = i3 0 from rfl)) (zconso (zvo (i3A (rfl : i3 x2 = i3 x2) (show (1 : Int32) = i3 1 from rfl))) (zconso rfl (zconso rfl (zconso rfl (zconso rfl rfl))))))), rfl, hZ, hK, hU, hn, by omega, hG, by omega, by omega, by omega,  hP⟩
            · replace hP := zE_n hP h75
              obtain ⟨m2, rfl⟩ : ∃ m2, m = m2 + 1 := ⟨m - 1, by omega⟩
              exact wz_k1 ⟨m2, by omega, Z, ν, n8, 1, (x2 + 1), (zconso rfl (zconso (zvo (show (1 : Int32) = i3 1 from rfl)) (zconso (zvo (i3A (rfl : i3 x2 = i3 x2) (show (1 : Int32) = i3 1 from rfl))) (zconso rfl (zconso rfl (zconso rfl (zconso rfl rfl))))))), rfl, hZ, hK, hU, hn, by omega, hG, by omega, by omega, by omega,  hP⟩
/- yX2_areSound -/
def zf_38 (Z : qz_Z) (n9 : Int) (a0b : Int) : qz_Z × Int × Int := (zlet (zf_40 Z a0b) (fun v1 => (if (Z 11 a0b 0 14) < v1 then (zlet2 (zl_38_1 a0b 61 Z 0 0) (fun y4 y5 => (zlet4 (zl_38_2 a0b 5 Z n9 y4 0) (fun Z9 n12 y7 y8 => (Z9, n12, y7))))) else (zlet2 (zl_38_1 a0b 61 Z 1 0) (fun y13 y14 => (zlet4 (zl_38_2 a0b 5 Z n9 y13 0) (fun Z18 n21 y16 y17 => (Z18, n21, y16))))))))
theorem sp_38 {s : zSM} {Z : qz_Z} {ν : qz_N} (hZ : zH s Z) (hs : s.1 = none) {n9 : Nat} (hn : ν.2.2.2.1 = n9) (a0b : Nat) (hM : s.2 + 0 ≤ 1000000000) : ∃ (Z1 : qz_Z) (ν1 : qz_N) (n1 : Nat) (P : Int), (Z1, (n1 : Int), P) = zf_38 Z n9 a0b ∧ (qf_38 [.inr (.inr (some (10, a0b, 0)))] (zm Z ν) = some (zm Z1 ν1, .inl (some (.inl (i3 P)))) ∧ zH s Z1 ∧ zL [] [] n9 Z Z1 ∧ zU [] Z Z1 ∧ ν1.2.2.2.1 = n1 ∧ zGl 192 ν ν1 ∧ n9 ≤ n1 ∧ 0 ≤ P ∧ P ≤ 1) := by
  obtain ⟨P, hP⟩ := zx (zf_38 Z n9 a0b)
  refine zc_Wn (Q := fun Z1 ν1 n1 P => zH s Z1 ∧ zL [] [] n9 Z Z1 ∧ zU [] Z Z1 ∧ ν1.2.2.2.1 = n1 ∧ zGl 192 ν ν1 ∧ n9 ≤ n1 ∧ 0 ≤ P ∧ P ≤ 1) hP (fw_38 a0b _ _ ?_)
  replace hP : zE P (zf_38 Z n9 a0b) := hP
  unfold zf_38 at hP
  obtain ⟨v1, hv1, c9, lv1, uv1⟩ := sp_40 (ν := ν) hZ a0b (zbh (c := 0) (k := 0) hM (Nat.le_of_ble_eq_true rfl))
  replace hP := zl_e hP hv1
  refine wz_cI_of (zas (zcons rfl rfl) c9) ?_
  clear c9
  have r2 := zH_k hZ 11 a0b 0 14 (lo := 0) (hi := 4) (by decide) rfl
  refine wz_br (i3L (zm_rd (Z := Z) (ν := ν) (k := 11) (rfl : ((a0b : Nat) : Int) = a0b) (show ((0 : Nat) : Int) = 0 from rfl) (show ((14 : Nat) : Int) = 14 from rfl)) (rfl : i3 v1 = i3 v1) (by omega) (by omega) (by omega) (by omega)) (fun h3 => ?_) (fun h3 => ?_)
  · replace hP := zE_p hP h3
    refine sl_38_1 (ν := ν) hZ (zbh (c := 0) (k := 0) hM (Nat.le_of_ble_eq_true rfl)) a0b (x1 := 0) (by omega) (x2 := 0) (by omega)  (zconso rfl (zconso (zvo (show (0 : Int32) = i3 0 from rfl)) (zconso (zvo (show (0 : Int32) = i3 0 from rfl)) (zconso rfl (zconso rfl (zconso rfl (zconso rfl rfl))))))) rfl ?_
    intro L6 y4 y5 hL6 gy4 gy5 q9
    replace hP := zl_e2 hP (Eq.symm q9)
    clear q9
    refine fc_38_4 _ (i3 y4) _ _ _ _ hL6 ?_
    refine sl_38_2 (ν := ν) hZ (zbh (c := 0) (k := 0) hM (Nat.le_of_ble_eq_true rfl)) hs hn (Nat.le_refl _) zGl_r a0b (x1 := y4) (by omega) (x2 := 0) (by omega) zL_r zU_r  (zconso rfl (zconso (zvo (rfl : i3 y4 = i3 y4)) (zconso (zvo (show (0 : Int32) = i3 0 from rfl)) (zconso rfl (zconso rfl (zconso rfl (zconso rfl rfl))))))) rfl ?_
    intro L10 Z9 ν11 n12 y7 y8 hL10 hZ9I kZ9 jZ9 hnν11 gν11 b1ν11 gy7 gy8 q9
    replace hP := zl_e4 hP (Eq.symm q9)
    clear q9
    have hZ9U : zU [] Z Z9 := zU_t zU_r jZ9 zU_b0
    have hZ9K : zL [] [] n9 Z Z9 := zL_t zL_r kZ9 (by decide) zL_b0 (by omega)
    have hGν11 := zGl_t zGl_r gν11
    refine fc_38_3 (i3 y7) _ _ _ _ hL10 ?_
    refine wz_i1 (i3B (rfl : i3 y7 = i3 y7) (by omega)) ?_
    exact zlWn hP (rfl : i3 y7 = i3 y7) ⟨hZ9I, hZ9K, hZ9U, hnν11, hGν11, by omega, by omega, by omega⟩
  · replace hP := zE_n hP h3
    refine sl_38_1 (ν := ν) hZ (zbh (c := 0) (k := 0) hM (Nat.le_of_ble_eq_true rfl)) a0b (x1 := 1) (by omega) (x2 := 0) (by omega)  (zconso rfl (zconso (zvo (show (1 : Int32) = i3 1 from rfl)) (zconso (zvo (show (0 : Int32) = i3 0 from rfl)) (zconso rfl (zconso rfl (zconso rfl (zconso rfl rfl))))))) rfl ?_
    intro L15 y13 y14 hL15 gy13 gy14 q9
    replace hP := zl_e2 hP (Eq.symm q9)
    clear q9
    refine fc_38_4 _ (i3 y13) _ _ _ _ hL15 ?_
    refine sl_38_2 (ν := ν) hZ (zbh (c := 0) (k := 0) hM (Nat.le_of_ble_eq_true rfl)) hs hn (Nat.le_refl _) zGl_r a0b (x1 := y13) (by omega) (x2 := 0) (by omega) zL_r zU_r  (zconso rfl (zconso (zvo (rfl : i3 y13 = i3 y13)) (zconso (zvo (show (0 : Int32) = i3 0 from rfl)) (zconso rfl (zconso rfl (zconso rfl (zconso rfl rfl))))))) rfl ?_
    intro L19 Z18 ν20 n21 y16 y17 hL19 hZ18I kZ18 jZ18 hnν20 gν20 b1ν20 gy16 gy17 q9
    replace hP := zl_e4 hP (Eq.symm q9)
    clear q9
    have hZ18U : zU [] Z Z18 := zU_t zU_r jZ18 zU_b0
    have hZ18K : zL [] [] n9 Z Z18 := zL_t zL_r kZ18 (by decide) zL_b0 (by omega)
    have hGν20 := zGl_t zGl_r gν20
    refine fc_38_3 (i3 y16) _ _ _ _ hL19 ?_
    refine wz_i1 (i3B (rfl : i3 y16 = i3 y16) (by omega)) ?_
    exact zlWn hP (rfl : i3 y16 = i3 y16) ⟨hZ18I, hZ18K, hZ18U, hnν20, hGν20, by omega, by omega, by omega⟩
/- yX1_findSupply -/
def zl_22_1 (x0b : Int) (x1b : Int) (x3ij : Int) (x2 : Int) : Nat → qz_Z → Int → qz_Z × Int
  | 0, Z, x5 => (Z, x5)
  | m + 1, Z, x5 => (if 4 ≤ x5 then (Z, x5) else (zlet (zu Z 200 x1b 0 (4 * (Z 44 x0b x3ij 1) + x5) (w3 ((Z 200 x1b 0 (4 * (Z 44 x0b x3ij 1) + x5)) + (Z 44 x0b x3ij 4)))) (fun Z7 => zl_22_1 x0b x1b x3ij x2 m Z7 (x5 + 1))))
theorem sl_22_1 {s : zSM} {Zs Z : qz_Z} {ν : qz_N} (hZ : zH s Z) (hM : s.2 + 0 ≤ 1000000000) (hs : s.1 = none) {n9 : Nat} (hn : ν.2.2.2.1 = n9) (x0b : Nat) (x1b : Nat) (hSx1 : zSh ν x1b 50 20) (x3i : Nat) {x3ij : Int} (ex3i : (x3i : Int) = x3ij) (gx3ij : 0 ≤ x3ij ∧ x3ij ≤ 47) {x2 : Int} (gx2 : 0 ≤ x2 ∧ x2 ≤ 47) {x5 : Int} (gx5 : 0 ≤ x5 ∧ x5 ≤ 4) (hK : zL [] [x1b] n9 Zs Z) (hU : zU [] Zs Z) {k : wz_K} {R : wz_R} {L : qz_L} (hL : qz_fg [true, true, true, true, false, true] L = [some (.inr (.inr (some (10, x0b, 0)))), some (.inr (.inr (some (200, x1b, 0)))), some (.inl (i3 x2)), some (.inr (.inr (some (44, x0b, x3i)))), none, some (.inl (i3 x5))]) {T : qz_Z × Int} (hP : zE T (zl_22_1 x0b x1b x3ij x2 ((4 - x5).toNat + 1) Z x5)) (hk : ∀ (L9 : qz_L) (Z9 : qz_Z) (yx5 : Int), qz_fg [true, true, true, false, false, false] L9 = [some (.inr (.inr (some (10, x0b, 0)))), some (.inr (.inr (some (200, x1b, 0)))), some (.inl (i3 x2)), none, none, none] → zH s Z9 → zL [] [x1b] n9 Zs Z9 → zU [] Zs Z9 → (0 ≤ yx5 ∧ yx5 ≤ 4) → zE T ((Z9, yx5)) → k 0 (L9, [], zm Z9 ν)) : wz_loop qb_22_1 65536 k R (L, [], zm Z ν) := by
  refine wz_lp sb_22_1 (fun m x => ∃ Z : qz_Z, ∃ x5 : Int, qz_fg [true, true, true, true, false, true] x.1 = [some (.inr (.inr (some (10, x0b, 0)))), some (.inr (.inr (some (200, x1b, 0)))), some (.inl (i3 x2)), some (.inr (.inr (some (44, x0b, x3i)))), none, some (.inl (i3 x5))] ∧ x.2 = ([], zm Z ν) ∧ zH s Z ∧ zL [] [x1b] n9 Zs Z ∧ zU [] Zs Z ∧ m = (4 - x5).toNat ∧ (0 ≤ x5 ∧ x5 ≤ 4) ∧ zE T (zl_22_1 x0b x1b x3ij x2 (m + 1) Z x5)) ?_ 65536 ((4 - x5).toNat) _ (by omega) ⟨Z, x5, hL, rfl, hZ, hK, hU, rfl, gx5, hP⟩
  clear hP gx5 hZ hK hU hL
  clear x5
  clear Z
  rintro m ⟨L, st, μ⟩ ⟨Z, x5, hL, hx, hZ, hK, hU, hm, gx5, hP⟩
  cases hx
  refine fb_22_1 x0b (200, x1b, 0) (i3 x2) x3i (i3 x5) _ _ _ _ hL ?_
  have r1 := hSx1.1
  refine wz_br (i3Le (show (4 : Int32) = i3 4 from rfl) (rfl : i3 x5 = i3 x5) (by omega) (by omega) (by omega) (by omega)) (fun h2 => ?_) (fun h2 => ?_)
  · replace hP := zE_p hP h2
    exact hk _ _ _ (zconso rfl (zconso rfl (zconso (zvo (rfl : i3 x2 = i3 x2)) (zconso rfl (zconso rfl (zconso rfl rfl)))))) hZ hK hU (by omega)  hP
  · replace hP := zE_n hP h2
    refine wz_i1 (by rw [zSh_t hSx1]; rfl) ?_
    have r3 := zH_k hZ 44 x0b x3ij 1 (lo := 0) (hi := 4) (by decide) rfl
    refine wz_i0 (by rw [zSh_l hSx1]; exact i3O (n := 20) (i3A (i3M (zm_rd (Z := Z) (ν := ν) (k := 44) (rfl : ((x0b : Nat) : Int) = x0b) ex3i (show ((1 : Nat) : Int) = 1 from rfl)) (show (4 : Int32) = i3 4 from rfl)) (rfl : i3 x5 = i3 x5)) (by omega) (by omega) (by omega)) ?_
    refine wz_i1 (by rw [zSh_t hSx1]; rfl) ?_
    refine wz_i0 (by rw [zSh_l hSx1]; exact i3O (n := 20) (i3A (i3M (zm_rd (Z := Z) (ν := ν) (k := 44) (rfl : ((x0b : Nat) : Int) = x0b) ex3i (show ((1 : Nat) : Int) = 1 from rfl)) (show (4 : Int32) = i3 4 from rfl)) (rfl : i3 x5 = i3 x5)) (by omega) (by omega) (by omega)) ?_
    have r4 := zH_f hZ 200 x1b 0 (4 * (Z 44 x0b x3ij 1) + x5)
    have r5 := zH_k hZ 44 x0b x3ij 4 (lo := 0) (hi := 40) (by decide) rfl
    have r6 := w3_r ((Z 200 x1b 0 (4 * (Z 44 x0b x3ij 1) + x5)) + (Z 44 x0b x3ij 4))
    obtain ⟨Z7, hZ7⟩ := zx (zu Z 200 x1b 0 (4 * (Z 44 x0b x3ij 1) + x5) (w3 ((Z 200 x1b 0 (4 * (Z 44 x0b x3ij 1) + x5)) + (Z 44 x0b x3ij 4))))
    replace hP := zl_e hP hZ7
    have hZ7I := zH_200 hZ hZ7 (by omega) hs
    have hZ7U : zU [] Zs Z7 := zU_u hU hZ7 (Or.inl rfl)
    have hZ7K : zL [] [x1b] n9 Zs Z7 := zL_a hK hZ7 (Or.inl (by simp))
    intro μ9 e9
    replace e9 := e9.trans (zm_wI (Z := Z) (ν := ν) hZ7 (rfl : ((x1b : Nat) : Int) = x1b) (show ((0 : Nat) : Int) = 0 from rfl) (i3I (y := (4 * (Z 44 x0b x3ij 1) + x5)) (i3A (i3M (zm_rd (Z := Z) (ν := ν) (k := 44) (rfl : ((x0b : Nat) : Int) = x0b) ex3i (show ((1 : Nat) : Int) = 1 from rfl)) (show (4 : Int32) = i3 4 from rfl)) (rfl : i3 x5 = i3 x5)) (by omega) (by omega) (by omega)) (i3W (i3A (zm_rd (Z := Z) (ν := ν) (k := 200) (rfl : ((x1b : Nat) : Int) = x1b) (show ((0 : Nat) : Int) = 0 from rfl) (i3I (y := (4 * (Z 44 x0b x3ij 1) + x5)) (i3A (i3M (zm_rd (Z := Z) (ν := ν) (k := 44) (rfl : ((x0b : Nat) : Int) = x0b) ex3i (show ((1 : Nat) : Int) = 1 from rfl)) (show (4 : Int32) = i3 4 from rfl)) (rfl : i3 x5 = i3 x5)) (by omega) (by omega) (by omega))) (zm_rd (Z := Z) (ν := ν) (k := 44) (rfl : ((x0b : Nat) : Int) = x0b) ex3i (show ((4 : Nat) : Int) = 4 from rfl)))))
    subst e9
    obtain ⟨m2, rfl⟩ : ∃ m2, m = m2 + 1 := ⟨m - 1, by omega⟩
    exact wz_k1 ⟨m2, by omega, Z7, (x5 + 1), (zconso rfl (zconso rfl (zconso (zvo (rfl : i3 x2 = i3 x2)) (zconso rfl (zconso rfl (zconso (zvo (i3A (rfl : i3 x5 = i3 x5) (show (1 : Int32) = i3 1 from rfl))) rfl)))))), rfl, hZ7I, hZ7K, hZ7U, by omega, by omega,  hP⟩
/- yX1_findSupply -/
def zl_22_3 (x0b : Int) (x1b : Int) : Nat → qz_Z → Int → qz_Z × Int
  | 0, Z, x2 => (Z, x2)
  | m + 1, Z, x2 => (if (Z 11 x0b 0 3) ≤ x2 then (Z, x2) else (if (Z 44 x0b x2 9) ≠ (-1) then (zlet2 (zl_22_1 x0b x1b x2 x2 ((4 - (Z 44 x0b x2 9)).toNat + 1) Z (Z 44 x0b x2 9)) (fun Z7 y6 => zl_22_3 x0b x1b m Z7 (x2 + 1))) else (zlet2 (zl_22_1 x0b x1b x2 x2 1 Z 4) (fun Z10 y9 => zl_22_3 x0b x1b m Z10 (x2 + 1)))))
theorem sl_22_3 {s : zSM} {Zs Z : qz_Z} {ν : qz_N} (hZ : zH s Z) (hM : s.2 + 0 ≤ 1000000000) (hs : s.1 = none) {n9 : Nat} (hn : ν.2.2.2.1 = n9) (x0b : Nat) (x1b : Nat) (hSx1 : zSh ν x1b 50 20) {x2 : Int} (gx2 : 0 ≤ x2 ∧ x2 ≤ 48) (hK : zL [] [x1b] n9 Zs Z) (hU : zU [] Zs Z) {k : wz_K} {R : wz_R} {L : qz_L} (hL : qz_fg [true, true, true, false, false, false] L = [some (.inr (.inr (some (10, x0b, 0)))), some (.inr (.inr (some (200, x1b, 0)))), some (.inl (i3 x2)), none, none, none]) {T : qz_Z × Int} (hP : zE T (zl_22_3 x0b x1b ((48 - x2).toNat + 1) Z x2)) (hk : ∀ (L9 : qz_L) (Z9 : qz_Z) (yx2 : Int), qz_fg [false, false, false, false, false, false] L9 = [none, none, none, none, none, none] → zH s Z9 → zL [] [x1b] n9 Zs Z9 → zU [] Zs Z9 → (0 ≤ yx2 ∧ yx2 ≤ 48) → zE T ((Z9, yx2)) → k 0 (L9, [], zm Z9 ν)) : wz_loop qb_22_3 65536 k R (L, [], zm Z ν) := by
  refine wz_lp sb_22_3 (fun m x => ∃ Z : qz_Z, ∃ x2 : Int, qz_fg [true, true, true, false, false, false] x.1 = [some (.inr (.inr (some (10, x0b, 0)))), some (.inr (.inr (some (200, x1b, 0)))), some (.inl (i3 x2)), none, none, none] ∧ x.2 = ([], zm Z ν) ∧ zH s Z ∧ zL [] [x1b] n9 Zs Z ∧ zU [] Zs Z ∧ m = (48 - x2).toNat ∧ (0 ≤ x2 ∧ x2 ≤ 48) ∧ zE T (zl_22_3 x0b x1b (m + 1) Z x2)) ?_ 65536 ((48 - x2).toNat) _ (by omega) ⟨Z, x2, hL, rfl, hZ, hK, hU, rfl, gx2, hP⟩
  clear hP gx2 hZ hK hU hL
  clear x2
  clear Z
  rintro m ⟨L, st, μ⟩ ⟨Z, x2, hL, hx, hZ, hK, hU, hm, gx2, hP⟩
  cases hx
  refine fb_22_3 x0b (200, x1b, 0) (i3 x2) _ _ _ _ hL ?_
  have r1 := hSx1.1
  have r2 := zH_k hZ 11 x0b 0 3 (lo := 0) (hi := 48) (by decide) rfl
  refine wz_br (i3Le (zm_rd (Z := Z) (ν := ν) (k := 11) (rfl : ((x0b : Nat) : Int) = x0b) (show ((0 : Nat) : Int) = 0 from rfl) (show ((3 : Nat) : Int) = 3 from rfl)) (rfl : i3 x2 = i3 x2) (by omega) (by omega) (by omega) (by omega)) (fun h3 => ?_) (fun h3 => ?_)
  · replace hP := zE_p hP h3
    exact hk _ _ _ (zconso rfl (zconso rfl (zconso rfl (zconso rfl (zconso rfl (zconso rfl rfl)))))) hZ hK hU (by omega)  hP
  · replace hP := zE_n hP h3
    refine wz_i0 (i3O (n := 48) (rfl : i3 x2 = i3 x2) (by omega) (by omega) (by omega)) ?_
    have r4 := zH_k hZ 44 x0b x2 9 (lo := -1) (hi := 3) (by decide) rfl
    refine wz_br (i3NE (zm_rd (Z := Z) (ν := ν) (k := 44) (rfl : ((x0b : Nat) : Int) = x0b) (i3I (y := x2) (rfl : i3 x2 = i3 x2) (by omega) (by omega) (by omega)) (show ((9 : Nat) : Int) = 9 from rfl)) (show (-1 : Int32) = i3 (-1) from rfl) (by omega) (by omega) (by omega) (by omega)) (fun h5 => ?_) (fun h5 => ?_)
    · replace hP := zE_p hP h5
      refine sl_22_1 (ν := ν) hZ (zbh (c := 0) (k := 0) hM (Nat.le_of_ble_eq_true rfl)) hs hn x0b x1b hSx1 _ (i3I (y := x2) (rfl : i3 x2 = i3 x2) (by omega) (by omega) (by omega)) (by omega) (x2 := x2) (by omega) (x5 := (Z 44 x0b x2 9)) (by omega) zL_r zU_r  (zconso rfl (zconso rfl (zconso (zvo (rfl : i3 x2 = i3 x2)) (zconso rfl (zconso rfl (zconso (zvo (zm_rd (Z := Z) (ν := ν) (k := 44) (rfl : ((x0b : Nat) : Int) = x0b) (i3I (y := x2) (rfl : i3 x2 = i3 x2) (by omega) (by omega) (by omega)) (show ((9 : Nat) : Int) = 9 from rfl))) rfl)))))) rfl ?_
      intro L8 Z7 y6 hL8 hZ7I kZ7 jZ7 gy6 q9
      replace hP := zl_e2 hP (Eq.symm q9)
      clear q9
      have hZ7U : zU [] Zs Z7 := zU_t hU jZ7 zU_b0
      have hZ7K : zL [] [x1b] n9 Zs Z7 := zL_t hK kZ7 (by decide) (zL_b1 (Or.inl (by simp)) zL_b0) (by omega)
      refine fc_22_2 _ _ (i3 x2) _ _ _ _ hL8 ?_
      obtain ⟨m2, rfl⟩ : ∃ m2, m = m2 + 1 := ⟨m - 1, by omega⟩
      refine wz_kbs (n := 1) (?_)
      exact wz_k1 ⟨m2, by omega, Z7, (x2 + 1), (zconso rfl (zconso rfl (zconso (zvo (i3A (rfl : i3 x2 = i3 x2) (show (1 : Int32) = i3 1 from rfl))) (zconso rfl (zconso rfl (zconso rfl rfl)))))), rfl, hZ7I, hZ7K, hZ7U, by omega, by omega,  hP⟩
    · replace hP := zE_n hP h5
      refine sl_22_1 (ν := ν) hZ (zbh (c := 0) (k := 0) hM (Nat.le_of_ble_eq_true rfl)) hs hn x0b x1b hSx1 _ (i3I (y := x2) (rfl : i3 x2 = i3 x2) (by omega) (by omega) (by omega)) (by omega) (x2 := x2) (by omega) (x5 := 4) (by omega) zL_r zU_r  (zconso rfl (zconso rfl (zconso (zvo (rfl : i3 x2 = i3 x2)) (zconso rfl (zconso rfl (zconso (zvo (show (4 : Int32) = i3 4 from rfl)) rfl)))))) rfl ?_
      intro L11 Z10 y9 hL11 hZ10I kZ10 jZ10 gy9 q9
      replace hP := zl_e2 hP (Eq.symm q9)
      clear q9
      have hZ10U : zU [] Zs Z10 := zU_t hU jZ10 zU_b0
      have hZ10K : zL [] [x1b] n9 Zs Z10 := zL_t hK kZ10 (by decide) (zL_b1 (Or.inl (by simp)) zL_b0) (by omega)
      refine fc_22_2 _ _ (i3 x2) _ _ _ _ hL11 ?_
      obtain ⟨m2, rfl⟩ : ∃ m2, m = m2 + 1 := ⟨m - 1, by omega⟩
      refine wz_kbs (n := 1) (?_)
      exact wz_k1 ⟨m2, by omega, Z10, (x2 + 1), (zconso rfl (zconso rfl (zconso (zvo (i3A (rfl : i3 x2 = i3 x2) (show (1 : Int32) = i3 1 from rfl))) (zconso rfl (zconso rfl (zconso rfl rfl)))))), rfl, hZ10I, hZ10K, hZ10U, by omega, by omega,  hP⟩
/- yX1_findSupply -/
def zf_22 (Z : qz_Z) (a0b : Int) (a1b : Int) : qz_Z := (zlet2 (zl_22_3 a0b a1b 49 Z 0) (fun Z3 y2 => Z3))
theorem sp_22 {s : zSM} {Z : qz_Z} {ν : qz_N} (hZ : zH s Z) (hs : s.1 = none) {n9 : Nat} (hn : ν.2.2.2.1 = n9) (a0b : Nat) (a1b : Nat) (hSa1 : zSh ν a1b 50 20) (hM : s.2 + 0 ≤ 1000000000) : ∃ P : qz_Z, P = zf_22 Z a0b a1b ∧ (qf_22 [.inr (.inr (some (10, a0b, 0))), .inr (.inr (some (200, a1b, 0)))] (zm Z ν) = some (zm P ν, .inl none) ∧ zH s P ∧ zL [] [a1b] n9 Z P ∧ zU [] Z P) := by
  obtain ⟨P, hP⟩ := zx (zf_22 Z a0b a1b)
  refine zc_V (Q := fun P => zH s P ∧ zL [] [a1b] n9 Z P ∧ zU [] Z P) hP (fw_22 a0b (200, a1b, 0) _ _ ?_)
  replace hP : zE P (zf_22 Z a0b a1b) := hP
  unfold zf_22 at hP
  have r1 := hSa1.1
  refine sl_22_3 (ν := ν) hZ (zbh (c := 0) (k := 0) hM (Nat.le_of_ble_eq_true rfl)) hs hn a0b a1b hSa1 (x2 := 0) (by omega) zL_r zU_r  (zconso rfl (zconso rfl (zconso (zvo (show (0 : Int32) = i3 0 from rfl)) (zconso rfl (zconso rfl (zconso rfl rfl)))))) rfl ?_
  intro L4 Z3 y2 hL4 hZ3I kZ3 jZ3 gy2 q9
  replace hP := zl_e2 hP (Eq.symm q9)
  clear q9
  have hZ3U : zU [] Z Z3 := zU_t zU_r jZ3 zU_b0
  have hZ3K : zL [] [a1b] n9 Z Z3 := zL_t zL_r kZ3 (by decide) (zL_b1 (Or.inl (by simp)) zL_b0) (by omega)
  refine fc_22_4  _ _ _ _ hL4 ?_
  exact zlV hP ⟨hZ3I, hZ3K, hZ3U⟩
/- yX1_giveFrom -/
def zl_24_1 (x0b : Int) (x1b : Int) (x1ij : Int) (x2 : Int) : Nat → qz_Z → Int → Int → Int × Int
  | 0, Z, x3, x4 => (x3, x4)
  | m + 1, Z, x3, x4 => (if 4 ≤ x4 then (x3, x4) else zl_24_1 x0b x1b x1ij x2 m Z (min (Z 200 x0b 0 (x2 + x4)) x3) (x4 + 1))
theorem sl_24_1 {s : zSM} {Z : qz_Z} {ν : qz_N} (hZ : zH s Z) (hM : s.2 + 0 ≤ 1000000000) (x0b : Nat) (hSx0 : zSh ν x0b 50 20) (x1b : Nat) (x1i : Nat) {x1ij : Int} (ex1i : (x1i : Int) = x1ij) (gx1ij : 0 ≤ x1ij ∧ x1ij ≤ 23) {x2 : Int} (gx2 : 0 ≤ x2 ∧ x2 ≤ 16) {x3 : Int} (gx3 : -2147483648 ≤ x3 ∧ x3 ≤ 99) {x4 : Int} (gx4 : 0 ≤ x4 ∧ x4 ≤ 4) {k : wz_K} {R : wz_R} {L : qz_L} (hL : qz_fg [true, true, true, true, true] L = [some (.inr (.inr (some (200, x0b, 0)))), some (.inr (.inr (some (46, x1b, x1i)))), some (.inl (i3 x2)), some (.inl (i3 x3)), some (.inl (i3 x4))]) {T : Int × Int} (hP : zE T (zl_24_1 x0b x1b x1ij x2 ((4 - x4).toNat + 1) Z x3 x4)) (hk : ∀ (L9 : qz_L) (yx3 yx4 : Int), qz_fg [true, true, true, true, false] L9 = [some (.inr (.inr (some (200, x0b, 0)))), some (.inr (.inr (some (46, x1b, x1i)))), some (.inl (i3 x2)), some (.inl (i3 yx3)), none] → (-2147483648 ≤ yx3 ∧ yx3 ≤ 99) → (0 ≤ yx4 ∧ yx4 ≤ 4) → zE T ((yx3, yx4)) → k 0 (L9, [], zm Z ν)) : wz_loop qb_24_1 65536 k R (L, [], zm Z ν) := by
  refine wz_lp sb_24_1 (fun m x => ∃ x3 : Int, ∃ x4 : Int, qz_fg [true, true, true, true, true] x.1 = [some (.inr (.inr (some (200, x0b, 0)))), some (.inr (.inr (some (46, x1b, x1i)))), some (.inl (i3 x2)), some (.inl (i3 x3)), some (.inl (i3 x4))] ∧ x.2 = ([], zm Z ν) ∧ m = (4 - x4).toNat ∧ (-2147483648 ≤ x3 ∧ x3 ≤ 99) ∧ (0 ≤ x4 ∧ x4 ≤ 4) ∧ zE T (zl_24_1 x0b x1b x1ij x2 (m + 1) Z x3 x4)) ?_ 65536 ((4 - x4).toNat) _ (by omega) ⟨x3, x4, hL, rfl, rfl, gx3, gx4, hP⟩
  clear hP gx3 gx4 hL
  clear x3 x4
  rintro m ⟨L, st, μ⟩ ⟨x3, x4, hL, hx, hm, gx3, gx4, hP⟩
  cases hx
  refine fb_24_1 (200, x0b, 0) x1b x1i (i3 x2) (i3 x3) (i3 x4) _ _ _ _ hL ?_
  refine wz_br (i3Le (show (4 : Int32) = i3 4 from rfl) (rfl : i3 x4 = i3 x4) (by omega) (by omega) (by omega) (by omega)) (fun h1 => ?_) (fun h1 => ?_)
  · replace hP := zE_p hP h1
    exact hk _ _ _ (zconso rfl (zconso rfl (zconso (zvo (rfl : i3 x2 = i3 x2)) (zconso (zvo (rfl : i3 x3 = i3 x3)) (zconso rfl rfl)))))  (by omega) (by omega)  hP
  · replace hP := zE_n hP h1
    refine wz_i1 (by rw [zSh_t hSx0]; rfl) ?_
    refine wz_i0 (by rw [zSh_l hSx0]; exact i3O (n := 20) (i3A (rfl : i3 x2 = i3 x2) (rfl : i3 x4 = i3 x4)) (by omega) (by omega) (by omega)) ?_
    have r2 := zH_f hZ 200 x0b 0 (x2 + x4)
    obtain ⟨m2, rfl⟩ : ∃ m2, m = m2 + 1 := ⟨m - 1, by omega⟩
    exact wz_k1 ⟨m2, by omega, (min (Z 200 x0b 0 (x2 + x4)) x3), (x4 + 1), (zconso rfl (zconso rfl (zconso (zvo (rfl : i3 x2 = i3 x2)) (zconso (zvo (i3Mn (zm_rd (Z := Z) (ν := ν) (k := 200) (rfl : ((x0b : Nat) : Int) = x0b) (show ((0 : Nat) : Int) = 0 from rfl) (i3I (y := (x2 + x4)) (i3A (rfl : i3 x2 = i3 x2) (rfl : i3 x4 = i3 x4)) (by omega) (by omega) (by omega))) (rfl : i3 x3 = i3 x3) (by omega) (by omega) (by omega) (by omega))) (zconso (zvo (i3A (rfl : i3 x4 = i3 x4) (show (1 : Int32) = i3 1 from rfl))) rfl))))), rfl,  by omega, by omega, by omega,  hP⟩
/- yX1_giveFrom -/
def zl_24_2 (x0b : Int) (x2 : Int) (x3 : Int) : Nat → qz_Z → Int → qz_Z × Int
  | 0, Z, x4 => (Z, x4)
  | m + 1, Z, x4 => (if 4 ≤ x4 then (Z, x4) else (zlet (zu Z 200 x0b 0 (x2 + x4) (w3 ((Z 200 x0b 0 (x2 + x4)) - x3))) (fun Z5 => zl_24_2 x0b x2 x3 m Z5 (x4 + 1))))
theorem sl_24_2 {s : zSM} {Zs Z : qz_Z} {ν : qz_N} (hZ : zH s Z) (hM : s.2 + 0 ≤ 1000000000) (hs : s.1 = none) {n9 : Nat} (hn : ν.2.2.2.1 = n9) (x0b : Nat) (hSx0 : zSh ν x0b 50 20) {x2 : Int} (gx2 : 0 ≤ x2 ∧ x2 ≤ 16) {x3 : Int} (gx3 : -2147483648 ≤ x3 ∧ x3 ≤ 99) {x4 : Int} (gx4 : 0 ≤ x4 ∧ x4 ≤ 4) (hK : zL [] [x0b] n9 Zs Z) (hU : zU [] Zs Z) {k : wz_K} {R : wz_R} {L : qz_L} (hL : qz_fg [true, false, true, true, true] L = [some (.inr (.inr (some (200, x0b, 0)))), none, some (.inl (i3 x2)), some (.inl (i3 x3)), some (.inl (i3 x4))]) {T : qz_Z × Int} (hP : zE T (zl_24_2 x0b x2 x3 ((4 - x4).toNat + 1) Z x4)) (hk : ∀ (L9 : qz_L) (Z9 : qz_Z) (yx4 : Int), qz_fg [false, false, false, true, false] L9 = [none, none, none, some (.inl (i3 x3)), none] → zH s Z9 → zL [] [x0b] n9 Zs Z9 → zU [] Zs Z9 → (0 ≤ yx4 ∧ yx4 ≤ 4) → zE T ((Z9, yx4)) → k 0 (L9, [], zm Z9 ν)) : wz_loop qb_24_2 65536 k R (L, [], zm Z ν) := by
  refine wz_lp sb_24_2 (fun m x => ∃ Z : qz_Z, ∃ x4 : Int, qz_fg [true, false, true, true, true] x.1 = [some (.inr (.inr (some (200, x0b, 0)))), none, some (.inl (i3 x2)), some (.inl (i3 x3)), some (.inl (i3 x4))] ∧ x.2 = ([], zm Z ν) ∧ zH s Z ∧ zL [] [x0b] n9 Zs Z ∧ zU [] Zs Z ∧ m = (4 - x4).toNat ∧ (0 ≤ x4 ∧ x4 ≤ 4) ∧ zE T (zl_24_2 x0b x2 x3 (m + 1) Z x4)) ?_ 65536 ((4 - x4).toNat) _ (by omega) ⟨Z, x4, hL, rfl, hZ, hK, hU, rfl, gx4, hP⟩
  clear hP gx4 hZ hK hU hL
  clear x4
  clear Z
  rintro m ⟨L, st, μ⟩ ⟨Z, x4, hL, hx, hZ, hK, hU, hm, gx4, hP⟩
  cases hx
  refine fb_24_2 (200, x0b, 0) (i3 x2) (i3 x3) (i3 x4) _ _ _ _ hL ?_
  have r1 := hSx0.1
  refine wz_br (i3Le (show (4 : Int32) = i3 4 from rfl) (rfl : i3 x4 = i3 x4) (by omega) (by omega) (by omega) (by omega)) (fun h2 => ?_) (fun h2 => ?_)
  · replace hP := zE_p hP h2
    exact hk _ _ _ (zconso rfl (zconso rfl (zconso rfl (zconso (zvo (rfl : i3 x3 = i3 x3)) (zconso rfl rfl))))) hZ hK hU (by omega)  hP
  · replace hP := zE_n hP h2
    refine wz_i1 (by rw [zSh_t hSx0]; rfl) ?_
    refine wz_i0 (by rw [zSh_l hSx0]; exact i3O (n := 20) (i3A (rfl : i3 x2 = i3 x2) (rfl : i3 x4 = i3 x4)) (by omega) (by omega) (by omega)) ?_
    refine wz_i1 (by rw [zSh_t hSx0]; rfl) ?_
    refine wz_i0 (by rw [zSh_l hSx0]; exact i3O (n := 20) (i3A (rfl : i3 x2 = i3 x2) (rfl : i3 x4 = i3 x4)) (by omega) (by omega) (by omega)) ?_
    have r3 := zH_f hZ 200 x0b 0 (x2 + x4)
    have r4 := w3_r ((Z 200 x0b 0 (x2 + x4)) - x3)
    obtain ⟨Z5, hZ5⟩ := zx (zu Z 200 x0b 0 (x2 + x4) (w3 ((Z 200 x0b 0 (x2 + x4)) - x3)))
    replace hP := zl_e hP hZ5
    have hZ5I := zH_200 hZ hZ5 (by omega) hs
    have hZ5U : zU [] Zs Z5 := zU_u hU hZ5 (Or.inl rfl)
    have hZ5K : zL [] [x0b] n9 Zs Z5 := zL_a hK hZ5 (Or.inl (by simp))
    intro μ9 e9
    replace e9 := e9.trans (zm_wI (Z := Z) (ν := ν) hZ5 (rfl : ((x0b : Nat) : Int) = x0b) (show ((0 : Nat) : Int) = 0 from rfl) (i3I (y := (x2 + x4)) (i3A (rfl : i3 x2 = i3 x2) (rfl : i3 x4 = i3 x4)) (by omega) (by omega) (by omega)) (i3W (i3S (zm_rd (Z := Z) (ν := ν) (k := 200) (rfl : ((x0b : Nat) : Int) = x0b) (show ((0 : Nat) : Int) = 0 from rfl) (i3I (y := (x2 + x4)) (i3A (rfl : i3 x2 = i3 x2) (rfl : i3 x4 = i3 x4)) (by omega) (by omega) (by omega))) (rfl : i3 x3 = i3 x3))))
    subst e9
    obtain ⟨m2, rfl⟩ : ∃ m2, m = m2 + 1 := ⟨m - 1, by omega⟩
    exact wz_k1 ⟨m2, by omega, Z5, (x4 + 1), (zconso rfl (zconso rfl (zconso (zvo (rfl : i3 x2 = i3 x2)) (zconso (zvo (rfl : i3 x3 = i3 x3)) (zconso (zvo (i3A (rfl : i3 x4 = i3 x4) (show (1 : Int32) = i3 1 from rfl))) rfl))))), rfl, hZ5I, hZ5K, hZ5U, by omega, by omega,  hP⟩
/- yX1_giveFrom -/
def zf_24 (Z : qz_Z) (a0b : Int) (a1b : Int) (a1ij : Int) : qz_Z × Int := (zlet2 (zl_24_1 a0b a1b a1ij ((Z 46 a1b a1ij 1) * 4) ((4 - (Z 46 a1b a1ij 2)).toNat + 1) Z (Z 46 a1b a1ij 6) (Z 46 a1b a1ij 2)) (fun y5 y6 => (zlet2 (zl_24_2 a0b ((Z 46 a1b a1ij 1) * 4) y5 ((4 - (Z 46 a1b a1ij 2)).toNat + 1) Z (Z 46 a1b a1ij 2)) (fun Z9 y8 => (Z9, y5)))))
theorem sp_24 {s : zSM} {Z : qz_Z} {ν : qz_N} (hZ : zH s Z) (hs : s.1 = none) {n9 : Nat} (hn : ν.2.2.2.1 = n9) (a0b : Nat) (hSa0 : zSh ν a0b 50 20) (a1b : Nat) (a1i : Nat) {a1ij : Int} (ea1i : (a1i : Int) = a1ij) (ga1i : 0 ≤ a1ij ∧ a1ij ≤ 23) (hM : s.2 + 0 ≤ 1000000000) : ∃ (Z1 : qz_Z) (P : Int), (Z1, P) = zf_24 Z a0b a1b a1ij ∧ (qf_24 [.inr (.inr (some (200, a0b, 0))), .inr (.inr (some (46, a1b, a1i)))] (zm Z ν) = some (zm Z1 ν, .inl (some (.inl (i3 P)))) ∧ zH s Z1 ∧ zL [] [a0b] n9 Z Z1 ∧ zU [] Z Z1 ∧ -2147483648 ≤ P ∧ P ≤ 99) := by
  obtain ⟨P, hP⟩ := zx (zf_24 Z a0b a1b a1ij)
  refine zc_W (Q := fun Z1 P => zH s Z1 ∧ zL [] [a0b] n9 Z Z1 ∧ zU [] Z Z1 ∧ -2147483648 ≤ P ∧ P ≤ 99) hP (fw_24 (200, a0b, 0) a1b a1i _ _ ?_)
  replace hP : zE P (zf_24 Z a0b a1b a1ij) := hP
  unfold zf_24 at hP
  have r1 := hSa0.1
  have r2 := zH_k hZ 46 a1b a1ij 1 (lo := 0) (hi := 4) (by decide) rfl
  have r3 := zH_k hZ 46 a1b a1ij 6 (lo := 0) (hi := 99) (by decide) rfl
  have r4 := zH_k hZ 46 a1b a1ij 2 (lo := 0) (hi := 3) (by decide) rfl
  refine sl_24_1 (ν := ν) hZ (zbh (c := 0) (k := 0) hM (Nat.le_of_ble_eq_true rfl)) a0b hSa0 a1b _ ea1i (by omega) (x2 := ((Z 46 a1b a1ij 1) * 4)) (by omega) (x3 := (Z 46 a1b a1ij 6)) (by omega) (x4 := (Z 46 a1b a1ij 2)) (by omega)  (zconso rfl (zconso rfl (zconso (zvo (i3M (zm_rd (Z := Z) (ν := ν) (k := 46) (rfl : ((a1b : Nat) : Int) = a1b) ea1i (show ((1 : Nat) : Int) = 1 from rfl)) (show (4 : Int32) = i3 4 from rfl))) (zconso (zvo (zm_rd (Z := Z) (ν := ν) (k := 46) (rfl : ((a1b : Nat) : Int) = a1b) ea1i (show ((6 : Nat) : Int) = 6 from rfl))) (zconso (zvo (zm_rd (Z := Z) (ν := ν) (k := 46) (rfl : ((a1b : Nat) : Int) = a1b) ea1i (show ((2 : Nat) : Int) = 2 from rfl))) rfl))))) rfl ?_
  intro L7 y5 y6 hL7 gy5 gy6 q9
  replace hP := zl_e2 hP (Eq.symm q9)
  clear q9
  refine fc_24_4 _ _ _ (i3 ((Z 46 a1b a1ij 1) * 4)) (i3 y5) _ _ _ _ hL7 ?_
  refine sl_24_2 (ν := ν) hZ (zbh (c := 0) (k := 0) hM (Nat.le_of_ble_eq_true rfl)) hs hn a0b hSa0 (x2 := ((Z 46 a1b a1ij 1) * 4)) (by omega) (x3 := y5) (by omega) (x4 := (Z 46 a1b a1ij 2)) (by omega) zL_r zU_r  (zconso rfl (zconso rfl (zconso (zvo (rfl : i3 ((Z 46 a1b a1ij 1) * 4) = i3 ((Z 46 a1b a1ij 1) * 4))) (zconso (zvo (rfl : i3 y5 = i3 y5)) (zconso (zvo (zm_rd (Z := Z) (ν := ν) (k := 46) (rfl : ((a1b : Nat) : Int) = a1b) ea1i (show ((2 : Nat) : Int) = 2 from rfl))) rfl))))) rfl ?_
  intro L10 Z9 y8 hL10 hZ9I kZ9 jZ9 gy8 q9
  replace hP := zl_e2 hP (Eq.symm q9)
  clear q9
  have hZ9U : zU [] Z Z9 := zU_t zU_r jZ9 zU_b0
  have hZ9K : zL [] [a0b] n9 Z Z9 := zL_t zL_r kZ9 (by decide) (zL_b1 (Or.inl (by simp)) zL_b0) (by omega)
  refine fc_24_3 (i3 y5) _ _ _ _ hL10 ?_
  exact zlW hP (rfl : i3 y5 = i3 y5) ⟨hZ9I, hZ9K, hZ9U, by omega, by omega⟩
/- yX1_nextToFill -/
def zl_29_1 (x0b : Int) : Nat → qz_Z → Int → Int → Int × Int
  | 0, Z, x2, x3 => (x2, x3)
  | m + 1, Z, x2, x3 => (if (Z 11 x0b 0 5) ≤ x3 then (x2, x3) else (if (Z 69 0 0 x3) ≠ (-1) then zl_29_1 x0b m Z x2 (x3 + 1) else (if x2 = (-1) then zl_29_1 x0b m Z x3 (x3 + 1) else (if (Z 46 x0b x3 4) ≤ (Z 46 x0b x2 4) then zl_29_1 x0b m Z x2 (x3 + 1) else zl_29_1 x0b m Z x3 (x3 + 1)))))
theorem sl_29_1 {s : zSM} {Z : qz_Z} {ν : qz_N} (hZ : zH s Z) (hM : s.2 + 0 ≤ 1000000000) (x0b : Nat) {x2 : Int} (gx2 : -1 ≤ x2 ∧ x2 ≤ 23) {x3 : Int} (gx3 : 0 ≤ x3 ∧ x3 ≤ 24) {k : wz_K} {R : wz_R} {L : qz_L} (hL : qz_fg [true, true, true, true] L = [some (.inr (.inr (some (10, x0b, 0)))), some (.inr (.inr (some (69, 0, 0)))), some (.inl (i3 x2)), some (.inl (i3 x3))]) {T : Int × Int} (hP : zE T (zl_29_1 x0b ((24 - x3).toNat + 1) Z x2 x3)) (hk : ∀ (L9 : qz_L) (yx2 yx3 : Int), qz_fg [false, false, true, false] L9 = [none, none, some (.inl (i3 yx2)), none] → (-1 ≤ yx2 ∧ yx2 ≤ 23) → (0 ≤ yx3 ∧ yx3 ≤ 24) → zE T ((yx2, yx3)) → k 0 (L9, [], zm Z ν)) : wz_loop qb_29_1 65536 k R (L, [], zm Z ν) := by
  refine wz_lp sb_29_1 (fun m x => ∃ x2 : Int, ∃ x3 : Int, qz_fg [true, true, true, true] x.1 = [some (.inr (.inr (some (10, x0b, 0)))), some (.inr (.inr (some (69, 0, 0)))), some (.inl (i3 x2)), some (.inl (i3 x3))] ∧ x.2 = ([], zm Z ν) ∧ m = (24 - x3).toNat ∧ (-1 ≤ x2 ∧ x2 ≤ 23) ∧ (0 ≤ x3 ∧ x3 ≤ 24) ∧ zE T (zl_29_1 x0b (m + 1) Z x2 x3)) ?_ 65536 ((24 - x3).toNat) _ (by omega) ⟨x2, x3, hL, rfl, rfl, gx2, gx3, hP⟩
  clear hP gx2 gx3 hL
  clear x2 x3
  rintro m ⟨L, st, μ⟩ ⟨x2, x3, hL, hx, hm, gx2, gx3, hP⟩
  cases hx
  refine fb_29_1 x0b (i3 x2) (i3 x3) _ _ _ _ hL ?_
  have r1 := zH_k hZ 11 x0b 0 5 (lo := 0) (hi := 24) (by decide) rfl
  refine wz_br (i3Le (zm_rd (Z := Z) (ν := ν) (k := 11) (rfl : ((x0b : Nat) : Int) = x0b) (show ((0 : Nat) : Int) = 0 from rfl) (show ((5 : Nat) : Int) = 5 from rfl)) (rfl : i3 x3 = i3 x3) (by omega) (by omega) (by omega) (by omega)) (fun h2 => ?_) (fun h2 => ?_)
  · replace hP := zE_p hP h2
    exact hk _ _ _ (zconso rfl (zconso rfl (zconso (zvo (rfl : i3 x2 = i3 x2)) (zconso rfl rfl))))  (by omega) (by omega)  hP
  · replace hP := zE_n hP h2
    refine wz_i0 (i3O (n := 24) (rfl : i3 x3 = i3 x3) (by omega) (by omega) (by omega)) ?_
    have r3 := zH_f hZ 69 0 0 x3
    refine wz_br (i3NE (zm_rd (Z := Z) (ν := ν) (k := 69) (show ((0 : Nat) : Int) = 0 from rfl) (show ((0 : Nat) : Int) = 0 from rfl) (i3I (y := x3) (rfl : i3 x3 = i3 x3) (by omega) (by omega) (by omega))) (show (-1 : Int32) = i3 (-1) from rfl) (by omega) (by omega) (by omega) (by omega)) (fun h4 => ?_) (fun h4 => ?_)
    · replace hP := zE_p hP h4
      obtain ⟨m2, rfl⟩ : ∃ m2, m = m2 + 1 := ⟨m - 1, by omega⟩
      exact wz_k1 ⟨m2, by omega, x2, (x3 + 1), (zconso rfl (zconso rfl (zconso (zvo (rfl : i3 x2 = i3 x2)) (zconso (zvo (i3A (rfl : i3 x3 = i3 x3) (show (1 : Int32) = i3 1 from rfl))) rfl)))), rfl,  by omega, by omega, by omega,  hP⟩
    · replace hP := zE_n hP h4
      refine wz_br (i3E (rfl : i3 x2 = i3 x2) (show (-1 : Int32) = i3 (-1) from rfl) (by omega) (by omega) (by omega) (by omega)) (fun h5 => ?_) (fun h5 => ?_)
      · replace hP := zE_p hP h5
        obtain ⟨m2, rfl⟩ : ∃ m2, m = m2 + 1 := ⟨m - 1, by omega⟩
        exact wz_k1 ⟨m2, by omega, x3, (x3 + 1), (zconso rfl (zconso rfl (zconso (zvo (rfl : i3 x3 = i3 x3)) (zconso (zvo (i3A (rfl : i3 x3 = i3 x3) (show (1 : Int32) = i3 1 from rfl))) rfl)))), rfl,  by omega, by omega, by omega,  hP⟩
      · replace hP := zE_n hP h5
        refine wz_i0 (i3O (n := 24) (rfl : i3 x3 = i3 x3) (by omega) (by omega) (by omega)) ?_
        refine wz_i0 (i3O (n := 24) (rfl : i3 x2 = i3 x2) (by omega) (by omega) (by omega)) ?_
        have r6 := zH_k hZ 46 x0b x3 4 (lo := 0) (hi := 9999) (by decide) rfl
        have r7 := zH_k hZ 46 x0b x2 4 (lo := 0) (hi := 9999) (by decide) rfl
        refine wz_br (i3Le (zm_rd (Z := Z) (ν := ν) (k := 46) (rfl : ((x0b : Nat) : Int) = x0b) (i3I (y := x3) (rfl : i3 x3 = i3 x3) (by omega) (by omega) (by omega)) (show ((4 : Nat) : Int) = 4 from rfl)) (zm_rd (Z := Z) (ν := ν) (k := 46) (rfl : ((x0b : Nat) : Int) = x0b) (i3I (y := x2) (rfl : i3 x2 = i3 x2) (by omega) (by omega) (by omega)) (show ((4 : Nat) : Int) = 4 from rfl)) (by omega) (by omega) (by omega) (by omega)) (fun h8 => ?_) (fun h8 => ?_)
        · replace hP := zE_p hP h8
          obtain ⟨m2, rfl⟩ : ∃ m2, m = m2 + 1 := ⟨m - 1, by omega⟩
          exact wz_k1 ⟨m2, by omega, x2, (x3 + 1), (zconso rfl (zconso rfl (zconso (zvo (rfl : i3 x2 = i3 x2)) (zconso (zvo (i3A (rfl : i3 x3 = i3 x3) (show (1 : Int32) = i3 1 from rfl))) rfl)))), rfl,  by omega, by omega, by omega,  hP⟩
        · replace hP := zE_n hP h8
          obtain ⟨m2, rfl⟩ : ∃ m2, m = m2 + 1 := ⟨m - 1, by omega⟩
          exact wz_k1 ⟨m2, by omega, x3, (x3 + 1), (zconso rfl (zconso rfl (zconso (zvo (rfl : i3 x3 = i3 x3)) (zconso (zvo (i3A (rfl : i3 x3 = i3 x3) (show (1 : Int32) = i3 1 from rfl))) rfl)))), rfl,  by omega, by omega, by omega,  hP⟩
/- yX1_nextToFill -/
def zf_29 (Z : qz_Z) (a0b : Int) : Int := (zlet2 (zl_29_1 a0b 25 Z (-1) 0) (fun y1 y2 => y1))
theorem sp_29 {s : zSM} {Z : qz_Z} {ν : qz_N} (hZ : zH s Z) (a0b : Nat) (hM : s.2 + 0 ≤ 1000000000) : ∃ P : Int, P = zf_29 Z a0b ∧ (qf_29 [.inr (.inr (some (10, a0b, 0))), .inr (.inr (some (69, 0, 0)))] (zm Z ν) = some (zm Z ν, .inl (some (.inl (i3 P)))) ∧ -1 ≤ P ∧ P ≤ 23) := by
  obtain ⟨P, hP⟩ := zx (zf_29 Z a0b)
  refine zc_R (Q := fun P => -1 ≤ P ∧ P ≤ 23) hP (fw_29 a0b _ _ ?_)
  replace hP : zE P (zf_29 Z a0b) := hP
  unfold zf_29 at hP
  refine sl_29_1 (ν := ν) hZ (zbh (c := 0) (k := 0) hM (Nat.le_of_ble_eq_true rfl)) a0b (x2 := (-1)) (by omega) (x3 := 0) (by omega)  (zconso rfl (zconso rfl (zconso (zvo (show (-1 : Int32) = i3 (-1) from rfl)) (zconso (zvo (show (0 : Int32) = i3 0 from rfl)) rfl)))) rfl ?_
  intro L3 y1 y2 hL3 gy1 gy2 q9
  replace hP := zl_e2 hP (Eq.symm q9)
  clear q9
  refine fc_29_2 (i3 y1) _ _ _ _ hL3 ?_
  exact zlR hP (rfl : i3 y1 = i3 y1) ⟨by omega, by omega⟩
/- yX1_fill -/
def zl_21_1 (x0b : Int) (x2 : Int) : Nat → qz_Z → Int → qz_Z × Int
  | 0, Z, x3 => (Z, x3)
  | m + 1, Z, x3 => (if 24 ≤ x3 then (Z, x3) else (if (Z 11 x0b 0 5) ≤ x3 then (zlet (zu Z 69 0 0 x3 0) (fun Z4 => zl_21_1 x0b x2 m Z4 (x3 + 1))) else (zlet (zf_14 Z x0b x0b x3) (fun v5 => (if v5 = 0 then (zlet (zu Z 69 0 0 x3 0) (fun Z7 => zl_21_1 x0b x2 m Z7 (x3 + 1))) else (zlet (zu Z 69 0 0 x3 (-1)) (fun Z8 => zl_21_1 x0b x2 m Z8 (x3 + 1))))))))
theorem sl_21_1 {s : zSM} {Zs Z : qz_Z} {ν : qz_N} (hZ : zH s Z) (hM : s.2 + 0 ≤ 1000000000) (hK : zC [69] Zs Z) (x0b : Nat) (x2 : Nat) (hSx2 : zSh ν x2 50 20) {x3 : Int} (gx3 : 0 ≤ x3 ∧ x3 ≤ 24) (hU : zU [] Zs Z) {k : wz_K} {R : wz_R} {L : qz_L} (hL : qz_fg [true, true, true, true, false, false] L = [some (.inr (.inr (some (10, x0b, 0)))), some (.inr (.inr (some (69, 0, 0)))), some (.inr (.inr (some (200, x2, 0)))), some (.inl (i3 x3)), none, none]) {T : qz_Z × Int} (hP : zE T (zl_21_1 x0b x2 ((24 - x3).toNat + 1) Z x3)) (hk : ∀ (L9 : qz_L) (Z9 : qz_Z) (yx3 : Int), qz_fg [true, true, true, false, false, false] L9 = [some (.inr (.inr (some (10, x0b, 0)))), some (.inr (.inr (some (69, 0, 0)))), some (.inr (.inr (some (200, x2, 0)))), none, none, none] → zH s Z9 → zC [69] Zs Z9 → zU [] Zs Z9 → (0 ≤ yx3 ∧ yx3 ≤ 24) → zE T ((Z9, yx3)) → k 0 (L9, [], zm Z9 ν)) : wz_loop qb_21_1 65536 k R (L, [], zm Z ν) := by
  refine wz_lp sb_21_1 (fun m x => ∃ Z : qz_Z, ∃ x3 : Int, qz_fg [true, true, true, true, false, false] x.1 = [some (.inr (.inr (some (10, x0b, 0)))), some (.inr (.inr (some (69, 0, 0)))), some (.inr (.inr (some (200, x2, 0)))), some (.inl (i3 x3)), none, none] ∧ x.2 = ([], zm Z ν) ∧ zH s Z ∧ zC [69] Zs Z ∧ zU [] Zs Z ∧ m = (24 - x3).toNat ∧ (0 ≤ x3 ∧ x3 ≤ 24) ∧ zE T (zl_21_1 x0b x2 (m + 1) Z x3)) ?_ 65536 ((24 - x3).toNat) _ (by omega) ⟨Z, x3, hL, rfl, hZ, hK, hU, rfl, gx3, hP⟩
  clear hP gx3 hZ hK hU hL
  clear x3
  clear Z
  rintro m ⟨L, st, μ⟩ ⟨Z, x3, hL, hx, hZ, hK, hU, hm, gx3, hP⟩
  cases hx
  refine fb_21_1 x0b x2 (i3 x3) _ _ _ _ hL ?_
  refine wz_br (i3Le (show (24 : Int32) = i3 24 from rfl) (rfl : i3 x3 = i3 x3) (by omega) (by omega) (by omega) (by omega)) (fun h1 => ?_) (fun h1 => ?_)
  · replace hP := zE_p hP h1
    exact hk _ _ _ (zconso rfl (zconso rfl (zconso rfl (zconso rfl (zconso rfl (zconso rfl rfl)))))) hZ hK hU (by omega)  hP
  · replace hP := zE_n hP h1
    have r2 := zH_k hZ 11 x0b 0 5 (lo := 0) (hi := 24) (by decide) rfl
    refine wz_br (i3Le (zm_rd (Z := Z) (ν := ν) (k := 11) (rfl : ((x0b : Nat) : Int) = x0b) (show ((0 : Nat) : Int) = 0 from rfl) (show ((5 : Nat) : Int) = 5 from rfl)) (rfl : i3 x3 = i3 x3) (by omega) (by omega) (by omega) (by omega)) (fun h3 => ?_) (fun h3 => ?_)
    · replace hP := zE_p hP h3
      refine wz_i0 (i3O (n := 24) (rfl : i3 x3 = i3 x3) (by omega) (by omega) (by omega)) ?_
      obtain ⟨Z4, hZ4⟩ := zx (zu Z 69 0 0 x3 0)
      replace hP := zl_e hP hZ4
      have hZ4I := zH_0 hZ hZ4 (by decide) (Or.inl (by decide))
      have hZ4U : zU [] Zs Z4 := zU_u hU hZ4 (Or.inl rfl)
      have hZ4K : zC [69] Zs Z4 := zC_u hK hZ4 rfl
      intro μ9 e9
      replace e9 := e9.trans (zm_wI (Z := Z) (ν := ν) hZ4 (show ((0 : Nat) : Int) = 0 from rfl) (show ((0 : Nat) : Int) = 0 from rfl) (i3I (y := x3) (rfl : i3 x3 = i3 x3) (by omega) (by omega) (by omega)) (show (0 : Int32) = i3 0 from rfl))
      subst e9
      obtain ⟨m2, rfl⟩ : ∃ m2, m = m2 + 1 := ⟨m - 1, by omega⟩
      exact wz_k1 ⟨m2, by omega, Z4, (x3 + 1), (zconso rfl (zconso rfl (zconso rfl (zconso (zvo (i3A (rfl : i3 x3 = i3 x3) (show (1 : Int32) = i3 1 from rfl))) (zconso rfl (zconso rfl rfl)))))), rfl, hZ4I, hZ4K, hZ4U, by omega, by omega,  hP⟩
    · replace hP := zE_n hP h3
      refine wz_i0 (i3O (n := 24) (rfl : i3 x3 = i3 x3) (by omega) (by omega) (by omega)) ?_
      obtain ⟨v5, hv5, c9, lv5, uv5⟩ := sp_14 (ν := ν) hZ x0b x0b _ (i3I (y := x3) (rfl : i3 x3 = i3 x3) (by omega) (by omega) (by omega)) (by omega) (zbh (c := 0) (k := 0) hM (Nat.le_of_ble_eq_true rfl))
      replace hP := zl_e hP hv5
      refine wz_cI_of (zas (zcons rfl (zcons rfl rfl)) c9) ?_
      clear c9
      refine wz_br (i3E (rfl : i3 v5 = i3 v5) (show (0 : Int32) = i3 0 from rfl) (by omega) (by omega) (by omega) (by omega)) (fun h6 => ?_) (fun h6 => ?_)
      · replace hP := zE_p hP h6
        refine wz_i0 (i3O (n := 24) (rfl : i3 x3 = i3 x3) (by omega) (by omega) (by omega)) ?_
        obtain ⟨Z7, hZ7⟩ := zx (zu Z 69 0 0 x3 0)
        replace hP := zl_e hP hZ7
        have hZ7I := zH_0 hZ hZ7 (by decide) (Or.inl (by decide))
        have hZ7U : zU [] Zs Z7 := zU_u hU hZ7 (Or.inl rfl)
        have hZ7K : zC [69] Zs Z7 := zC_u hK hZ7 rfl
        intro μ9 e9
        replace e9 := e9.trans (zm_wI (Z := Z) (ν := ν) hZ7 (show ((0 : Nat) : Int) = 0 from rfl) (show ((0 : Nat) : Int) = 0 from rfl) (i3I (y := x3) (rfl : i3 x3 = i3 x3) (by omega) (by omega) (by omega)) (show (0 : Int32) = i3 0 from rfl))
        subst e9
        obtain ⟨m2, rfl⟩ : ∃ m2, m = m2 + 1 := ⟨m - 1, by omega⟩
        exact wz_k1 ⟨m2, by omega, Z7, (x3 + 1), (zconso rfl (zconso rfl (zconso rfl (zconso (zvo (i3A (rfl : i3 x3 = i3 x3) (show (1 : Int32) = i3 1 from rfl))) (zconso rfl (zconso rfl rfl)))))), rfl, hZ7I, hZ7K, hZ7U, by omega, by omega,  hP⟩
      · replace hP := zE_n hP h6
        refine wz_i0 (i3O (n := 24) (rfl : i3 x3 = i3 x3) (by omega) (by omega) (by omega)) ?_
        obtain ⟨Z8, hZ8⟩ := zx (zu Z 69 0 0 x3 (-1))
        replace hP := zl_e hP hZ8
        have hZ8I := zH_u hZ hZ8 (lo := -2147483648) (hi := 2147483647) (by decide) rfl (by omega) ⟨by decide, by decide⟩ (Or.inl (by decide)) rfl
        have hZ8U : zU [] Zs Z8 := zU_u hU hZ8 (Or.inl rfl)
        have hZ8K : zC [69] Zs Z8 := zC_u hK hZ8 rfl
        intro μ9 e9
        replace e9 := e9.trans (zm_wI (Z := Z) (ν := ν) hZ8 (show ((0 : Nat) : Int) = 0 from rfl) (show ((0 : Nat) : Int) = 0 from rfl) (i3I (y := x3) (rfl : i3 x3 = i3 x3) (by omega) (by omega) (by omega)) (show (-1 : Int32) = i3 (-1) from rfl))
        subst e9
        obtain ⟨m2, rfl⟩ : ∃ m2, m = m2 + 1 := ⟨m - 1, by omega⟩
        exact wz_k1 ⟨m2, by omega, Z8, (x3 + 1), (zconso rfl (zconso rfl (zconso rfl (zconso (zvo (i3A (rfl : i3 x3 = i3 x3) (show (1 : Int32) = i3 1 from rfl))) (zconso rfl (zconso rfl rfl)))))), rfl, hZ8I, hZ8K, hZ8U, by omega, by omega,  hP⟩
/- yX1_fill -/
def zl_21_2 (x0b : Int) (x2 : Int) : Nat → qz_Z → Int → Int → qz_Z × Int × Int
  | 0, Z, x3, x4 => (Z, x3, x4)
  | m + 1, Z, x3, x4 => (if 24 ≤ x4 then (Z, x3, x4) else (zlet (zf_29 Z x0b) (fun v3 => (if v3 = (-1) then zl_21_2 x0b x2 m Z x3 (x4 + 1) else (zlet2 (zf_24 Z x2 x0b v3) (fun Z5 v6 => (zlet (zu Z5 69 0 0 v3 v6) (fun Z7 => zl_21_2 x0b x2 m Z7 (w3 (x3 + (w3 ((Z7 69 0 0 v3) * (Z7 46 x0b v3 4))))) (x4 + 1)))))))))
theorem sl_21_2 {s : zSM} {Zs Z : qz_Z} {ν : qz_N} (hZ : zH s Z) (hM : s.2 + 0 ≤ 1000000000) (hs : s.1 = none) {n9 : Nat} (hn : ν.2.2.2.1 = n9) (x0b : Nat) (x2 : Nat) (hSx2 : zSh ν x2 50 20) {x3 : Int} (gx3 : -2147483648 ≤ x3 ∧ x3 ≤ 2147483647) {x4 : Int} (gx4 : 0 ≤ x4 ∧ x4 ≤ 24) (hK : zL [69] [x2] n9 Zs Z) (hU : zU [] Zs Z) {k : wz_K} {R : wz_R} {L : qz_L} (hL : qz_fg [true, true, true, true, true, false] L = [some (.inr (.inr (some (10, x0b, 0)))), some (.inr (.inr (some (69, 0, 0)))), some (.inr (.inr (some (200, x2, 0)))), some (.inl (i3 x3)), some (.inl (i3 x4)), none]) {T : qz_Z × Int × Int} (hP : zE T (zl_21_2 x0b x2 ((24 - x4).toNat + 1) Z x3 x4)) (hk : ∀ (L9 : qz_L) (Z9 : qz_Z) (yx3 yx4 : Int), qz_fg [false, false, false, true, false, false] L9 = [none, none, none, some (.inl (i3 yx3)), none, none] → zH s Z9 → zL [69] [x2] n9 Zs Z9 → zU [] Zs Z9 → (-2147483648 ≤ yx3 ∧ yx3 ≤ 2147483647) → (0 ≤ yx4 ∧ yx4 ≤ 24) → zE T ((Z9, yx3, yx4)) → k 0 (L9, [], zm Z9 ν)) : wz_loop qb_21_2 65536 k R (L, [], zm Z ν) := by
  refine wz_lp sb_21_2 (fun m x => ∃ Z : qz_Z, ∃ x3 : Int, ∃ x4 : Int, qz_fg [true, true, true, true, true, false] x.1 = [some (.inr (.inr (some (10, x0b, 0)))), some (.inr (.inr (some (69, 0, 0)))), some (.inr (.inr (some (200, x2, 0)))), some (.inl (i3 x3)), some (.inl (i3 x4)), none] ∧ x.2 = ([], zm Z ν) ∧ zH s Z ∧ zL [69] [x2] n9 Zs Z ∧ zU [] Zs Z ∧ m = (24 - x4).toNat ∧ (-2147483648 ≤ x3 ∧ x3 ≤ 2147483647) ∧ (0 ≤ x4 ∧ x4 ≤ 24) ∧ zE T (zl_21_2 x0b x2 (m + 1) Z x3 x4)) ?_ 65536 ((24 - x4).toNat) _ (by omega) ⟨Z, x3, x4, hL, rfl, hZ, hK, hU, rfl, gx3, gx4, hP⟩
  clear hP gx3 gx4 hZ hK hU hL
  clear x3 x4
  clear Z
  rintro m ⟨L, st, μ⟩ ⟨Z, x3, x4, hL, hx, hZ, hK, hU, hm, gx3, gx4, hP⟩
  cases hx
  refine fb_21_2 x0b x2 (i3 x3) (i3 x4) _ _ _ _ hL ?_
  have r1 := hSx2.1
  refine wz_br (i3Le (show (24 : Int32) = i3 24 from rfl) (rfl : i3 x4 = i3 x4) (by omega) (by omega) (by omega) (by omega)) (fun h2 => ?_) (fun h2 => ?_)
  · replace hP := zE_p hP h2
    exact hk _ _ _ _ (zconso rfl (zconso rfl (zconso rfl (zconso (zvo (rfl : i3 x3 = i3 x3)) (zconso rfl (zconso rfl rfl)))))) hZ hK hU (by omega) (by omega)  hP
  · replace hP := zE_n hP h2
    obtain ⟨v3, hv3, c9, lv3, uv3⟩ := sp_29 (ν := ν) hZ x0b (zbh (c := 0) (k := 0) hM (Nat.le_of_ble_eq_true rfl))
    replace hP := zl_e hP hv3
    refine wz_cI_of (zas (zcons rfl (zcons rfl rfl)) c9) ?_
    clear c9
    refine wz_br (i3E (rfl : i3 v3 = i3 v3) (show (-1 : Int32) = i3 (-1) from rfl) (by omega) (by omega) (by omega) (by omega)) (fun h4 => ?_) (fun h4 => ?_)
    · replace hP := zE_p hP h4
      obtain ⟨m2, rfl⟩ : ∃ m2, m = m2 + 1 := ⟨m - 1, by omega⟩
      exact wz_k1 ⟨m2, by omega, Z, x3, (x4 + 1), (zconso rfl (zconso rfl (zconso rfl (zconso (zvo (rfl : i3 x3 = i3 x3)) (zconso (zvo (i3A (rfl : i3 x4 = i3 x4) (show (1 : Int32) = i3 1 from rfl))) (zconso rfl rfl)))))), rfl, hZ, hK, hU, by omega, by omega, by omega,  hP⟩
    · replace hP := zE_n hP h4
      refine wz_i0 (i3O (n := 24) (rfl : i3 v3 = i3 v3) (by omega) (by omega) (by omega)) ?_
      obtain ⟨Z5, v6, hv6, c9, hZ5I, kZ5, jZ5, lv6, uv6⟩ := sp_24 (ν := ν) hZ hs hn x2 hSx2 x0b _ (i3I (y := v3) (rfl : i3 v3 = i3 v3) (by omega) (by omega) (by omega)) (by omega) (zbh (c := 0) (k := 0) hM (Nat.le_of_ble_eq_true rfl))
      have hZ5U : zU [] Zs Z5 := zU_t hU jZ5 zU_b0
      have hZ5K : zL [69] [x2] n9 Zs Z5 := zL_t hK kZ5 (by decide) (zL_b1 (Or.inl (by simp)) zL_b0) (by omega)
      replace hP := zl_e2 hP hv6
      refine wz_cI_of (zas (zcons rfl (zcons rfl rfl)) c9) ?_
      clear c9 hv6
      refine wz_i0 (i3O (n := 24) (rfl : i3 v3 = i3 v3) (by omega) (by omega) (by omega)) ?_
      obtain ⟨Z7, hZ7⟩ := zx (zu Z5 69 0 0 v3 v6)
      replace hP := zl_e hP hZ7
      have hZ7I := zH_u hZ5I hZ7 (lo := -2147483648) (hi := 2147483647) (by decide) rfl (by omega) ⟨by decide, by decide⟩ (Or.inl (by decide)) rfl
      have hZ7U : zU [] Zs Z7 := zU_u hZ5U hZ7 (Or.inl rfl)
      have hZ7K : zL [69] [x2] n9 Zs Z7 := zL_u hZ5K hZ7 rfl
      intro μ9 e9
      replace e9 := e9.trans (zm_wI (Z := Z5) (ν := ν) hZ7 (show ((0 : Nat) : Int) = 0 from rfl) (show ((0 : Nat) : Int) = 0 from rfl) (i3I (y := v3) (rfl : i3 v3 = i3 v3) (by omega) (by omega) (by omega)) (rfl : i3 v6 = i3 v6))
      subst e9
      refine wz_i0 (i3O (n := 24) (rfl : i3 v3 = i3 v3) (by omega) (by omega) (by omega)) ?_
      refine wz_i0 (i3O (n := 24) (rfl : i3 v3 = i3 v3) (by omega) (by omega) (by omega)) ?_
      have r8 := zH_f hZ7I 69 0 0 v3
      have q9 := zu_at hZ7
      have r10 := zH_k hZ7I 46 x0b v3 4 (lo := 0) (hi := 9999) (by decide) rfl
      have r11 := w3_r ((Z7 69 0 0 v3) * (Z7 46 x0b v3 4))
      have r12 := w3_r (x3 + (w3 ((Z7 69 0 0 v3) * (Z7 46 x0b v3 4))))
      obtain ⟨m2, rfl⟩ : ∃ m2, m = m2 + 1 := ⟨m - 1, by omega⟩
      exact wz_k1 ⟨m2, by omega, Z7, (w3 (x3 + (w3 ((Z7 69 0 0 v3) * (Z7 46 x0b v3 4))))), (x4 + 1), (zconso rfl (zconso rfl (zconso rfl (zconso (zvo (i3W (i3A (rfl : i3 x3 = i3 x3) (i3W (i3M (zm_rd (Z := Z7) (ν := ν) (k := 69) (show ((0 : Nat) : Int) = 0 from rfl) (show ((0 : Nat) : Int) = 0 from rfl) (i3I (y := v3) (rfl : i3 v3 = i3 v3) (by omega) (by omega) (by omega))) (zm_rd (Z := Z7) (ν := ν) (k := 46) (rfl : ((x0b : Nat) : Int) = x0b) (i3I (y := v3) (rfl : i3 v3 = i3 v3) (by omega) (by omega) (by omega)) (show ((4 : Nat) : Int) = 4 from rfl))))))) (zconso (zvo (i3A (rfl : i3 x4 = i3 x4) (show (1 : Int32) = i3 1 from rfl))) (zconso rfl rfl)))))), rfl, hZ7I, hZ7K, hZ7U, by omega, by omega, by omega,  hP⟩
