/-! the face at a new object, 0 (printed by api.py) -/
/- yX11_sort -/
def zg_243 (a1 : Int) (a2 : Int) (a3 : Int) (a4 : Int) (a5 : Int) : Int × Int := (if 1 ≤ a1 ∧ a1 ≤ 9 then (if 0 ≤ a2 ∧ a2 ≤ 12 then (if 0 ≤ a3 ∧ a3 ≤ 12 then (if 100 ≤ a4 ∧ a4 ≤ 600 then (if 10 ≤ a5 ∧ a5 ≤ 99 then (0, 0) else (0, 13)) else (0, 13)) else (0, 13)) else (0, 13)) else (0, 13))
theorem sg_243 {Z : qz_Z} {ν : qz_N} (hZ : zI none Z) (hF : zF Z) {a1 : Int} (ga1 : -2147483648 ≤ a1 ∧ a1 ≤ 2147483647) {a2 : Int} (ga2 : -2147483648 ≤ a2 ∧ a2 ≤ 2147483647) {a3 : Int} (ga3 : -2147483648 ≤ a3 ∧ a3 ≤ 2147483647) {a4 : Int} (ga4 : -2147483648 ≤ a4 ∧ a4 ≤ 2147483647) {a5 : Int} (ga5 : -2147483648 ≤ a5 ∧ a5 ≤ 2147483647) : ∃ (Z1 : qz_Z) (ν1 : qz_N) (v E : Int), (v, E) = zg_243 a1 a2 a3 a4 a5 ∧ qf_243 [.inr (.inr (some (0, 0, 0))), .inl (i3 a1), .inl (i3 a2), .inl (i3 a3), .inl (i3 a4), .inl (i3 a5)] (zm Z ν) = some (zm Z1 ν1, zoX v E) ∧ (fun Z1 ν1 => zI none Z1 ∧ zK [3, 11, 12, 13, 14, 40, 41, 42, 43, 44, 45, 46, 47, 48, 49, 50, 51, 52, 53, 54, 61, 68] Z Z1 ∧ zN ν ν1) Z1 ν1 := by
  obtain ⟨P, hP⟩ := zx (zg_243 a1 a2 a3 a4 a5)
  refine zc_X (Q := fun Z1 ν1 => zI none Z1 ∧ zK [3, 11, 12, 13, 14, 40, 41, 42, 43, 44, 45, 46, 47, 48, 49, 50, 51, 52, 53, 54, 61, 68] Z Z1 ∧ zN ν ν1) hP (fw_243 (i3 a1) (i3 a2) (i3 a3) (i3 a4) (i3 a5) _ _ ?_)
  replace hP : zE P (zg_243 a1 a2 a3 a4 a5) := hP
  unfold zg_243 at hP
  refine wz_inR (rfl : i3 a1 = i3 a1) (show (1 : Int32) = i3 1 from rfl) (show (9 : Int32) = i3 9 from rfl) (by omega) (by omega) (by omega) (by omega) (by omega) (by omega) (fun h1 => ?_) (fun h1 => ?_)
  · replace hP := zE_p hP h1
    refine wz_inR (rfl : i3 a2 = i3 a2) (show (0 : Int32) = i3 0 from rfl) (show (12 : Int32) = i3 12 from rfl) (by omega) (by omega) (by omega) (by omega) (by omega) (by omega) (fun h2 => ?_) (fun h2 => ?_)
    · replace hP := zE_p hP h2
      refine wz_inR (rfl : i3 a3 = i3 a3) (show (0 : Int32) = i3 0 from rfl) (show (12 : Int32) = i3 12 from rfl) (by omega) (by omega) (by omega) (by omega) (by omega) (by omega) (fun h3 => ?_) (fun h3 => ?_)
      · replace hP := zE_p hP h3
        refine wz_inR (rfl : i3 a4 = i3 a4) (show (100 : Int32) = i3 100 from rfl) (show (600 : Int32) = i3 600 from rfl) (by omega) (by omega) (by omega) (by omega) (by omega) (by omega) (fun h4 => ?_) (fun h4 => ?_)
        · replace hP := zE_p hP h4
          refine wz_inR (rfl : i3 a5 = i3 a5) (show (10 : Int32) = i3 10 from rfl) (show (99 : Int32) = i3 99 from rfl) (by omega) (by omega) (by omega) (by omega) (by omega) (by omega) (fun h5 => ?_) (fun h5 => ?_)
          · replace hP := zE_p hP h5
            refine wz_i0 (Eq.trans (i3Le (show (5 : Int32) = i3 5 from rfl) (Eq.trans (zm_rd (Z := Z) (ν := ν) (k := 11) (show ((0 : Nat) : Int) = 0 from rfl) (show ((0 : Nat) : Int) = 0 from rfl) (show ((0 : Nat) : Int) = 0 from rfl)) (congrArg i3 ((hF 11 0 0 (by decide)).trans ((show frz 11 0 0 = 0 from by decide))))) (by omega) (by omega) (by omega) (by omega)) (decide_eq_false (by omega))) ?_
            refine wz_inT_y (show (1 : Int32) = i3 1 from rfl) (by omega) (by omega) (by omega) ?_
            refine dc_J (zcons rfl (zcons (zvi (show (0 : Int32) = i3 0 from rfl)) (zcons (zvi (rfl : i3 a1 = i3 a1)) (zcons (zvi (rfl : i3 a2 = i3 a2)) (zcons (zvi (rfl : i3 a3 = i3 a3)) (zcons (zvi (rfl : i3 a4 = i3 a4)) (zcons (zvi (rfl : i3 a5 = i3 a5)) (zcons (zvi (show (0 : Int32) = i3 0 from rfl)) rfl)))))))) (dc_I (ws := [3, 11, 12, 13, 14, 40, 41, 42, 43, 44, 45, 46, 47, 48, 49, 50, 51, 52, 53, 54, 61, 68]) (Z0 := Z) hF hZ zK_r (by decide) (by omega) (by omega) (by omega) (by omega) (by omega) (by omega) (by omega) (fun Z7 hZ7I hZ7F hZ7A hZ7K => ?_))
            refine fw_121 _ _ _ _ ?_
            refine wz_i1 rfl ?_
            refine wz_i0 (i3O (n := 7) (show (0 : Int32) = i3 0 from rfl) (by omega) (by omega) (by omega)) ?_
            refine wz_i0 (Eq.trans (i3To (Eq.trans (zm_rd (Z := Z7) (ν := ν) (k := 68) (show ((0 : Nat) : Int) = 0 from rfl) (show ((0 : Nat) : Int) = 0 from rfl) (show ((0 : Nat) : Int) = 0 from rfl)) (congrArg i3 ((hZ7A.1)))) (by omega) (by omega)) (decide_eq_false (by omega))) ?_
            refine wz_i1 (Eq.trans (i3T (Eq.trans (zm_rd (Z := Z7) (ν := ν) (k := 68) (show ((0 : Nat) : Int) = 0 from rfl) (show ((0 : Nat) : Int) = 0 from rfl) (show ((0 : Nat) : Int) = 0 from rfl)) (congrArg i3 ((hZ7A.1)))) (by omega) (by omega)) (decide_eq_true (by omega))) ?_
            refine wz_i1 rfl ?_
            refine wz_i0 (i3O (n := 7) (show (1 : Int32) = i3 1 from rfl) (by omega) (by omega) (by omega)) ?_
            refine wz_i1 rfl ?_
            refine wz_i0 (i3O (n := 7) (show (2 : Int32) = i3 2 from rfl) (by omega) (by omega) (by omega)) ?_
            refine wz_i1 rfl ?_
            refine wz_i0 (i3O (n := 7) (show (3 : Int32) = i3 3 from rfl) (by omega) (by omega) (by omega)) ?_
            refine wz_i1 rfl ?_
            refine wz_i0 (i3O (n := 7) (show (4 : Int32) = i3 4 from rfl) (by omega) (by omega) (by omega)) ?_
            refine wz_i1 rfl ?_
            refine wz_i0 (i3O (n := 7) (show (5 : Int32) = i3 5 from rfl) (by omega) (by omega) (by omega)) ?_
            refine wz_i0 (i3O (n := 5) (Eq.trans (zm_rd (Z := Z7) (ν := ν) (k := 11) (show ((0 : Nat) : Int) = 0 from rfl) (show ((0 : Nat) : Int) = 0 from rfl) (show ((0 : Nat) : Int) = 0 from rfl)) (congrArg i3 ((hZ7F 11 0 0 (by decide)).trans ((show frz 11 0 0 = 0 from by decide))))) (by omega) (by omega) (by omega)) ?_
            obtain ⟨Z8, hZ8⟩ := zx (zu Z7 41 0 0 0 a1)
            have hZ8I := zI_u hZ7I hZ8 (lo := 0) (hi := 9) (by decide) rfl (by omega) ⟨by decide, by decide⟩ (Or.inl (by decide))
            have hZ8K := zK_u hZ7K hZ8 (by decide)
            intro μ9 e9
            replace e9 := e9.trans (zm_wI (Z := Z7) (ν := ν) hZ8 (show ((0 : Nat) : Int) = 0 from rfl) (i3I (y := 0) (Eq.trans (zm_rd (Z := Z7) (ν := ν) (k := 11) (show ((0 : Nat) : Int) = 0 from rfl) (show ((0 : Nat) : Int) = 0 from rfl) (show ((0 : Nat) : Int) = 0 from rfl)) (congrArg i3 ((hZ7F 11 0 0 (by decide)).trans ((show frz 11 0 0 = 0 from by decide))))) (by omega) (by omega) (by omega)) (show ((0 : Nat) : Int) = 0 from rfl) (Eq.trans (zm_rd (Z := Z7) (ν := ν) (k := 68) (show ((0 : Nat) : Int) = 0 from rfl) (show ((0 : Nat) : Int) = 0 from rfl) (show ((1 : Nat) : Int) = 1 from rfl)) (congrArg i3 ((hZ7A.2.1)))))
            subst e9
            obtain ⟨Z9, hZ9⟩ := zx (zu Z8 41 0 0 1 a2)
            have hZ9I := zI_u hZ8I hZ9 (lo := 0) (hi := 12) (by decide) rfl (by omega) ⟨by decide, by decide⟩ (Or.inl (by decide))
            have hZ9K := zK_u hZ8K hZ9 (by decide)
            intro μ9 e9
            replace e9 := e9.trans (zm_wI (Z := Z8) (ν := ν) hZ9 (show ((0 : Nat) : Int) = 0 from rfl) (i3I (y := 0) (Eq.trans (zm_rd (Z := Z7) (ν := ν) (k := 11) (show ((0 : Nat) : Int) = 0 from rfl) (show ((0 : Nat) : Int) = 0 from rfl) (show ((0 : Nat) : Int) = 0 from rfl)) (congrArg i3 ((hZ7F 11 0 0 (by decide)).trans ((show frz 11 0 0 = 0 from by decide))))) (by omega) (by omega) (by omega)) (show ((1 : Nat) : Int) = 1 from rfl) (Eq.trans (zm_rd (Z := Z7) (ν := ν) (k := 68) (show ((0 : Nat) : Int) = 0 from rfl) (show ((0 : Nat) : Int) = 0 from rfl) (show ((2 : Nat) : Int) = 2 from rfl)) (congrArg i3 ((hZ7A.2.2.1)))))
            subst e9
            obtain ⟨Z10, hZ10⟩ := zx (zu Z9 41 0 0 2 a3)
            have hZ10I := zI_u hZ9I hZ10 (lo := 0) (hi := 12) (by decide) rfl (by omega) ⟨by decide, by decide⟩ (Or.inl (by decide))
            have hZ10K := zK_u hZ9K hZ10 (by decide)
            intro μ9 e9
            replace e9 := e9.trans (zm_wI (Z := Z9) (ν := ν) hZ10 (show ((0 : Nat) : Int) = 0 from rfl) (i3I (y := 0) (Eq.trans (zm_rd (Z := Z7) (ν := ν) (k := 11) (show ((0 : Nat) : Int) = 0 from rfl) (show ((0 : Nat) : Int) = 0 from rfl) (show ((0 : Nat) : Int) = 0 from rfl)) (congrArg i3 ((hZ7F 11 0 0 (by decide)).trans ((show frz 11 0 0 = 0 from by decide))))) (by omega) (by omega) (by omega)) (show ((2 : Nat) : Int) = 2 from rfl) (Eq.trans (zm_rd (Z := Z7) (ν := ν) (k := 68) (show ((0 : Nat) : Int) = 0 from rfl) (show ((0 : Nat) : Int) = 0 from rfl) (show ((3 : Nat) : Int) = 3 from rfl)) (congrArg i3 ((hZ7A.2.2.2.1)))))
            subst e9
            obtain ⟨Z11, hZ11⟩ := zx (zu Z10 41 0 0 3 a4)
            have hZ11I := zI_u hZ10I hZ11 (lo := 0) (hi := 600) (by decide) rfl (by omega) ⟨by decide, by decide⟩ (Or.inl (by decide))
            have hZ11K := zK_u hZ10K hZ11 (by decide)
            intro μ9 e9
            replace e9 := e9.trans (zm_wI (Z := Z10) (ν := ν) hZ11 (show ((0 : Nat) : Int) = 0 from rfl) (i3I (y := 0) (Eq.trans (zm_rd (Z := Z7) (ν := ν) (k := 11) (show ((0 : Nat) : Int) = 0 from rfl) (show ((0 : Nat) : Int) = 0 from rfl) (show ((0 : Nat) : Int) = 0 from rfl)) (congrArg i3 ((hZ7F 11 0 0 (by decide)).trans ((show frz 11 0 0 = 0 from by decide))))) (by omega) (by omega) (by omega)) (show ((3 : Nat) : Int) = 3 from rfl) (Eq.trans (zm_rd (Z := Z7) (ν := ν) (k := 68) (show ((0 : Nat) : Int) = 0 from rfl) (show ((0 : Nat) : Int) = 0 from rfl) (show ((4 : Nat) : Int) = 4 from rfl)) (congrArg i3 ((hZ7A.2.2.2.2.1)))))
            subst e9
            obtain ⟨Z12, hZ12⟩ := zx (zu Z11 41 0 0 4 a5)
            have hZ12I := zI_u hZ11I hZ12 (lo := 0) (hi := 99) (by decide) rfl (by omega) ⟨by decide, by decide⟩ (Or.inl (by decide))
            have hZ12K := zK_u hZ11K hZ12 (by decide)
            intro μ9 e9
            replace e9 := e9.trans (zm_wI (Z := Z11) (ν := ν) hZ12 (show ((0 : Nat) : Int) = 0 from rfl) (i3I (y := 0) (Eq.trans (zm_rd (Z := Z7) (ν := ν) (k := 11) (show ((0 : Nat) : Int) = 0 from rfl) (show ((0 : Nat) : Int) = 0 from rfl) (show ((0 : Nat) : Int) = 0 from rfl)) (congrArg i3 ((hZ7F 11 0 0 (by decide)).trans ((show frz 11 0 0 = 0 from by decide))))) (by omega) (by omega) (by omega)) (show ((4 : Nat) : Int) = 4 from rfl) (Eq.trans (zm_rd (Z := Z7) (ν := ν) (k := 68) (show ((0 : Nat) : Int) = 0 from rfl) (show ((0 : Nat) : Int) = 0 from rfl) (show ((5 : Nat) : Int) = 5 from rfl)) (congrArg i3 ((hZ7A.2.2.2.2.2.1)))))
            subst e9
            obtain ⟨Z13, hZ13⟩ := zx (zu Z12 11 0 0 0 (0 + 1))
            have hZ13I := zI_u hZ12I hZ13 (lo := 0) (hi := 5) (by decide) rfl (by omega) ⟨by decide, by decide⟩ (Or.inl (by decide))
            have hZ13K := zK_u hZ12K hZ13 (by decide)
            intro μ9 e9
            replace e9 := e9.trans (zm_wI (Z := Z12) (ν := ν) hZ13 (show ((0 : Nat) : Int) = 0 from rfl) (show ((0 : Nat) : Int) = 0 from rfl) (show ((0 : Nat) : Int) = 0 from rfl) (i3A (Eq.trans (zm_rd (Z := Z12) (ν := ν) (k := 11) (show ((0 : Nat) : Int) = 0 from rfl) (show ((0 : Nat) : Int) = 0 from rfl) (show ((0 : Nat) : Int) = 0 from rfl)) (congrArg i3 ((zu_ne (k' := 11) (b' := 0) (i' := 0) (j' := 0) hZ12 (fun q => absurd q.1 (by decide))).trans ((zu_ne (k' := 11) (b' := 0) (i' := 0) (j' := 0) hZ11 (fun q => absurd q.1 (by decide))).trans ((zu_ne (k' := 11) (b' := 0) (i' := 0) (j' := 0) hZ10 (fun q => absurd q.1 (by decide))).trans ((zu_ne (k' := 11) (b' := 0) (i' := 0) (j' := 0) hZ9 (fun q => absurd q.1 (by decide))).trans ((zu_ne (k' := 11) (b' := 0) (i' := 0) (j' := 0) hZ8 (fun q => absurd q.1 (by decide))).trans ((hZ7F 11 0 0 (by decide)).trans ((show frz 11 0 0 = 0 from by decide)))))))))) (show (1 : Int32) = i3 1 from rfl)))
            subst e9
            exact zlX hP (Eq.trans (zm_rd (Z := Z12) (ν := ν) (k := 11) (show ((0 : Nat) : Int) = 0 from rfl) (show ((0 : Nat) : Int) = 0 from rfl) (show ((0 : Nat) : Int) = 0 from rfl)) (congrArg i3 ((zu_ne (k' := 11) (b' := 0) (i' := 0) (j' := 0) hZ12 (fun q => absurd q.1 (by decide))).trans ((zu_ne (k' := 11) (b' := 0) (i' := 0) (j' := 0) hZ11 (fun q => absurd q.1 (by decide))).trans ((zu_ne (k' := 11) (b' := 0) (i' := 0) (j' := 0) hZ10 (fun q => absurd q.1 (by decide))).trans ((zu_ne (k' := 11) (b' := 0) (i' := 0) (j' := 0) hZ9 (fun q => absurd q.1 (by decide))).trans ((zu_ne (k' := 11) (b' := 0) (i' := 0) (j' := 0) hZ8 (fun q => absurd q.1 (by decide))).trans ((hZ7F 11 0 0 (by decide)).trans ((show frz 11 0 0 = 0 from by decide)))))))))) ⟨hZ13I, hZ13K, zN_r⟩
          · replace hP := zE_n hP h5
            exact zlXe (E := 12) hP ⟨hZ, zK_r, zN_k rfl⟩
        · replace hP := zE_n hP h4
          exact zlXe (E := 12) hP ⟨hZ, zK_r, zN_k rfl⟩
      · replace hP := zE_n hP h3
        exact zlXe (E := 12) hP ⟨hZ, zK_r, zN_k rfl⟩
    · replace hP := zE_n hP h2
      exact zlXe (E := 12) hP ⟨hZ, zK_r, zN_k rfl⟩
  · replace hP := zE_n hP h1
    exact zlXe (E := 12) hP ⟨hZ, zK_r, zN_k rfl⟩

/- yX11_grade -/
def zg_203 (a1 : Int) (a2 : Int) (a3 : Int) (a4 : Int) : Int × Int := (0, 24)
theorem sg_203 {Z : qz_Z} {ν : qz_N} (hZ : zI none Z) (hF : zF Z) {a1 : Int} (ga1 : -2147483648 ≤ a1 ∧ a1 ≤ 2147483647) {a2 : Int} (ga2 : -2147483648 ≤ a2 ∧ a2 ≤ 2147483647) {a3 : Int} (ga3 : -2147483648 ≤ a3 ∧ a3 ≤ 2147483647) {a4 : Int} (ga4 : -2147483648 ≤ a4 ∧ a4 ≤ 2147483647) : ∃ (Z1 : qz_Z) (ν1 : qz_N) (v E : Int), (v, E) = zg_203 a1 a2 a3 a4 ∧ qf_203 [.inr (.inr (some (0, 0, 0))), .inl (i3 a1), .inl (i3 a2), .inl (i3 a3), .inl (i3 a4)] (zm Z ν) = some (zm Z1 ν1, zoX v E) ∧ (fun Z1 ν1 => zI none Z1 ∧ zK [] Z Z1 ∧ zN ν ν1) Z1 ν1 := by
  obtain ⟨P, hP⟩ := zx (zg_203 a1 a2 a3 a4)
  refine zc_X (Q := fun Z1 ν1 => zI none Z1 ∧ zK [] Z Z1 ∧ zN ν ν1) hP (fw_203 (i3 a1) (i3 a2) (i3 a3) (i3 a4) _ _ ?_)
  replace hP : zE P (zg_203 a1 a2 a3 a4) := hP
  unfold zg_203 at hP
  refine wz_thing_n (rfl : i3 a1 = i3 a1) (Eq.trans (zm_rd (Z := Z) (ν := ν) (k := 11) (show ((0 : Nat) : Int) = 0 from rfl) (show ((0 : Nat) : Int) = 0 from rfl) (show ((3 : Nat) : Int) = 3 from rfl)) (congrArg i3 ((hF 11 0 3 (by decide)).trans ((show frz 11 0 3 = 0 from by decide))))) (by omega) (by omega) (by omega) (by omega) (by omega) ?_
  exact zlXe (E := 23) hP ⟨hZ, zK_r, zN_k rfl⟩

/- yX11_set -/
def zg_240 (a1 : Int) (a2 : Int) : Int × Int := (0, 24)
theorem sg_240 {Z : qz_Z} {ν : qz_N} (hZ : zI none Z) (hF : zF Z) {a1 : Int} (ga1 : -2147483648 ≤ a1 ∧ a1 ≤ 2147483647) {a2 : Int} (ga2 : -2147483648 ≤ a2 ∧ a2 ≤ 2147483647) : ∃ (Z1 : qz_Z) (ν1 : qz_N) (v E : Int), (v, E) = zg_240 a1 a2 ∧ qf_240 [.inr (.inr (some (0, 0, 0))), .inl (i3 a1), .inl (i3 a2)] (zm Z ν) = some (zm Z1 ν1, zoX v E) ∧ (fun Z1 ν1 => zI none Z1 ∧ zK [] Z Z1 ∧ zN ν ν1) Z1 ν1 := by
  obtain ⟨P, hP⟩ := zx (zg_240 a1 a2)
  refine zc_X (Q := fun Z1 ν1 => zI none Z1 ∧ zK [] Z Z1 ∧ zN ν ν1) hP (fw_240 (i3 a1) (i3 a2) _ _ ?_)
  replace hP : zE P (zg_240 a1 a2) := hP
  unfold zg_240 at hP
  refine wz_thing_n (rfl : i3 a1 = i3 a1) (Eq.trans (zm_rd (Z := Z) (ν := ν) (k := 11) (show ((0 : Nat) : Int) = 0 from rfl) (show ((0 : Nat) : Int) = 0 from rfl) (show ((2 : Nat) : Int) = 2 from rfl)) (congrArg i3 ((hF 11 0 2 (by decide)).trans ((show frz 11 0 2 = 0 from by decide))))) (by omega) (by omega) (by omega) (by omega) (by omega) ?_
  exact zlXe (E := 23) hP ⟨hZ, zK_r, zN_k rfl⟩

/- yX11_put -/
def zg_230 (a1 : Int) (a2 : Int) : Int × Int := (if a1 < 0 then (0, 24) else (0, 24))
theorem sg_230 {Z : qz_Z} {ν : qz_N} (hZ : zI none Z) (hF : zF Z) {a1 : Int} (ga1 : -2147483648 ≤ a1 ∧ a1 ≤ 2147483647) {a2 : Int} (ga2 : -2147483648 ≤ a2 ∧ a2 ≤ 2147483647) : ∃ (Z1 : qz_Z) (ν1 : qz_N) (v E : Int), (v, E) = zg_230 a1 a2 ∧ qf_230 [.inr (.inr (some (0, 0, 0))), .inl (i3 a1), .inl (i3 a2)] (zm Z ν) = some (zm Z1 ν1, zoX v E) ∧ (fun Z1 ν1 => zI none Z1 ∧ zK [] Z Z1 ∧ zN ν ν1) Z1 ν1 := by
  obtain ⟨P, hP⟩ := zx (zg_230 a1 a2)
  refine zc_X (Q := fun Z1 ν1 => zI none Z1 ∧ zK [] Z Z1 ∧ zN ν ν1) hP (fw_230 (i3 a1) (i3 a2) _ _ ?_)
  replace hP : zE P (zg_230 a1 a2) := hP
  unfold zg_230 at hP
  refine fw_178 _ _ _ _ _ ?_
  refine wz_br (i3L (rfl : i3 a1 = i3 a1) (show (0 : Int32) = i3 0 from rfl) (by omega) (by omega) (by omega) (by omega)) (fun h1 => ?_) (fun h1 => ?_)
  · replace hP := zE_p hP h1
    refine wz_i0 (Eq.trans (i3NE (show (1 : Int32) = i3 1 from rfl) (show (1 : Int32) = i3 1 from rfl) (by omega) (by omega) (by omega) (by omega)) (decide_eq_false (by omega))) ?_
    exact zlXe (E := 23) hP ⟨hZ, zK_r, zN_k rfl⟩
  · replace hP := zE_n hP h1
    refine wz_i1 (Eq.trans (i3Le (Eq.trans (zm_rd (Z := Z) (ν := ν) (k := 11) (show ((0 : Nat) : Int) = 0 from rfl) (show ((0 : Nat) : Int) = 0 from rfl) (show ((3 : Nat) : Int) = 3 from rfl)) (congrArg i3 ((hF 11 0 3 (by decide)).trans ((show frz 11 0 3 = 0 from by decide))))) (rfl : i3 a1 = i3 a1) (by omega) (by omega) (by omega) (by omega)) (decide_eq_true (by omega))) ?_
    refine wz_i0 (Eq.trans (i3NE (show (1 : Int32) = i3 1 from rfl) (show (1 : Int32) = i3 1 from rfl) (by omega) (by omega) (by omega) (by omega)) (decide_eq_false (by omega))) ?_
    exact zlXe (E := 23) hP ⟨hZ, zK_r, zN_k rfl⟩

/- yX11_pallet -/
def zg_225 (a1 : Int) (a2 : Int) : Int × Int := (0, 24)
theorem sg_225 {Z : qz_Z} {ν : qz_N} (hZ : zI none Z) (hF : zF Z) {a1 : Int} (ga1 : -2147483648 ≤ a1 ∧ a1 ≤ 2147483647) {a2 : Int} (ga2 : -2147483648 ≤ a2 ∧ a2 ≤ 2147483647) : ∃ (Z1 : qz_Z) (ν1 : qz_N) (v E : Int), (v, E) = zg_225 a1 a2 ∧ qf_225 [.inr (.inr (some (0, 0, 0))), .inl (i3 a1), .inl (i3 a2)] (zm Z ν) = some (zm Z1 ν1, zoX v E) ∧ (fun Z1 ν1 => zI none Z1 ∧ zK [] Z Z1 ∧ zN ν ν1) Z1 ν1 := by
  obtain ⟨P, hP⟩ := zx (zg_225 a1 a2)
  refine zc_X (Q := fun Z1 ν1 => zI none Z1 ∧ zK [] Z Z1 ∧ zN ν ν1) hP (fw_225 (i3 a1) (i3 a2) _ _ ?_)
  replace hP : zE P (zg_225 a1 a2) := hP
  unfold zg_225 at hP
  refine wz_thing_n (rfl : i3 a1 = i3 a1) (Eq.trans (zm_rd (Z := Z) (ν := ν) (k := 11) (show ((0 : Nat) : Int) = 0 from rfl) (show ((0 : Nat) : Int) = 0 from rfl) (show ((3 : Nat) : Int) = 3 from rfl)) (congrArg i3 ((hF 11 0 3 (by decide)).trans ((show frz 11 0 3 = 0 from by decide))))) (by omega) (by omega) (by omega) (by omega) (by omega) ?_
  exact zlXe (E := 23) hP ⟨hZ, zK_r, zN_k rfl⟩

/- yX11_order -/
def zg_220 (a1 : Int) (a2 : Int) (a3 : Int) (a4 : Int) (a5 : Int) (a6 : Int) : Int × Int := (0, 24)
theorem sg_220 {Z : qz_Z} {ν : qz_N} (hZ : zI none Z) (hF : zF Z) {a1 : Int} (ga1 : -2147483648 ≤ a1 ∧ a1 ≤ 2147483647) {a2 : Int} (ga2 : -2147483648 ≤ a2 ∧ a2 ≤ 2147483647) {a3 : Int} (ga3 : -2147483648 ≤ a3 ∧ a3 ≤ 2147483647) {a4 : Int} (ga4 : -2147483648 ≤ a4 ∧ a4 ≤ 2147483647) {a5 : Int} (ga5 : -2147483648 ≤ a5 ∧ a5 ≤ 2147483647) {a6 : Int} (ga6 : -2147483648 ≤ a6 ∧ a6 ≤ 2147483647) : ∃ (Z1 : qz_Z) (ν1 : qz_N) (v E : Int), (v, E) = zg_220 a1 a2 a3 a4 a5 a6 ∧ qf_220 [.inr (.inr (some (0, 0, 0))), .inl (i3 a1), .inl (i3 a2), .inl (i3 a3), .inl (i3 a4), .inl (i3 a5), .inl (i3 a6)] (zm Z ν) = some (zm Z1 ν1, zoX v E) ∧ (fun Z1 ν1 => zI none Z1 ∧ zK [] Z Z1 ∧ zN ν ν1) Z1 ν1 := by
  obtain ⟨P, hP⟩ := zx (zg_220 a1 a2 a3 a4 a5 a6)
  refine zc_X (Q := fun Z1 ν1 => zI none Z1 ∧ zK [] Z Z1 ∧ zN ν ν1) hP (fw_220 (i3 a1) (i3 a2) (i3 a3) (i3 a4) (i3 a5) (i3 a6) _ _ ?_)
  replace hP : zE P (zg_220 a1 a2 a3 a4 a5 a6) := hP
  unfold zg_220 at hP
  refine wz_thing_n (rfl : i3 a1 = i3 a1) (Eq.trans (zm_rd (Z := Z) (ν := ν) (k := 11) (show ((0 : Nat) : Int) = 0 from rfl) (show ((0 : Nat) : Int) = 0 from rfl) (show ((4 : Nat) : Int) = 4 from rfl)) (congrArg i3 ((hF 11 0 4 (by decide)).trans ((show frz 11 0 4 = 0 from by decide))))) (by omega) (by omega) (by omega) (by omega) (by omega) ?_
  exact zlXe (E := 23) hP ⟨hZ, zK_r, zN_k rfl⟩

/- yX11_owes -/
def zg_224 (a1 : Int) (a2 : Int) : Int × Int := (0, 24)
theorem sg_224 {Z : qz_Z} {ν : qz_N} (hZ : zI none Z) (hF : zF Z) {a1 : Int} (ga1 : -2147483648 ≤ a1 ∧ a1 ≤ 2147483647) {a2 : Int} (ga2 : -2147483648 ≤ a2 ∧ a2 ≤ 2147483647) : ∃ (Z1 : qz_Z) (ν1 : qz_N) (v E : Int), (v, E) = zg_224 a1 a2 ∧ qf_224 [.inr (.inr (some (0, 0, 0))), .inl (i3 a1), .inl (i3 a2)] (zm Z ν) = some (zm Z1 ν1, zoX v E) ∧ (fun Z1 ν1 => zI none Z1 ∧ zK [] Z Z1 ∧ zN ν ν1) Z1 ν1 := by
  obtain ⟨P, hP⟩ := zx (zg_224 a1 a2)
  refine zc_X (Q := fun Z1 ν1 => zI none Z1 ∧ zK [] Z Z1 ∧ zN ν ν1) hP (fw_224 (i3 a1) (i3 a2) _ _ ?_)
  replace hP : zE P (zg_224 a1 a2) := hP
  unfold zg_224 at hP
  refine wz_thing_n (rfl : i3 a1 = i3 a1) (Eq.trans (zm_rd (Z := Z) (ν := ν) (k := 11) (show ((0 : Nat) : Int) = 0 from rfl) (show ((0 : Nat) : Int) = 0 from rfl) (show ((4 : Nat) : Int) = 4 from rfl)) (congrArg i3 ((hF 11 0 4 (by decide)).trans ((show frz 11 0 4 = 0 from by decide))))) (by omega) (by omega) (by omega) (by omega) (by omega) ?_
  exact zlXe (E := 23) hP ⟨hZ, zK_r, zN_k rfl⟩

/- yX11_clock -/
def zg_193 (a1 : Int) (a2 : Int) (a3 : Int) (a4 : Int) (a5 : Int) : Int × Int := (if 0 ≤ a1 ∧ a1 ≤ 23 then (if 1 ≤ a2 ∧ a2 ≤ (min (24 - a1) 6) then (if 1 ≤ a3 ∧ a3 ≤ 6 then (if 1 ≤ a4 ∧ a4 ≤ 500 then (if 0 ≤ a5 ∧ a5 ≤ 9 then (0, 0) else (0, 13)) else (0, 13)) else (0, 13)) else (0, 13)) else (0, 13))
theorem sg_193 {Z : qz_Z} {ν : qz_N} (hZ : zI none Z) (hF : zF Z) {a1 : Int} (ga1 : -2147483648 ≤ a1 ∧ a1 ≤ 2147483647) {a2 : Int} (ga2 : -2147483648 ≤ a2 ∧ a2 ≤ 2147483647) {a3 : Int} (ga3 : -2147483648 ≤ a3 ∧ a3 ≤ 2147483647) {a4 : Int} (ga4 : -2147483648 ≤ a4 ∧ a4 ≤ 2147483647) {a5 : Int} (ga5 : -2147483648 ≤ a5 ∧ a5 ≤ 2147483647) : ∃ (Z1 : qz_Z) (ν1 : qz_N) (v E : Int), (v, E) = zg_193 a1 a2 a3 a4 a5 ∧ qf_193 [.inr (.inr (some (0, 0, 0))), .inl (i3 a1), .inl (i3 a2), .inl (i3 a3), .inl (i3 a4), .inl (i3 a5)] (zm Z ν) = some (zm Z1 ν1, zoX v E) ∧ (fun Z1 ν1 => zI none Z1 ∧ zK [3, 11, 12, 13, 14, 40, 41, 42, 43, 44, 45, 46, 47, 48, 49, 50, 51, 52, 53, 54, 61, 68] Z Z1 ∧ zN ν ν1) Z1 ν1 := by
  obtain ⟨P, hP⟩ := zx (zg_193 a1 a2 a3 a4 a5)
  refine zc_X (Q := fun Z1 ν1 => zI none Z1 ∧ zK [3, 11, 12, 13, 14, 40, 41, 42, 43, 44, 45, 46, 47, 48, 49, 50, 51, 52, 53, 54, 61, 68] Z Z1 ∧ zN ν ν1) hP (fw_193 (i3 a1) (i3 a2) (i3 a3) (i3 a4) (i3 a5) _ _ ?_)
  replace hP : zE P (zg_193 a1 a2 a3 a4 a5) := hP
  unfold zg_193 at hP
  refine wz_inR (rfl : i3 a1 = i3 a1) (show (0 : Int32) = i3 0 from rfl) (show (23 : Int32) = i3 23 from rfl) (by omega) (by omega) (by omega) (by omega) (by omega) (by omega) (fun h1 => ?_) (fun h1 => ?_)
  · replace hP := zE_p hP h1
    refine wz_inR (rfl : i3 a2 = i3 a2) (show (1 : Int32) = i3 1 from rfl) (i3Mn (i3S (show (24 : Int32) = i3 24 from rfl) (rfl : i3 a1 = i3 a1)) (show (6 : Int32) = i3 6 from rfl) (by omega) (by omega) (by omega) (by omega)) (by omega) (by omega) (by omega) (by omega) (by omega) (by omega) (fun h2 => ?_) (fun h2 => ?_)
    · replace hP := zE_p hP h2
      refine wz_inR (rfl : i3 a3 = i3 a3) (show (1 : Int32) = i3 1 from rfl) (show (6 : Int32) = i3 6 from rfl) (by omega) (by omega) (by omega) (by omega) (by omega) (by omega) (fun h3 => ?_) (fun h3 => ?_)
      · replace hP := zE_p hP h3
        refine wz_inR (rfl : i3 a4 = i3 a4) (show (1 : Int32) = i3 1 from rfl) (show (500 : Int32) = i3 500 from rfl) (by omega) (by omega) (by omega) (by omega) (by omega) (by omega) (fun h4 => ?_) (fun h4 => ?_)
        · replace hP := zE_p hP h4
          refine wz_inR (rfl : i3 a5 = i3 a5) (show (0 : Int32) = i3 0 from rfl) (show (9 : Int32) = i3 9 from rfl) (by omega) (by omega) (by omega) (by omega) (by omega) (by omega) (fun h5 => ?_) (fun h5 => ?_)
          · replace hP := zE_p hP h5
            refine wz_i0 (Eq.trans (i3Le (show (2 : Int32) = i3 2 from rfl) (Eq.trans (zm_rd (Z := Z) (ν := ν) (k := 11) (show ((0 : Nat) : Int) = 0 from rfl) (show ((0 : Nat) : Int) = 0 from rfl) (show ((7 : Nat) : Int) = 7 from rfl)) (congrArg i3 ((hF 11 0 7 (by decide)).trans ((show frz 11 0 7 = 0 from by decide))))) (by omega) (by omega) (by omega) (by omega)) (decide_eq_false (by omega))) ?_
            refine wz_inT_y (show (1 : Int32) = i3 1 from rfl) (by omega) (by omega) (by omega) ?_
            refine dc_J (zcons rfl (zcons (zvi (show (14 : Int32) = i3 14 from rfl)) (zcons (zvi (rfl : i3 a1 = i3 a1)) (zcons (zvi (rfl : i3 a2 = i3 a2)) (zcons (zvi (rfl : i3 a3 = i3 a3)) (zcons (zvi (rfl : i3 a4 = i3 a4)) (zcons (zvi (rfl : i3 a5 = i3 a5)) (zcons (zvi (show (0 : Int32) = i3 0 from rfl)) rfl)))))))) (dc_I (ws := [3, 11, 12, 13, 14, 40, 41, 42, 43, 44, 45, 46, 47, 48, 49, 50, 51, 52, 53, 54, 61, 68]) (Z0 := Z) hF hZ zK_r (by decide) (by omega) (by omega) (by omega) (by omega) (by omega) (by omega) (by omega) (fun Z7 hZ7I hZ7F hZ7A hZ7K => ?_))
            refine fw_121 _ _ _ _ ?_
            refine wz_i1 rfl ?_
            refine wz_i0 (i3O (n := 7) (show (0 : Int32) = i3 0 from rfl) (by omega) (by omega) (by omega)) ?_
            refine wz_i0 (Eq.trans (i3To (Eq.trans (zm_rd (Z := Z7) (ν := ν) (k := 68) (show ((0 : Nat) : Int) = 0 from rfl) (show ((0 : Nat) : Int) = 0 from rfl) (show ((0 : Nat) : Int) = 0 from rfl)) (congrArg i3 ((hZ7A.1)))) (by omega) (by omega)) (decide_eq_false (by omega))) ?_
            refine wz_i0 (Eq.trans (i3T (Eq.trans (zm_rd (Z := Z7) (ν := ν) (k := 68) (show ((0 : Nat) : Int) = 0 from rfl) (show ((0 : Nat) : Int) = 0 from rfl) (show ((0 : Nat) : Int) = 0 from rfl)) (congrArg i3 ((hZ7A.1)))) (by omega) (by omega)) (decide_eq_false (by omega))) ?_
            refine wz_i0 (Eq.trans (i3T (Eq.trans (zm_rd (Z := Z7) (ν := ν) (k := 68) (show ((0 : Nat) : Int) = 0 from rfl) (show ((0 : Nat) : Int) = 0 from rfl) (show ((0 : Nat) : Int) = 0 from rfl)) (congrArg i3 ((hZ7A.1)))) (by omega) (by omega)) (decide_eq_false (by omega))) ?_
            refine wz_i0 (Eq.trans (i3T (Eq.trans (zm_rd (Z := Z7) (ν := ν) (k := 68) (show ((0 : Nat) : Int) = 0 from rfl) (show ((0 : Nat) : Int) = 0 from rfl) (show ((0 : Nat) : Int) = 0 from rfl)) (congrArg i3 ((hZ7A.1)))) (by omega) (by omega)) (decide_eq_false (by omega))) ?_
            refine wz_i0 (Eq.trans (i3T (Eq.trans (zm_rd (Z := Z7) (ν := ν) (k := 68) (show ((0 : Nat) : Int) = 0 from rfl) (show ((0 : Nat) : Int) = 0 from rfl) (show ((0 : Nat) : Int) = 0 from rfl)) (congrArg i3 ((hZ7A.1)))) (by omega) (by omega)) (decide_eq_false (by omega))) ?_
            refine wz_i0 (Eq.trans (i3T (Eq.trans (zm_rd (Z := Z7) (ν := ν) (k := 68) (show ((0 : Nat) : Int) = 0 from rfl) (show ((0 : Nat) : Int) = 0 from rfl) (show ((0 : Nat) : Int) = 0 from rfl)) (congrArg i3 ((hZ7A.1)))) (by omega) (by omega)) (decide_eq_false (by omega))) ?_
            refine wz_i0 (Eq.trans (i3T (Eq.trans (zm_rd (Z := Z7) (ν := ν) (k := 68) (show ((0 : Nat) : Int) = 0 from rfl) (show ((0 : Nat) : Int) = 0 from rfl) (show ((0 : Nat) : Int) = 0 from rfl)) (congrArg i3 ((hZ7A.1)))) (by omega) (by omega)) (decide_eq_false (by omega))) ?_
            refine wz_i0 (Eq.trans (i3T (Eq.trans (zm_rd (Z := Z7) (ν := ν) (k := 68) (show ((0 : Nat) : Int) = 0 from rfl) (show ((0 : Nat) : Int) = 0 from rfl) (show ((0 : Nat) : Int) = 0 from rfl)) (congrArg i3 ((hZ7A.1)))) (by omega) (by omega)) (decide_eq_false (by omega))) ?_
            refine wz_i0 (Eq.trans (i3T (Eq.trans (zm_rd (Z := Z7) (ν := ν) (k := 68) (show ((0 : Nat) : Int) = 0 from rfl) (show ((0 : Nat) : Int) = 0 from rfl) (show ((0 : Nat) : Int) = 0 from rfl)) (congrArg i3 ((hZ7A.1)))) (by omega) (by omega)) (decide_eq_false (by omega))) ?_
            refine wz_i0 (Eq.trans (i3T (Eq.trans (zm_rd (Z := Z7) (ν := ν) (k := 68) (show ((0 : Nat) : Int) = 0 from rfl) (show ((0 : Nat) : Int) = 0 from rfl) (show ((0 : Nat) : Int) = 0 from rfl)) (congrArg i3 ((hZ7A.1)))) (by omega) (by omega)) (decide_eq_false (by omega))) ?_
            refine wz_i0 (Eq.trans (i3T (Eq.trans (zm_rd (Z := Z7) (ν := ν) (k := 68) (show ((0 : Nat) : Int) = 0 from rfl) (show ((0 : Nat) : Int) = 0 from rfl) (show ((0 : Nat) : Int) = 0 from rfl)) (congrArg i3 ((hZ7A.1)))) (by omega) (by omega)) (decide_eq_false (by omega))) ?_
            refine wz_i0 (Eq.trans (i3T (Eq.trans (zm_rd (Z := Z7) (ν := ν) (k := 68) (show ((0 : Nat) : Int) = 0 from rfl) (show ((0 : Nat) : Int) = 0 from rfl) (show ((0 : Nat) : Int) = 0 from rfl)) (congrArg i3 ((hZ7A.1)))) (by omega) (by omega)) (decide_eq_false (by omega))) ?_
            refine wz_i0 (Eq.trans (i3T (Eq.trans (zm_rd (Z := Z7) (ν := ν) (k := 68) (show ((0 : Nat) : Int) = 0 from rfl) (show ((0 : Nat) : Int) = 0 from rfl) (show ((0 : Nat) : Int) = 0 from rfl)) (congrArg i3 ((hZ7A.1)))) (by omega) (by omega)) (decide_eq_false (by omega))) ?_
            refine wz_i0 (Eq.trans (i3T (Eq.trans (zm_rd (Z := Z7) (ν := ν) (k := 68) (show ((0 : Nat) : Int) = 0 from rfl) (show ((0 : Nat) : Int) = 0 from rfl) (show ((0 : Nat) : Int) = 0 from rfl)) (congrArg i3 ((hZ7A.1)))) (by omega) (by omega)) (decide_eq_false (by omega))) ?_
            refine wz_i0 (Eq.trans (i3T (Eq.trans (zm_rd (Z := Z7) (ν := ν) (k := 68) (show ((0 : Nat) : Int) = 0 from rfl) (show ((0 : Nat) : Int) = 0 from rfl) (show ((0 : Nat) : Int) = 0 from rfl)) (congrArg i3 ((hZ7A.1)))) (by omega) (by omega)) (decide_eq_false (by omega))) ?_
            refine wz_i1 (Eq.trans (i3T (Eq.trans (zm_rd (Z := Z7) (ν := ν) (k := 68) (show ((0 : Nat) : Int) = 0 from rfl) (show ((0 : Nat) : Int) = 0 from rfl) (show ((0 : Nat) : Int) = 0 from rfl)) (congrArg i3 ((hZ7A.1)))) (by omega) (by omega)) (decide_eq_true (by omega))) ?_
            refine wz_i1 rfl ?_
            refine wz_i0 (i3O (n := 7) (show (1 : Int32) = i3 1 from rfl) (by omega) (by omega) (by omega)) ?_
            refine wz_i1 rfl ?_
            refine wz_i0 (i3O (n := 7) (show (2 : Int32) = i3 2 from rfl) (by omega) (by omega) (by omega)) ?_
            refine wz_i1 rfl ?_
            refine wz_i0 (i3O (n := 7) (show (3 : Int32) = i3 3 from rfl) (by omega) (by omega) (by omega)) ?_
            refine wz_i1 rfl ?_
            refine wz_i0 (i3O (n := 7) (show (4 : Int32) = i3 4 from rfl) (by omega) (by omega) (by omega)) ?_
            refine wz_i1 rfl ?_
            refine wz_i0 (i3O (n := 7) (show (5 : Int32) = i3 5 from rfl) (by omega) (by omega) (by omega)) ?_
            refine wz_i0 (i3O (n := 2) (Eq.trans (zm_rd (Z := Z7) (ν := ν) (k := 11) (show ((0 : Nat) : Int) = 0 from rfl) (show ((0 : Nat) : Int) = 0 from rfl) (show ((7 : Nat) : Int) = 7 from rfl)) (congrArg i3 ((hZ7F 11 0 7 (by decide)).trans ((show frz 11 0 7 = 0 from by decide))))) (by omega) (by omega) (by omega)) ?_
            obtain ⟨Z8, hZ8⟩ := zx (zu Z7 48 0 0 0 a1)
            have hZ8I := zI_u hZ7I hZ8 (lo := 0) (hi := 23) (by decide) rfl (by omega) ⟨by decide, by decide⟩ (Or.inl (by decide))
            have hZ8K := zK_u hZ7K hZ8 (by decide)
            intro μ9 e9
            replace e9 := e9.trans (zm_wI (Z := Z7) (ν := ν) hZ8 (show ((0 : Nat) : Int) = 0 from rfl) (i3I (y := 0) (Eq.trans (zm_rd (Z := Z7) (ν := ν) (k := 11) (show ((0 : Nat) : Int) = 0 from rfl) (show ((0 : Nat) : Int) = 0 from rfl) (show ((7 : Nat) : Int) = 7 from rfl)) (congrArg i3 ((hZ7F 11 0 7 (by decide)).trans ((show frz 11 0 7 = 0 from by decide))))) (by omega) (by omega) (by omega)) (show ((0 : Nat) : Int) = 0 from rfl) (Eq.trans (zm_rd (Z := Z7) (ν := ν) (k := 68) (show ((0 : Nat) : Int) = 0 from rfl) (show ((0 : Nat) : Int) = 0 from rfl) (show ((1 : Nat) : Int) = 1 from rfl)) (congrArg i3 ((hZ7A.2.1)))))
            subst e9
            obtain ⟨Z9, hZ9⟩ := zx (zu Z8 48 0 0 1 a2)
            have hZ9I := zI_u hZ8I hZ9 (lo := 0) (hi := 6) (by decide) rfl (by omega) ⟨by decide, by decide⟩ (Or.inl (by decide))
            have hZ9K := zK_u hZ8K hZ9 (by decide)
            intro μ9 e9
            replace e9 := e9.trans (zm_wI (Z := Z8) (ν := ν) hZ9 (show ((0 : Nat) : Int) = 0 from rfl) (i3I (y := 0) (Eq.trans (zm_rd (Z := Z7) (ν := ν) (k := 11) (show ((0 : Nat) : Int) = 0 from rfl) (show ((0 : Nat) : Int) = 0 from rfl) (show ((7 : Nat) : Int) = 7 from rfl)) (congrArg i3 ((hZ7F 11 0 7 (by decide)).trans ((show frz 11 0 7 = 0 from by decide))))) (by omega) (by omega) (by omega)) (show ((1 : Nat) : Int) = 1 from rfl) (Eq.trans (zm_rd (Z := Z7) (ν := ν) (k := 68) (show ((0 : Nat) : Int) = 0 from rfl) (show ((0 : Nat) : Int) = 0 from rfl) (show ((2 : Nat) : Int) = 2 from rfl)) (congrArg i3 ((hZ7A.2.2.1)))))
            subst e9
            obtain ⟨Z10, hZ10⟩ := zx (zu Z9 48 0 0 2 a3)
            have hZ10I := zI_u hZ9I hZ10 (lo := 0) (hi := 6) (by decide) rfl (by omega) ⟨by decide, by decide⟩ (Or.inl (by decide))
            have hZ10K := zK_u hZ9K hZ10 (by decide)
            intro μ9 e9
            replace e9 := e9.trans (zm_wI (Z := Z9) (ν := ν) hZ10 (show ((0 : Nat) : Int) = 0 from rfl) (i3I (y := 0) (Eq.trans (zm_rd (Z := Z7) (ν := ν) (k := 11) (show ((0 : Nat) : Int) = 0 from rfl) (show ((0 : Nat) : Int) = 0 from rfl) (show ((7 : Nat) : Int) = 7 from rfl)) (congrArg i3 ((hZ7F 11 0 7 (by decide)).trans ((show frz 11 0 7 = 0 from by decide))))) (by omega) (by omega) (by omega)) (show ((2 : Nat) : Int) = 2 from rfl) (Eq.trans (zm_rd (Z := Z7) (ν := ν) (k := 68) (show ((0 : Nat) : Int) = 0 from rfl) (show ((0 : Nat) : Int) = 0 from rfl) (show ((3 : Nat) : Int) = 3 from rfl)) (congrArg i3 ((hZ7A.2.2.2.1)))))
            subst e9
            obtain ⟨Z11, hZ11⟩ := zx (zu Z10 48 0 0 3 a4)
            have hZ11I := zI_u hZ10I hZ11 (lo := 0) (hi := 500) (by decide) rfl (by omega) ⟨by decide, by decide⟩ (Or.inl (by decide))
            have hZ11K := zK_u hZ10K hZ11 (by decide)
            intro μ9 e9
            replace e9 := e9.trans (zm_wI (Z := Z10) (ν := ν) hZ11 (show ((0 : Nat) : Int) = 0 from rfl) (i3I (y := 0) (Eq.trans (zm_rd (Z := Z7) (ν := ν) (k := 11) (show ((0 : Nat) : Int) = 0 from rfl) (show ((0 : Nat) : Int) = 0 from rfl) (show ((7 : Nat) : Int) = 7 from rfl)) (congrArg i3 ((hZ7F 11 0 7 (by decide)).trans ((show frz 11 0 7 = 0 from by decide))))) (by omega) (by omega) (by omega)) (show ((3 : Nat) : Int) = 3 from rfl) (Eq.trans (zm_rd (Z := Z7) (ν := ν) (k := 68) (show ((0 : Nat) : Int) = 0 from rfl) (show ((0 : Nat) : Int) = 0 from rfl) (show ((4 : Nat) : Int) = 4 from rfl)) (congrArg i3 ((hZ7A.2.2.2.2.1)))))
            subst e9
            obtain ⟨Z12, hZ12⟩ := zx (zu Z11 48 0 0 4 a5)
            have hZ12I := zI_u hZ11I hZ12 (lo := 0) (hi := 9) (by decide) rfl (by omega) ⟨by decide, by decide⟩ (Or.inl (by decide))
            have hZ12K := zK_u hZ11K hZ12 (by decide)
            intro μ9 e9
            replace e9 := e9.trans (zm_wI (Z := Z11) (ν := ν) hZ12 (show ((0 : Nat) : Int) = 0 from rfl) (i3I (y := 0) (Eq.trans (zm_rd (Z := Z7) (ν := ν) (k := 11) (show ((0 : Nat) : Int) = 0 from rfl) (show ((0 : Nat) : Int) = 0 from rfl) (show ((7 : Nat) : Int) = 7 from rfl)) (congrArg i3 ((hZ7F 11 0 7 (by decide)).trans ((show frz 11 0 7 = 0 from by decide))))) (by omega) (by omega) (by omega)) (show ((4 : Nat) : Int) = 4 from rfl) (Eq.trans (zm_rd (Z := Z7) (ν := ν) (k := 68) (show ((0 : Nat) : Int) = 0 from rfl) (show ((0 : Nat) : Int) = 0 from rfl) (show ((5 : Nat) : Int) = 5 from rfl)) (congrArg i3 ((hZ7A.2.2.2.2.2.1)))))
            subst e9
            obtain ⟨Z13, hZ13⟩ := zx (zu Z12 48 0 0 6 (-1))
            have hZ13I := zI_u hZ12I hZ13 (lo := -1) (hi := 9999) (by decide) rfl (by omega) ⟨by decide, by decide⟩ (Or.inl (by decide))
            have hZ13K := zK_u hZ12K hZ13 (by decide)
            intro μ9 e9
            replace e9 := e9.trans (zm_wI (Z := Z12) (ν := ν) hZ13 (show ((0 : Nat) : Int) = 0 from rfl) (i3I (y := 0) (Eq.trans (zm_rd (Z := Z7) (ν := ν) (k := 11) (show ((0 : Nat) : Int) = 0 from rfl) (show ((0 : Nat) : Int) = 0 from rfl) (show ((7 : Nat) : Int) = 7 from rfl)) (congrArg i3 ((hZ7F 11 0 7 (by decide)).trans ((show frz 11 0 7 = 0 from by decide))))) (by omega) (by omega) (by omega)) (show ((6 : Nat) : Int) = 6 from rfl) (show (-1 : Int32) = i3 (-1) from rfl))
            subst e9
            obtain ⟨Z14, hZ14⟩ := zx (zu Z13 48 0 0 7 (-1))
            have hZ14I := zI_u hZ13I hZ14 (lo := -1) (hi := 47) (by decide) rfl (by omega) ⟨by decide, by decide⟩ (Or.inl (by decide))
            have hZ14K := zK_u hZ13K hZ14 (by decide)
            intro μ9 e9
            replace e9 := e9.trans (zm_wI (Z := Z13) (ν := ν) hZ14 (show ((0 : Nat) : Int) = 0 from rfl) (i3I (y := 0) (Eq.trans (zm_rd (Z := Z7) (ν := ν) (k := 11) (show ((0 : Nat) : Int) = 0 from rfl) (show ((0 : Nat) : Int) = 0 from rfl) (show ((7 : Nat) : Int) = 7 from rfl)) (congrArg i3 ((hZ7F 11 0 7 (by decide)).trans ((show frz 11 0 7 = 0 from by decide))))) (by omega) (by omega) (by omega)) (show ((7 : Nat) : Int) = 7 from rfl) (show (-1 : Int32) = i3 (-1) from rfl))
            subst e9
            obtain ⟨Z15, hZ15⟩ := zx (zu Z14 11 0 0 7 (0 + 1))
            have hZ15I := zI_u hZ14I hZ15 (lo := 0) (hi := 2) (by decide) rfl (by omega) ⟨by decide, by decide⟩ (Or.inl (by decide))
            have hZ15K := zK_u hZ14K hZ15 (by decide)
            intro μ9 e9
            replace e9 := e9.trans (zm_wI (Z := Z14) (ν := ν) hZ15 (show ((0 : Nat) : Int) = 0 from rfl) (show ((0 : Nat) : Int) = 0 from rfl) (show ((7 : Nat) : Int) = 7 from rfl) (i3A (Eq.trans (zm_rd (Z := Z14) (ν := ν) (k := 11) (show ((0 : Nat) : Int) = 0 from rfl) (show ((0 : Nat) : Int) = 0 from rfl) (show ((7 : Nat) : Int) = 7 from rfl)) (congrArg i3 ((zu_ne (k' := 11) (b' := 0) (i' := 0) (j' := 7) hZ14 (fun q => absurd q.1 (by decide))).trans ((zu_ne (k' := 11) (b' := 0) (i' := 0) (j' := 7) hZ13 (fun q => absurd q.1 (by decide))).trans ((zu_ne (k' := 11) (b' := 0) (i' := 0) (j' := 7) hZ12 (fun q => absurd q.1 (by decide))).trans ((zu_ne (k' := 11) (b' := 0) (i' := 0) (j' := 7) hZ11 (fun q => absurd q.1 (by decide))).trans ((zu_ne (k' := 11) (b' := 0) (i' := 0) (j' := 7) hZ10 (fun q => absurd q.1 (by decide))).trans ((zu_ne (k' := 11) (b' := 0) (i' := 0) (j' := 7) hZ9 (fun q => absurd q.1 (by decide))).trans ((zu_ne (k' := 11) (b' := 0) (i' := 0) (j' := 7) hZ8 (fun q => absurd q.1 (by decide))).trans ((hZ7F 11 0 7 (by decide)).trans ((show frz 11 0 7 = 0 from by decide)))))))))))) (show (1 : Int32) = i3 1 from rfl)))
            subst e9
            exact zlX hP (Eq.trans (zm_rd (Z := Z14) (ν := ν) (k := 11) (show ((0 : Nat) : Int) = 0 from rfl) (show ((0 : Nat) : Int) = 0 from rfl) (show ((7 : Nat) : Int) = 7 from rfl)) (congrArg i3 ((zu_ne (k' := 11) (b' := 0) (i' := 0) (j' := 7) hZ14 (fun q => absurd q.1 (by decide))).trans ((zu_ne (k' := 11) (b' := 0) (i' := 0) (j' := 7) hZ13 (fun q => absurd q.1 (by decide))).trans ((zu_ne (k' := 11) (b' := 0) (i' := 0) (j' := 7) hZ12 (fun q => absurd q.1 (by decide))).trans ((zu_ne (k' := 11) (b' := 0) (i' := 0) (j' := 7) hZ11 (fun q => absurd q.1 (by decide))).trans ((zu_ne (k' := 11) (b' := 0) (i' := 0) (j' := 7) hZ10 (fun q => absurd q.1 (by decide))).trans ((zu_ne (k' := 11) (b' := 0) (i' := 0) (j' := 7) hZ9 (fun q => absurd q.1 (by decide))).trans ((zu_ne (k' := 11) (b' := 0) (i' := 0) (j' := 7) hZ8 (fun q => absurd q.1 (by decide))).trans ((hZ7F 11 0 7 (by decide)).trans ((show frz 11 0 7 = 0 from by decide)))))))))))) ⟨hZ15I, hZ15K, zN_r⟩
          · replace hP := zE_n hP h5
            exact zlXe (E := 12) hP ⟨hZ, zK_r, zN_k rfl⟩
        · replace hP := zE_n hP h4
          exact zlXe (E := 12) hP ⟨hZ, zK_r, zN_k rfl⟩
      · replace hP := zE_n hP h3
        exact zlXe (E := 12) hP ⟨hZ, zK_r, zN_k rfl⟩
    · replace hP := zE_n hP h2
      exact zlXe (E := 12) hP ⟨hZ, zK_r, zN_k rfl⟩
  · replace hP := zE_n hP h1
    exact zlXe (E := 12) hP ⟨hZ, zK_r, zN_k rfl⟩

/- yX11_hand -/
def zg_206 (a1 : Int) (a2 : Int) : Int × Int := (0, 24)
theorem sg_206 {Z : qz_Z} {ν : qz_N} (hZ : zI none Z) (hF : zF Z) {a1 : Int} (ga1 : -2147483648 ≤ a1 ∧ a1 ≤ 2147483647) {a2 : Int} (ga2 : -2147483648 ≤ a2 ∧ a2 ≤ 2147483647) : ∃ (Z1 : qz_Z) (ν1 : qz_N) (v E : Int), (v, E) = zg_206 a1 a2 ∧ qf_206 [.inr (.inr (some (0, 0, 0))), .inl (i3 a1), .inl (i3 a2)] (zm Z ν) = some (zm Z1 ν1, zoX v E) ∧ (fun Z1 ν1 => zI none Z1 ∧ zK [] Z Z1 ∧ zN ν ν1) Z1 ν1 := by
  obtain ⟨P, hP⟩ := zx (zg_206 a1 a2)
  refine zc_X (Q := fun Z1 ν1 => zI none Z1 ∧ zK [] Z Z1 ∧ zN ν ν1) hP (fw_206 (i3 a1) (i3 a2) _ _ ?_)
  replace hP : zE P (zg_206 a1 a2) := hP
  unfold zg_206 at hP
  refine wz_thing_n (rfl : i3 a1 = i3 a1) (Eq.trans (zm_rd (Z := Z) (ν := ν) (k := 11) (show ((0 : Nat) : Int) = 0 from rfl) (show ((0 : Nat) : Int) = 0 from rfl) (show ((7 : Nat) : Int) = 7 from rfl)) (congrArg i3 ((hF 11 0 7 (by decide)).trans ((show frz 11 0 7 = 0 from by decide))))) (by omega) (by omega) (by omega) (by omega) (by omega) ?_
  exact zlXe (E := 23) hP ⟨hZ, zK_r, zN_k rfl⟩

/- yX11_bestRow -/
def zg_188 (a1 : Int) (a2 : Int) : Int × Int := (0, 24)
theorem sg_188 {Z : qz_Z} {ν : qz_N} (hZ : zI none Z) (hF : zF Z) {a1 : Int} (ga1 : -2147483648 ≤ a1 ∧ a1 ≤ 2147483647) {a2 : Int} (ga2 : -2147483648 ≤ a2 ∧ a2 ≤ 2147483647) : ∃ (Z1 : qz_Z) (ν1 : qz_N) (v E : Int), (v, E) = zg_188 a1 a2 ∧ qf_188 [.inr (.inr (some (0, 0, 0))), .inl (i3 a1), .inl (i3 a2)] (zm Z ν) = some (zm Z1 ν1, zoX v E) ∧ (fun Z1 ν1 => zI none Z1 ∧ zK [] Z Z1 ∧ zN ν ν1) Z1 ν1 := by
  obtain ⟨P, hP⟩ := zx (zg_188 a1 a2)
  refine zc_X (Q := fun Z1 ν1 => zI none Z1 ∧ zK [] Z Z1 ∧ zN ν ν1) hP (fw_188 (i3 a1) (i3 a2) _ _ ?_)
  replace hP : zE P (zg_188 a1 a2) := hP
  unfold zg_188 at hP
  refine wz_thing_n (rfl : i3 a1 = i3 a1) (Eq.trans (zm_rd (Z := Z) (ν := ν) (k := 11) (show ((0 : Nat) : Int) = 0 from rfl) (show ((0 : Nat) : Int) = 0 from rfl) (show ((7 : Nat) : Int) = 7 from rfl)) (congrArg i3 ((hF 11 0 7 (by decide)).trans ((show frz 11 0 7 = 0 from by decide))))) (by omega) (by omega) (by omega) (by omega) (by omega) ?_
  exact zlXe (E := 23) hP ⟨hZ, zK_r, zN_k rfl⟩

/- yX11_docks -/
def zg_197 (a1 : Int) : Int × Int := (if 1 ≤ a1 ∧ a1 ≤ 4 then (2, 0) else (0, 13))
theorem sg_197 {Z : qz_Z} {ν : qz_N} (hZ : zI none Z) (hF : zF Z) {a1 : Int} (ga1 : -2147483648 ≤ a1 ∧ a1 ≤ 2147483647) : ∃ (Z1 : qz_Z) (ν1 : qz_N) (v E : Int), (v, E) = zg_197 a1 ∧ qf_197 [.inr (.inr (some (0, 0, 0))), .inl (i3 a1)] (zm Z ν) = some (zm Z1 ν1, zoX v E) ∧ (fun Z1 ν1 => zI none Z1 ∧ zK [3, 11, 12, 13, 14, 40, 41, 42, 43, 44, 45, 46, 47, 48, 49, 50, 51, 52, 53, 54, 61, 68] Z Z1 ∧ zN ν ν1) Z1 ν1 := by
  obtain ⟨P, hP⟩ := zx (zg_197 a1)
  refine zc_X (Q := fun Z1 ν1 => zI none Z1 ∧ zK [3, 11, 12, 13, 14, 40, 41, 42, 43, 44, 45, 46, 47, 48, 49, 50, 51, 52, 53, 54, 61, 68] Z Z1 ∧ zN ν ν1) hP (fw_197 (i3 a1) _ _ ?_)
  replace hP : zE P (zg_197 a1) := hP
  unfold zg_197 at hP
  refine wz_inR (rfl : i3 a1 = i3 a1) (show (1 : Int32) = i3 1 from rfl) (show (4 : Int32) = i3 4 from rfl) (by omega) (by omega) (by omega) (by omega) (by omega) (by omega) (fun h1 => ?_) (fun h1 => ?_)
  · replace hP := zE_p hP h1
    refine fw_40 _ _ _ ?_
    refine wz_l0 sb_40_1 (fb_40_1 _ (i3 0) (i3 0) _ _ _ _ (zconso rfl (zconso (zvo (show (0 : Int32) = i3 0 from rfl)) (zconso (zvo (show (0 : Int32) = i3 0 from rfl)) rfl))) ?_)
    refine wz_i1 (Eq.trans (i3Le (Eq.trans (zm_rd (Z := Z) (ν := ν) (k := 11) (show ((0 : Nat) : Int) = 0 from rfl) (show ((0 : Nat) : Int) = 0 from rfl) (show ((8 : Nat) : Int) = 8 from rfl)) (congrArg i3 ((hF 11 0 8 (by decide)).trans ((show frz 11 0 8 = 0 from by decide))))) (rfl : i3 0 = i3 0) (by omega) (by omega) (by omega) (by omega)) (decide_eq_true (by omega))) ?_
    refine wz_lk0 (wz_sk0 ?_)
    refine fc_40_2 (i3 0) _ _ _ _ (zconso rfl (zconso (zvo (rfl : i3 0 = i3 0)) (zconso rfl rfl))) ?_
    refine wz_i0 (Eq.trans (i3L (rfl : i3 a1 = i3 a1) (rfl : i3 0 = i3 0) (by omega) (by omega) (by omega) (by omega)) (decide_eq_false (by omega))) ?_
    refine wz_inT_y (show (1 : Int32) = i3 1 from rfl) (by omega) (by omega) (by omega) ?_
    refine dc_J (zcons rfl (zcons (zvi (show (18 : Int32) = i3 18 from rfl)) (zcons (zvi (rfl : i3 a1 = i3 a1)) (zcons (zvi (show (0 : Int32) = i3 0 from rfl)) (zcons (zvi (show (0 : Int32) = i3 0 from rfl)) (zcons (zvi (show (0 : Int32) = i3 0 from rfl)) (zcons (zvi (show (0 : Int32) = i3 0 from rfl)) (zcons (zvi (show (0 : Int32) = i3 0 from rfl)) rfl)))))))) (dc_I (ws := [3, 11, 12, 13, 14, 40, 41, 42, 43, 44, 45, 46, 47, 48, 49, 50, 51, 52, 53, 54, 61, 68]) (Z0 := Z) hF hZ zK_r (by decide) (by omega) (by omega) (by omega) (by omega) (by omega) (by omega) (by omega) (fun Z3 hZ3I hZ3F hZ3A hZ3K => ?_))
    refine fw_121 _ _ _ _ ?_
    refine wz_i1 rfl ?_
    refine wz_i0 (i3O (n := 7) (show (0 : Int32) = i3 0 from rfl) (by omega) (by omega) (by omega)) ?_
    refine wz_i0 (Eq.trans (i3To (Eq.trans (zm_rd (Z := Z3) (ν := ν) (k := 68) (show ((0 : Nat) : Int) = 0 from rfl) (show ((0 : Nat) : Int) = 0 from rfl) (show ((0 : Nat) : Int) = 0 from rfl)) (congrArg i3 ((hZ3A.1)))) (by omega) (by omega)) (decide_eq_false (by omega))) ?_
    refine wz_i0 (Eq.trans (i3T (Eq.trans (zm_rd (Z := Z3) (ν := ν) (k := 68) (show ((0 : Nat) : Int) = 0 from rfl) (show ((0 : Nat) : Int) = 0 from rfl) (show ((0 : Nat) : Int) = 0 from rfl)) (congrArg i3 ((hZ3A.1)))) (by omega) (by omega)) (decide_eq_false (by omega))) ?_
    refine wz_i0 (Eq.trans (i3T (Eq.trans (zm_rd (Z := Z3) (ν := ν) (k := 68) (show ((0 : Nat) : Int) = 0 from rfl) (show ((0 : Nat) : Int) = 0 from rfl) (show ((0 : Nat) : Int) = 0 from rfl)) (congrArg i3 ((hZ3A.1)))) (by omega) (by omega)) (decide_eq_false (by omega))) ?_
    refine wz_i0 (Eq.trans (i3T (Eq.trans (zm_rd (Z := Z3) (ν := ν) (k := 68) (show ((0 : Nat) : Int) = 0 from rfl) (show ((0 : Nat) : Int) = 0 from rfl) (show ((0 : Nat) : Int) = 0 from rfl)) (congrArg i3 ((hZ3A.1)))) (by omega) (by omega)) (decide_eq_false (by omega))) ?_
    refine wz_i0 (Eq.trans (i3T (Eq.trans (zm_rd (Z := Z3) (ν := ν) (k := 68) (show ((0 : Nat) : Int) = 0 from rfl) (show ((0 : Nat) : Int) = 0 from rfl) (show ((0 : Nat) : Int) = 0 from rfl)) (congrArg i3 ((hZ3A.1)))) (by omega) (by omega)) (decide_eq_false (by omega))) ?_
    refine wz_i0 (Eq.trans (i3T (Eq.trans (zm_rd (Z := Z3) (ν := ν) (k := 68) (show ((0 : Nat) : Int) = 0 from rfl) (show ((0 : Nat) : Int) = 0 from rfl) (show ((0 : Nat) : Int) = 0 from rfl)) (congrArg i3 ((hZ3A.1)))) (by omega) (by omega)) (decide_eq_false (by omega))) ?_
    refine wz_i0 (Eq.trans (i3T (Eq.trans (zm_rd (Z := Z3) (ν := ν) (k := 68) (show ((0 : Nat) : Int) = 0 from rfl) (show ((0 : Nat) : Int) = 0 from rfl) (show ((0 : Nat) : Int) = 0 from rfl)) (congrArg i3 ((hZ3A.1)))) (by omega) (by omega)) (decide_eq_false (by omega))) ?_
    refine wz_i0 (Eq.trans (i3T (Eq.trans (zm_rd (Z := Z3) (ν := ν) (k := 68) (show ((0 : Nat) : Int) = 0 from rfl) (show ((0 : Nat) : Int) = 0 from rfl) (show ((0 : Nat) : Int) = 0 from rfl)) (congrArg i3 ((hZ3A.1)))) (by omega) (by omega)) (decide_eq_false (by omega))) ?_
    refine wz_i0 (Eq.trans (i3T (Eq.trans (zm_rd (Z := Z3) (ν := ν) (k := 68) (show ((0 : Nat) : Int) = 0 from rfl) (show ((0 : Nat) : Int) = 0 from rfl) (show ((0 : Nat) : Int) = 0 from rfl)) (congrArg i3 ((hZ3A.1)))) (by omega) (by omega)) (decide_eq_false (by omega))) ?_
    refine wz_i0 (Eq.trans (i3T (Eq.trans (zm_rd (Z := Z3) (ν := ν) (k := 68) (show ((0 : Nat) : Int) = 0 from rfl) (show ((0 : Nat) : Int) = 0 from rfl) (show ((0 : Nat) : Int) = 0 from rfl)) (congrArg i3 ((hZ3A.1)))) (by omega) (by omega)) (decide_eq_false (by omega))) ?_
    refine wz_i0 (Eq.trans (i3T (Eq.trans (zm_rd (Z := Z3) (ν := ν) (k := 68) (show ((0 : Nat) : Int) = 0 from rfl) (show ((0 : Nat) : Int) = 0 from rfl) (show ((0 : Nat) : Int) = 0 from rfl)) (congrArg i3 ((hZ3A.1)))) (by omega) (by omega)) (decide_eq_false (by omega))) ?_
    refine wz_i0 (Eq.trans (i3T (Eq.trans (zm_rd (Z := Z3) (ν := ν) (k := 68) (show ((0 : Nat) : Int) = 0 from rfl) (show ((0 : Nat) : Int) = 0 from rfl) (show ((0 : Nat) : Int) = 0 from rfl)) (congrArg i3 ((hZ3A.1)))) (by omega) (by omega)) (decide_eq_false (by omega))) ?_
    refine wz_i0 (Eq.trans (i3T (Eq.trans (zm_rd (Z := Z3) (ν := ν) (k := 68) (show ((0 : Nat) : Int) = 0 from rfl) (show ((0 : Nat) : Int) = 0 from rfl) (show ((0 : Nat) : Int) = 0 from rfl)) (congrArg i3 ((hZ3A.1)))) (by omega) (by omega)) (decide_eq_false (by omega))) ?_
    refine wz_i0 (Eq.trans (i3T (Eq.trans (zm_rd (Z := Z3) (ν := ν) (k := 68) (show ((0 : Nat) : Int) = 0 from rfl) (show ((0 : Nat) : Int) = 0 from rfl) (show ((0 : Nat) : Int) = 0 from rfl)) (congrArg i3 ((hZ3A.1)))) (by omega) (by omega)) (decide_eq_false (by omega))) ?_
    refine wz_i0 (Eq.trans (i3T (Eq.trans (zm_rd (Z := Z3) (ν := ν) (k := 68) (show ((0 : Nat) : Int) = 0 from rfl) (show ((0 : Nat) : Int) = 0 from rfl) (show ((0 : Nat) : Int) = 0 from rfl)) (congrArg i3 ((hZ3A.1)))) (by omega) (by omega)) (decide_eq_false (by omega))) ?_
    refine wz_i0 (Eq.trans (i3T (Eq.trans (zm_rd (Z := Z3) (ν := ν) (k := 68) (show ((0 : Nat) : Int) = 0 from rfl) (show ((0 : Nat) : Int) = 0 from rfl) (show ((0 : Nat) : Int) = 0 from rfl)) (congrArg i3 ((hZ3A.1)))) (by omega) (by omega)) (decide_eq_false (by omega))) ?_
    refine wz_i0 (Eq.trans (i3T (Eq.trans (zm_rd (Z := Z3) (ν := ν) (k := 68) (show ((0 : Nat) : Int) = 0 from rfl) (show ((0 : Nat) : Int) = 0 from rfl) (show ((0 : Nat) : Int) = 0 from rfl)) (congrArg i3 ((hZ3A.1)))) (by omega) (by omega)) (decide_eq_false (by omega))) ?_
    refine wz_i0 (Eq.trans (i3T (Eq.trans (zm_rd (Z := Z3) (ν := ν) (k := 68) (show ((0 : Nat) : Int) = 0 from rfl) (show ((0 : Nat) : Int) = 0 from rfl) (show ((0 : Nat) : Int) = 0 from rfl)) (congrArg i3 ((hZ3A.1)))) (by omega) (by omega)) (decide_eq_false (by omega))) ?_
    refine wz_i0 (Eq.trans (i3T (Eq.trans (zm_rd (Z := Z3) (ν := ν) (k := 68) (show ((0 : Nat) : Int) = 0 from rfl) (show ((0 : Nat) : Int) = 0 from rfl) (show ((0 : Nat) : Int) = 0 from rfl)) (congrArg i3 ((hZ3A.1)))) (by omega) (by omega)) (decide_eq_false (by omega))) ?_
    refine wz_i1 (Eq.trans (i3T (Eq.trans (zm_rd (Z := Z3) (ν := ν) (k := 68) (show ((0 : Nat) : Int) = 0 from rfl) (show ((0 : Nat) : Int) = 0 from rfl) (show ((0 : Nat) : Int) = 0 from rfl)) (congrArg i3 ((hZ3A.1)))) (by omega) (by omega)) (decide_eq_true (by omega))) ?_
    refine wz_i1 rfl ?_
    refine wz_i0 (i3O (n := 7) (show (1 : Int32) = i3 1 from rfl) (by omega) (by omega) (by omega)) ?_
    obtain ⟨Z4, hZ4⟩ := zx (zu Z3 11 0 0 14 a1)
    have hZ4I := zI_u hZ3I hZ4 (lo := 0) (hi := 4) (by decide) rfl (by omega) ⟨by decide, by decide⟩ (Or.inl (by decide))
    have hZ4K := zK_u hZ3K hZ4 (by decide)
    intro μ9 e9
    replace e9 := e9.trans (zm_wI (Z := Z3) (ν := ν) hZ4 (show ((0 : Nat) : Int) = 0 from rfl) (show ((0 : Nat) : Int) = 0 from rfl) (show ((14 : Nat) : Int) = 14 from rfl) (Eq.trans (zm_rd (Z := Z3) (ν := ν) (k := 68) (show ((0 : Nat) : Int) = 0 from rfl) (show ((0 : Nat) : Int) = 0 from rfl) (show ((1 : Nat) : Int) = 1 from rfl)) (congrArg i3 ((hZ3A.2.1)))))
    subst e9
    exact zlX hP (Eq.trans (zm_rd (Z := Z3) (ν := ν) (k := 11) (show ((0 : Nat) : Int) = 0 from rfl) (show ((0 : Nat) : Int) = 0 from rfl) (show ((14 : Nat) : Int) = 14 from rfl)) (congrArg i3 ((hZ3F 11 0 14 (by decide)).trans ((show frz 11 0 14 = 2 from by decide))))) ⟨hZ4I, hZ4K, zN_r⟩
  · replace hP := zE_n hP h1
    exact zlXe (E := 12) hP ⟨hZ, zK_r, zN_k rfl⟩

/- yX11_send -/
def zg_239 (a1 : Int) (a2 : Int) : Int × Int := (if a1 < 0 then (0, 24) else (0, 24))
theorem sg_239 {Z : qz_Z} {ν : qz_N} (hZ : zI none Z) (hF : zF Z) {a1 : Int} (ga1 : -2147483648 ≤ a1 ∧ a1 ≤ 2147483647) {a2 : Int} (ga2 : -2147483648 ≤ a2 ∧ a2 ≤ 2147483647) : ∃ (Z1 : qz_Z) (ν1 : qz_N) (v E : Int), (v, E) = zg_239 a1 a2 ∧ qf_239 [.inr (.inr (some (0, 0, 0))), .inl (i3 a1), .inl (i3 a2)] (zm Z ν) = some (zm Z1 ν1, zoX v E) ∧ (fun Z1 ν1 => zI none Z1 ∧ zK [] Z Z1 ∧ zN ν ν1) Z1 ν1 := by
  obtain ⟨P, hP⟩ := zx (zg_239 a1 a2)
  refine zc_X (Q := fun Z1 ν1 => zI none Z1 ∧ zK [] Z Z1 ∧ zN ν ν1) hP (fw_239 (i3 a1) (i3 a2) _ _ ?_)
  replace hP : zE P (zg_239 a1 a2) := hP
  unfold zg_239 at hP
  refine fw_55 _ _ _ _ _ ?_
  refine wz_br (i3L (rfl : i3 a1 = i3 a1) (show (0 : Int32) = i3 0 from rfl) (by omega) (by omega) (by omega) (by omega)) (fun h1 => ?_) (fun h1 => ?_)
  · replace hP := zE_p hP h1
    refine wz_i0 (Eq.trans (i3NE (show (1 : Int32) = i3 1 from rfl) (show (1 : Int32) = i3 1 from rfl) (by omega) (by omega) (by omega) (by omega)) (decide_eq_false (by omega))) ?_
    exact zlXe (E := 23) hP ⟨hZ, zK_r, zN_k rfl⟩
  · replace hP := zE_n hP h1
    refine wz_i0 (Eq.trans (i3L (rfl : i3 a1 = i3 a1) (Eq.trans (zm_rd (Z := Z) (ν := ν) (k := 11) (show ((0 : Nat) : Int) = 0 from rfl) (show ((0 : Nat) : Int) = 0 from rfl) (show ((8 : Nat) : Int) = 8 from rfl)) (congrArg i3 ((hF 11 0 8 (by decide)).trans ((show frz 11 0 8 = 0 from by decide))))) (by omega) (by omega) (by omega) (by omega)) (decide_eq_false (by omega))) ?_
    refine wz_i0 (Eq.trans (i3NE (show (1 : Int32) = i3 1 from rfl) (show (1 : Int32) = i3 1 from rfl) (by omega) (by omega) (by omega) (by omega)) (decide_eq_false (by omega))) ?_
    exact zlXe (E := 23) hP ⟨hZ, zK_r, zN_k rfl⟩

/- yX11_trip -/
def zg_250 (a1 : Int) (a2 : Int) : Int × Int := (0, 24)
theorem sg_250 {Z : qz_Z} {ν : qz_N} (hZ : zI none Z) (hF : zF Z) {a1 : Int} (ga1 : -2147483648 ≤ a1 ∧ a1 ≤ 2147483647) {a2 : Int} (ga2 : -2147483648 ≤ a2 ∧ a2 ≤ 2147483647) : ∃ (Z1 : qz_Z) (ν1 : qz_N) (v E : Int), (v, E) = zg_250 a1 a2 ∧ qf_250 [.inr (.inr (some (0, 0, 0))), .inl (i3 a1), .inl (i3 a2)] (zm Z ν) = some (zm Z1 ν1, zoX v E) ∧ (fun Z1 ν1 => zI none Z1 ∧ zK [] Z Z1 ∧ zN ν ν1) Z1 ν1 := by
  obtain ⟨P, hP⟩ := zx (zg_250 a1 a2)
  refine zc_X (Q := fun Z1 ν1 => zI none Z1 ∧ zK [] Z Z1 ∧ zN ν ν1) hP (fw_250 (i3 a1) (i3 a2) _ _ ?_)
  replace hP : zE P (zg_250 a1 a2) := hP
  unfold zg_250 at hP
  refine wz_thing_n (rfl : i3 a1 = i3 a1) (Eq.trans (zm_rd (Z := Z) (ν := ν) (k := 11) (show ((0 : Nat) : Int) = 0 from rfl) (show ((0 : Nat) : Int) = 0 from rfl) (show ((8 : Nat) : Int) = 8 from rfl)) (congrArg i3 ((hF 11 0 8 (by decide)).trans ((show frz 11 0 8 = 0 from by decide))))) (by omega) (by omega) (by omega) (by omega) (by omega) ?_
  exact zlXe (E := 23) hP ⟨hZ, zK_r, zN_k rfl⟩

/- yX11_round -/
def zg_237 (a1 : Int) (a2 : Int) (a3 : Int) : Int × Int := (0, 24)
theorem sg_237 {Z : qz_Z} {ν : qz_N} (hZ : zI none Z) (hF : zF Z) {a1 : Int} (ga1 : -2147483648 ≤ a1 ∧ a1 ≤ 2147483647) {a2 : Int} (ga2 : -2147483648 ≤ a2 ∧ a2 ≤ 2147483647) {a3 : Int} (ga3 : -2147483648 ≤ a3 ∧ a3 ≤ 2147483647) : ∃ (Z1 : qz_Z) (ν1 : qz_N) (v E : Int), (v, E) = zg_237 a1 a2 a3 ∧ qf_237 [.inr (.inr (some (0, 0, 0))), .inl (i3 a1), .inl (i3 a2), .inl (i3 a3)] (zm Z ν) = some (zm Z1 ν1, zoX v E) ∧ (fun Z1 ν1 => zI none Z1 ∧ zK [] Z Z1 ∧ zN ν ν1) Z1 ν1 := by
  obtain ⟨P, hP⟩ := zx (zg_237 a1 a2 a3)
  refine zc_X (Q := fun Z1 ν1 => zI none Z1 ∧ zK [] Z Z1 ∧ zN ν ν1) hP (fw_237 (i3 a1) (i3 a2) (i3 a3) _ _ ?_)
  replace hP : zE P (zg_237 a1 a2 a3) := hP
  unfold zg_237 at hP
  refine wz_thing_n (rfl : i3 a1 = i3 a1) (Eq.trans (zm_rd (Z := Z) (ν := ν) (k := 11) (show ((0 : Nat) : Int) = 0 from rfl) (show ((0 : Nat) : Int) = 0 from rfl) (show ((9 : Nat) : Int) = 9 from rfl)) (congrArg i3 ((hF 11 0 9 (by decide)).trans ((show frz 11 0 9 = 0 from by decide))))) (by omega) (by omega) (by omega) (by omega) (by omega) ?_
  exact zlXe (E := 23) hP ⟨hZ, zK_r, zN_k rfl⟩

/- yX11_worst -/
def zg_255 (a1 : Int) (a2 : Int) : Int × Int := (0, 24)
theorem sg_255 {Z : qz_Z} {ν : qz_N} (hZ : zI none Z) (hF : zF Z) {a1 : Int} (ga1 : -2147483648 ≤ a1 ∧ a1 ≤ 2147483647) {a2 : Int} (ga2 : -2147483648 ≤ a2 ∧ a2 ≤ 2147483647) : ∃ (Z1 : qz_Z) (ν1 : qz_N) (v E : Int), (v, E) = zg_255 a1 a2 ∧ qf_255 [.inr (.inr (some (0, 0, 0))), .inl (i3 a1), .inl (i3 a2)] (zm Z ν) = some (zm Z1 ν1, zoX v E) ∧ (fun Z1 ν1 => zI none Z1 ∧ zK [] Z Z1 ∧ zN ν ν1) Z1 ν1 := by
  obtain ⟨P, hP⟩ := zx (zg_255 a1 a2)
  refine zc_X (Q := fun Z1 ν1 => zI none Z1 ∧ zK [] Z Z1 ∧ zN ν ν1) hP (fw_255 (i3 a1) (i3 a2) _ _ ?_)
  replace hP : zE P (zg_255 a1 a2) := hP
  unfold zg_255 at hP
  refine wz_thing_n (rfl : i3 a1 = i3 a1) (Eq.trans (zm_rd (Z := Z) (ν := ν) (k := 11) (show ((0 : Nat) : Int) = 0 from rfl) (show ((0 : Nat) : Int) = 0 from rfl) (show ((9 : Nat) : Int) = 9 from rfl)) (congrArg i3 ((hF 11 0 9 (by decide)).trans ((show frz 11 0 9 = 0 from by decide))))) (by omega) (by omega) (by omega) (by omega) (by omega) ?_
  exact zlXe (E := 23) hP ⟨hZ, zK_r, zN_k rfl⟩

/- yX11_entry -/
def zg_199 (a1 : Int) (a2 : Int) : Int × Int := (0, 24)
theorem sg_199 {Z : qz_Z} {ν : qz_N} (hZ : zI none Z) (hF : zF Z) {a1 : Int} (ga1 : -2147483648 ≤ a1 ∧ a1 ≤ 2147483647) {a2 : Int} (ga2 : -2147483648 ≤ a2 ∧ a2 ≤ 2147483647) : ∃ (Z1 : qz_Z) (ν1 : qz_N) (v E : Int), (v, E) = zg_199 a1 a2 ∧ qf_199 [.inr (.inr (some (0, 0, 0))), .inl (i3 a1), .inl (i3 a2)] (zm Z ν) = some (zm Z1 ν1, zoX v E) ∧ (fun Z1 ν1 => zI none Z1 ∧ zK [] Z Z1 ∧ zN ν ν1) Z1 ν1 := by
  obtain ⟨P, hP⟩ := zx (zg_199 a1 a2)
  refine zc_X (Q := fun Z1 ν1 => zI none Z1 ∧ zK [] Z Z1 ∧ zN ν ν1) hP (fw_199 (i3 a1) (i3 a2) _ _ ?_)
  replace hP : zE P (zg_199 a1 a2) := hP
  unfold zg_199 at hP
  refine wz_thing_n (rfl : i3 a1 = i3 a1) (i3Mn (show (60 : Int32) = i3 60 from rfl) (Eq.trans (zm_rd (Z := Z) (ν := ν) (k := 11) (show ((0 : Nat) : Int) = 0 from rfl) (show ((0 : Nat) : Int) = 0 from rfl) (show ((12 : Nat) : Int) = 12 from rfl)) (congrArg i3 ((hF 11 0 12 (by decide)).trans ((show frz 11 0 12 = 0 from by decide))))) (by omega) (by omega) (by omega) (by omega)) (by omega) (by omega) (by omega) (by omega) (by omega) ?_
  exact zlXe (E := 23) hP ⟨hZ, zK_r, zN_k rfl⟩

/- yX11_quarrelled -/
def zg_232 (a1 : Int) (a2 : Int) : Int × Int := (0, 24)
theorem sg_232 {Z : qz_Z} {ν : qz_N} (hZ : zI none Z) (hF : zF Z) {a1 : Int} (ga1 : -2147483648 ≤ a1 ∧ a1 ≤ 2147483647) {a2 : Int} (ga2 : -2147483648 ≤ a2 ∧ a2 ≤ 2147483647) : ∃ (Z1 : qz_Z) (ν1 : qz_N) (v E : Int), (v, E) = zg_232 a1 a2 ∧ qf_232 [.inr (.inr (some (0, 0, 0))), .inl (i3 a1), .inl (i3 a2)] (zm Z ν) = some (zm Z1 ν1, zoX v E) ∧ (fun Z1 ν1 => zI none Z1 ∧ zK [] Z Z1 ∧ zN ν ν1) Z1 ν1 := by
  obtain ⟨P, hP⟩ := zx (zg_232 a1 a2)
  refine zc_X (Q := fun Z1 ν1 => zI none Z1 ∧ zK [] Z Z1 ∧ zN ν ν1) hP (fw_232 (i3 a1) (i3 a2) _ _ ?_)
  replace hP : zE P (zg_232 a1 a2) := hP
  unfold zg_232 at hP
  refine wz_thing_n (rfl : i3 a1 = i3 a1) (Eq.trans (zm_rd (Z := Z) (ν := ν) (k := 11) (show ((0 : Nat) : Int) = 0 from rfl) (show ((0 : Nat) : Int) = 0 from rfl) (show ((10 : Nat) : Int) = 10 from rfl)) (congrArg i3 ((hF 11 0 10 (by decide)).trans ((show frz 11 0 10 = 0 from by decide))))) (by omega) (by omega) (by omega) (by omega) (by omega) ?_
  exact zlXe (E := 23) hP ⟨hZ, zK_r, zN_k rfl⟩

/- yX11_tasks -/
def zg_248 : Int × Int := ((-2), 0)
theorem sg_248 {Z : qz_Z} {ν : qz_N} (hZ : zI none Z) (hF : zF Z) : ∃ (Z1 : qz_Z) (ν1 : qz_N) (v E : Int), (v, E) = zg_248 ∧ qf_248 [.inr (.inr (some (0, 0, 0)))] (zm Z ν) = some (zm Z1 ν1, zoX v E) ∧ (fun Z1 ν1 => zI none Z1 ∧ zK [4] Z Z1 ∧ zN ν ν1) Z1 ν1 := by
  obtain ⟨P, hP⟩ := zx (zg_248)
  refine zc_X (Q := fun Z1 ν1 => zI none Z1 ∧ zK [4] Z Z1 ∧ zN ν ν1) hP (fw_248  _ _ ?_)
  replace hP : zE P (zg_248) := hP
  unfold zg_248 at hP
  refine fw_151  _ _ ?_
  refine wz_l0 sb_151_1 (fb_151_1 (i3 0) (i3 0) _ _ _ _ (zconso rfl (zconso rfl (zconso (zvo (show (0 : Int32) = i3 0 from rfl)) (zconso (zvo (show (0 : Int32) = i3 0 from rfl)) rfl)))) ?_)
  refine wz_i0 (Eq.trans (i3Le (show (120 : Int32) = i3 120 from rfl) (rfl : i3 0 = i3 0) (by omega) (by omega) (by omega) (by omega)) (decide_eq_false (by omega))) ?_
  refine wz_i0 (Eq.trans (i3L (rfl : i3 0 = i3 0) (show (0 : Int32) = i3 0 from rfl) (by omega) (by omega) (by omega) (by omega)) (decide_eq_false (by omega))) ?_
  refine wz_i1 (Eq.trans (i3Le (Eq.trans (zm_rd (Z := Z) (ν := ν) (k := 4) (show ((0 : Nat) : Int) = 0 from rfl) (show ((0 : Nat) : Int) = 0 from rfl) (show ((1 : Nat) : Int) = 1 from rfl)) (congrArg i3 ((hF 4 0 1 (by decide)).trans ((show frz 4 0 1 = 0 from by decide))))) (rfl : i3 0 = i3 0) (by omega) (by omega) (by omega) (by omega)) (decide_eq_true (by omega))) ?_
  refine wz_lk0 (wz_sk0 ?_)
  refine fc_151_2 (i3 0) _ _ _ _ (zconso rfl (zconso rfl (zconso (zvo (rfl : i3 0 = i3 0)) (zconso rfl rfl)))) ?_
  refine wz_i0 (Eq.trans (i3NE (Eq.trans (zm_rd (Z := Z) (ν := ν) (k := 4) (show ((0 : Nat) : Int) = 0 from rfl) (show ((0 : Nat) : Int) = 0 from rfl) (show ((1 : Nat) : Int) = 1 from rfl)) (congrArg i3 ((hF 4 0 1 (by decide)).trans ((show frz 4 0 1 = 0 from by decide))))) (show (0 : Int32) = i3 0 from rfl) (by omega) (by omega) (by omega) (by omega)) (decide_eq_false (by omega))) ?_
  refine wz_i1 (Eq.trans (i3NE (show (-2 : Int32) = i3 (-2) from rfl) (show (0 : Int32) = i3 0 from rfl) (by omega) (by omega) (by omega) (by omega)) (decide_eq_true (by omega))) ?_
  obtain ⟨Z1, hZ1⟩ := zx (zu Z 4 0 0 1 0)
  have hZ1I := zI_0 hZ hZ1 (by decide) (Or.inl (by decide))
  have hZ1K : zK [4] Z Z1 := zK_u zK_r hZ1 (by decide)
  intro μ9 e9
  replace e9 := e9.trans (zm_wI (Z := Z) (ν := ν) hZ1 (show ((0 : Nat) : Int) = 0 from rfl) (show ((0 : Nat) : Int) = 0 from rfl) (show ((1 : Nat) : Int) = 1 from rfl) (show (0 : Int32) = i3 0 from rfl))
  subst e9
  exact zlX hP (show (-2 : Int32) = i3 (-2) from rfl) ⟨hZ1I, hZ1K, zN_r⟩

/- yX11_sum -/
def zg_244 (a1 : Int) : Int × Int := (if 0 ≤ a1 ∧ a1 ≤ 23 then (if a1 < 21 ∨ 23 < a1 then (if a1 < 5 then (if a1 = 0 then (0, 0) else (if a1 = 1 then (0, 0) else (if a1 = 2 then (0, 0) else (if a1 = 3 then (0, 0) else (0, 0))))) else (if 9 < a1 then (if a1 < 13 then (if a1 = 10 then (0, 0) else (if a1 = 11 then (0, 0) else (0, 0))) else (if 16 < a1 then (if a1 < 0 ∨ 19 < a1 then (0, 0) else (if a1 = 17 then (0, 0) else (if a1 = 18 then (0, 0) else (0, 0)))) else (0, 0))) else (0, 0))) else (if a1 = 21 then (0, 0) else (if a1 = 22 then (0, 0) else (0, 0)))) else (0, 13))
theorem sg_244 {Z : qz_Z} {ν : qz_N} (hZ : zI none Z) (hF : zF Z) {a1 : Int} (ga1 : -2147483648 ≤ a1 ∧ a1 ≤ 2147483647) : ∃ (Z1 : qz_Z) (ν1 : qz_N) (v E : Int), (v, E) = zg_244 a1 ∧ qf_244 [.inr (.inr (some (0, 0, 0))), .inl (i3 a1)] (zm Z ν) = some (zm Z1 ν1, zoX v E) ∧ (fun Z1 ν1 => zI none Z1 ∧ zK [] Z Z1 ∧ zN ν ν1) Z1 ν1 := by
  obtain ⟨P, hP⟩ := zx (zg_244 a1)
  refine zc_X (Q := fun Z1 ν1 => zI none Z1 ∧ zK [] Z Z1 ∧ zN ν ν1) hP (fw_244 (i3 a1) _ _ ?_)
  replace hP : zE P (zg_244 a1) := hP
  unfold zg_244 at hP
  refine wz_inR (rfl : i3 a1 = i3 a1) (show (0 : Int32) = i3 0 from rfl) (show (23 : Int32) = i3 23 from rfl) (by omega) (by omega) (by omega) (by omega) (by omega) (by omega) (fun h1 => ?_) (fun h1 => ?_)
  · replace hP := zE_p hP h1
    refine wz_br (i3To (rfl : i3 a1 = i3 a1) (by omega) (by omega)) (fun h2 => ?_) (fun h2 => ?_)
    · replace hP := zE_p hP h2
      refine fw_124 _ _ _ _ ?_
      refine wz_br (i3L (rfl : i3 a1 = i3 a1) (show (5 : Int32) = i3 5 from rfl) (by omega) (by omega) (by omega) (by omega)) (fun h3 => ?_) (fun h3 => ?_)
      · replace hP := zE_p hP h3
        refine wz_i1 (Eq.trans (i3L (rfl : i3 a1 = i3 a1) (show (13 : Int32) = i3 13 from rfl) (by omega) (by omega) (by omega) (by omega)) (decide_eq_true (by omega))) ?_
        refine wz_i0 (Eq.trans (i3To (rfl : i3 a1 = i3 a1) (by omega) (by omega)) (decide_eq_false (by omega))) ?_
        refine wz_br (i3T (rfl : i3 a1 = i3 a1) (by omega) (by omega)) (fun h4 => ?_) (fun h4 => ?_)
        · replace hP := zE_p hP h4
          exact zlX hP (Eq.trans (zm_rd (Z := Z) (ν := ν) (k := 11) (show ((0 : Nat) : Int) = 0 from rfl) (show ((0 : Nat) : Int) = 0 from rfl) (show ((13 : Nat) : Int) = 13 from rfl)) (congrArg i3 ((hF 11 0 13 (by decide)).trans ((show frz 11 0 13 = 0 from by decide))))) ⟨hZ, zK_r, zN_r⟩
        · replace hP := zE_n hP h4
          refine wz_br (i3T (rfl : i3 a1 = i3 a1) (by omega) (by omega)) (fun h5 => ?_) (fun h5 => ?_)
          · replace hP := zE_p hP h5
            exact zlX hP (Eq.trans (zm_rd (Z := Z) (ν := ν) (k := 11) (show ((0 : Nat) : Int) = 0 from rfl) (show ((0 : Nat) : Int) = 0 from rfl) (show ((0 : Nat) : Int) = 0 from rfl)) (congrArg i3 ((hF 11 0 0 (by decide)).trans ((show frz 11 0 0 = 0 from by decide))))) ⟨hZ, zK_r, zN_r⟩
          · replace hP := zE_n hP h5
            refine wz_br (i3T (rfl : i3 a1 = i3 a1) (by omega) (by omega)) (fun h6 => ?_) (fun h6 => ?_)
            · replace hP := zE_p hP h6
              exact zlX hP (Eq.trans (zm_rd (Z := Z) (ν := ν) (k := 11) (show ((0 : Nat) : Int) = 0 from rfl) (show ((0 : Nat) : Int) = 0 from rfl) (show ((1 : Nat) : Int) = 1 from rfl)) (congrArg i3 ((hF 11 0 1 (by decide)).trans ((show frz 11 0 1 = 0 from by decide))))) ⟨hZ, zK_r, zN_r⟩
            · replace hP := zE_n hP h6
              refine wz_br (i3T (rfl : i3 a1 = i3 a1) (by omega) (by omega)) (fun h7 => ?_) (fun h7 => ?_)
              · replace hP := zE_p hP h7
                exact zlX hP (Eq.trans (zm_rd (Z := Z) (ν := ν) (k := 11) (show ((0 : Nat) : Int) = 0 from rfl) (show ((0 : Nat) : Int) = 0 from rfl) (show ((2 : Nat) : Int) = 2 from rfl)) (congrArg i3 ((hF 11 0 2 (by decide)).trans ((show frz 11 0 2 = 0 from by decide))))) ⟨hZ, zK_r, zN_r⟩
              · replace hP := zE_n hP h7
                refine wz_i1 (Eq.trans (i3T (rfl : i3 a1 = i3 a1) (by omega) (by omega)) (decide_eq_true (by omega))) ?_
                exact zlX hP (Eq.trans (zm_rd (Z := Z) (ν := ν) (k := 11) (show ((0 : Nat) : Int) = 0 from rfl) (show ((0 : Nat) : Int) = 0 from rfl) (show ((3 : Nat) : Int) = 3 from rfl)) (congrArg i3 ((hF 11 0 3 (by decide)).trans ((show frz 11 0 3 = 0 from by decide))))) ⟨hZ, zK_r, zN_r⟩
      · replace hP := zE_n hP h3
        refine wz_br (i3L (show (9 : Int32) = i3 9 from rfl) (rfl : i3 a1 = i3 a1) (by omega) (by omega) (by omega) (by omega)) (fun h8 => ?_) (fun h8 => ?_)
        · replace hP := zE_p hP h8
          refine wz_br (i3L (rfl : i3 a1 = i3 a1) (show (13 : Int32) = i3 13 from rfl) (by omega) (by omega) (by omega) (by omega)) (fun h9 => ?_) (fun h9 => ?_)
          · replace hP := zE_p hP h9
            refine wz_i0 (Eq.trans (i3To (rfl : i3 a1 = i3 a1) (by omega) (by omega)) (decide_eq_false (by omega))) ?_
            refine wz_i0 (Eq.trans (i3T (rfl : i3 a1 = i3 a1) (by omega) (by omega)) (decide_eq_false (by omega))) ?_
            refine wz_i0 (Eq.trans (i3T (rfl : i3 a1 = i3 a1) (by omega) (by omega)) (decide_eq_false (by omega))) ?_
            refine wz_i0 (Eq.trans (i3T (rfl : i3 a1 = i3 a1) (by omega) (by omega)) (decide_eq_false (by omega))) ?_
            refine wz_i0 (Eq.trans (i3T (rfl : i3 a1 = i3 a1) (by omega) (by omega)) (decide_eq_false (by omega))) ?_
            refine wz_i0 (Eq.trans (i3T (rfl : i3 a1 = i3 a1) (by omega) (by omega)) (decide_eq_false (by omega))) ?_
            refine wz_i0 (Eq.trans (i3T (rfl : i3 a1 = i3 a1) (by omega) (by omega)) (decide_eq_false (by omega))) ?_
            refine wz_i0 (Eq.trans (i3T (rfl : i3 a1 = i3 a1) (by omega) (by omega)) (decide_eq_false (by omega))) ?_
            refine wz_i0 (Eq.trans (i3T (rfl : i3 a1 = i3 a1) (by omega) (by omega)) (decide_eq_false (by omega))) ?_
            refine wz_i0 (Eq.trans (i3T (rfl : i3 a1 = i3 a1) (by omega) (by omega)) (decide_eq_false (by omega))) ?_
            refine wz_i0 (Eq.trans (i3T (rfl : i3 a1 = i3 a1) (by omega) (by omega)) (decide_eq_false (by omega))) ?_
            refine wz_br (i3T (rfl : i3 a1 = i3 a1) (by omega) (by omega)) (fun h10 => ?_) (fun h10 => ?_)
            · replace hP := zE_p hP h10
              exact zlX hP (Eq.trans (zm_rd (Z := Z) (ν := ν) (k := 11) (show ((0 : Nat) : Int) = 0 from rfl) (show ((0 : Nat) : Int) = 0 from rfl) (show ((4 : Nat) : Int) = 4 from rfl)) (congrArg i3 ((hF 11 0 4 (by decide)).trans ((show frz 11 0 4 = 0 from by decide))))) ⟨hZ, zK_r, zN_r⟩
            · replace hP := zE_n hP h10
              refine wz_br (i3T (rfl : i3 a1 = i3 a1) (by omega) (by omega)) (fun h11 => ?_) (fun h11 => ?_)
              · replace hP := zE_p hP h11
                exact zlX hP (Eq.trans (zm_rd (Z := Z) (ν := ν) (k := 11) (show ((0 : Nat) : Int) = 0 from rfl) (show ((0 : Nat) : Int) = 0 from rfl) (show ((5 : Nat) : Int) = 5 from rfl)) (congrArg i3 ((hF 11 0 5 (by decide)).trans ((show frz 11 0 5 = 0 from by decide))))) ⟨hZ, zK_r, zN_r⟩
              · replace hP := zE_n hP h11
                refine wz_i1 (Eq.trans (i3T (rfl : i3 a1 = i3 a1) (by omega) (by omega)) (decide_eq_true (by omega))) ?_
                exact zlX hP (Eq.trans (zm_rd (Z := Z) (ν := ν) (k := 11) (show ((0 : Nat) : Int) = 0 from rfl) (show ((0 : Nat) : Int) = 0 from rfl) (show ((6 : Nat) : Int) = 6 from rfl)) (congrArg i3 ((hF 11 0 6 (by decide)).trans ((show frz 11 0 6 = 0 from by decide))))) ⟨hZ, zK_r, zN_r⟩
          · replace hP := zE_n hP h9
            refine wz_br (i3L (show (16 : Int32) = i3 16 from rfl) (rfl : i3 a1 = i3 a1) (by omega) (by omega) (by omega) (by omega)) (fun h12 => ?_) (fun h12 => ?_)
            · replace hP := zE_p hP h12
              refine wz_br (i3To (rfl : i3 a1 = i3 a1) (by omega) (by omega)) (fun h13 => ?_) (fun h13 => ?_)
              · replace hP := zE_p hP h13
                exact zlX hP (Eq.trans (zm_rd (Z := Z) (ν := ν) (k := 11) (show ((0 : Nat) : Int) = 0 from rfl) (show ((0 : Nat) : Int) = 0 from rfl) (show ((10 : Nat) : Int) = 10 from rfl)) (congrArg i3 ((hF 11 0 10 (by decide)).trans ((show frz 11 0 10 = 0 from by decide))))) ⟨hZ, zK_r, zN_r⟩
              · replace hP := zE_n hP h13
                refine wz_i0 (Eq.trans (i3T (rfl : i3 a1 = i3 a1) (by omega) (by omega)) (decide_eq_false (by omega))) ?_
                refine wz_i0 (Eq.trans (i3T (rfl : i3 a1 = i3 a1) (by omega) (by omega)) (decide_eq_false (by omega))) ?_
                refine wz_i0 (Eq.trans (i3T (rfl : i3 a1 = i3 a1) (by omega) (by omega)) (decide_eq_false (by omega))) ?_
                refine wz_i0 (Eq.trans (i3T (rfl : i3 a1 = i3 a1) (by omega) (by omega)) (decide_eq_false (by omega))) ?_
                refine wz_i0 (Eq.trans (i3T (rfl : i3 a1 = i3 a1) (by omega) (by omega)) (decide_eq_false (by omega))) ?_
                refine wz_i0 (Eq.trans (i3T (rfl : i3 a1 = i3 a1) (by omega) (by omega)) (decide_eq_false (by omega))) ?_
                refine wz_i0 (Eq.trans (i3T (rfl : i3 a1 = i3 a1) (by omega) (by omega)) (decide_eq_false (by omega))) ?_
                refine wz_i0 (Eq.trans (i3T (rfl : i3 a1 = i3 a1) (by omega) (by omega)) (decide_eq_false (by omega))) ?_
                refine wz_i0 (Eq.trans (i3T (rfl : i3 a1 = i3 a1) (by omega) (by omega)) (decide_eq_false (by omega))) ?_
                refine wz_i0 (Eq.trans (i3T (rfl : i3 a1 = i3 a1) (by omega) (by omega)) (decide_eq_false (by omega))) ?_
                refine wz_i0 (Eq.trans (i3T (rfl : i3 a1 = i3 a1) (by omega) (by omega)) (decide_eq_false (by omega))) ?_
                refine wz_i0 (Eq.trans (i3T (rfl : i3 a1 = i3 a1) (by omega) (by omega)) (decide_eq_false (by omega))) ?_
                refine wz_i0 (Eq.trans (i3T (rfl : i3 a1 = i3 a1) (by omega) (by omega)) (decide_eq_false (by omega))) ?_
                refine wz_i0 (Eq.trans (i3T (rfl : i3 a1 = i3 a1) (by omega) (by omega)) (decide_eq_false (by omega))) ?_
                refine wz_i0 (Eq.trans (i3T (rfl : i3 a1 = i3 a1) (by omega) (by omega)) (decide_eq_false (by omega))) ?_
                refine wz_i0 (Eq.trans (i3T (rfl : i3 a1 = i3 a1) (by omega) (by omega)) (decide_eq_false (by omega))) ?_
                refine wz_i0 (Eq.trans (i3T (rfl : i3 a1 = i3 a1) (by omega) (by omega)) (decide_eq_false (by omega))) ?_
                refine wz_br (i3T (rfl : i3 a1 = i3 a1) (by omega) (by omega)) (fun h14 => ?_) (fun h14 => ?_)
                · replace hP := zE_p hP h14
                  exact zlX hP (Eq.trans (zm_rd (Z := Z) (ν := ν) (k := 11) (show ((0 : Nat) : Int) = 0 from rfl) (show ((0 : Nat) : Int) = 0 from rfl) (show ((7 : Nat) : Int) = 7 from rfl)) (congrArg i3 ((hF 11 0 7 (by decide)).trans ((show frz 11 0 7 = 0 from by decide))))) ⟨hZ, zK_r, zN_r⟩
                · replace hP := zE_n hP h14
                  refine wz_br (i3T (rfl : i3 a1 = i3 a1) (by omega) (by omega)) (fun h15 => ?_) (fun h15 => ?_)
                  · replace hP := zE_p hP h15
                    exact zlX hP (Eq.trans (zm_rd (Z := Z) (ν := ν) (k := 11) (show ((0 : Nat) : Int) = 0 from rfl) (show ((0 : Nat) : Int) = 0 from rfl) (show ((8 : Nat) : Int) = 8 from rfl)) (congrArg i3 ((hF 11 0 8 (by decide)).trans ((show frz 11 0 8 = 0 from by decide))))) ⟨hZ, zK_r, zN_r⟩
                  · replace hP := zE_n hP h15
                    refine wz_i1 (Eq.trans (i3T (rfl : i3 a1 = i3 a1) (by omega) (by omega)) (decide_eq_true (by omega))) ?_
                    exact zlX hP (Eq.trans (zm_rd (Z := Z) (ν := ν) (k := 11) (show ((0 : Nat) : Int) = 0 from rfl) (show ((0 : Nat) : Int) = 0 from rfl) (show ((9 : Nat) : Int) = 9 from rfl)) (congrArg i3 ((hF 11 0 9 (by decide)).trans ((show frz 11 0 9 = 0 from by decide))))) ⟨hZ, zK_r, zN_r⟩
            · replace hP := zE_n hP h12
              refine fw_114 _ _ _ _ _ _ _ ?_
              refine wz_l0 sb_114_1 (fb_114_1 _ _ (i3 6) (i3 9) (i3 (a1 - 13)) (i3 0) (i3 0) _ _ _ _ (zconso rfl (zconso rfl (zconso (zvo (show (6 : Int32) = i3 6 from rfl)) (zconso (zvo (show (9 : Int32) = i3 9 from rfl)) (zconso (zvo (i3S (rfl : i3 a1 = i3 a1) (show (13 : Int32) = i3 13 from rfl))) (zconso (zvo (show (0 : Int32) = i3 0 from rfl)) (zconso (zvo (show (0 : Int32) = i3 0 from rfl)) rfl))))))) ?_)
              refine wz_i0 (i3O (n := 17) (rfl : i3 6 = i3 6) (by omega) (by omega) (by omega)) ?_
              refine wz_i1 (Eq.trans (i3Le (Eq.trans (zm_rd (Z := Z) (ν := ν) (k := 11) (show ((0 : Nat) : Int) = 0 from rfl) (show ((0 : Nat) : Int) = 0 from rfl) (i3I (y := 6) (rfl : i3 6 = i3 6) (by omega) (by omega) (by omega))) (congrArg i3 ((hF 11 0 6 (by decide)).trans ((show frz 11 0 6 = 0 from by decide))))) (rfl : i3 0 = i3 0) (by omega) (by omega) (by omega) (by omega)) (decide_eq_true (by omega))) ?_
              refine wz_lk0 (wz_sk0 ?_)
              refine fc_114_2 (i3 0) _ _ _ _ (zconso rfl (zconso rfl (zconso rfl (zconso rfl (zconso rfl (zconso (zvo (rfl : i3 0 = i3 0)) (zconso rfl rfl))))))) ?_
              exact zlX hP (rfl : i3 0 = i3 0) ⟨hZ, zK_r, zN_r⟩
        · replace hP := zE_n hP h8
          refine fw_114 _ _ _ _ _ _ _ ?_
          refine wz_l0 sb_114_1 (fb_114_1 _ _ (i3 3) (i3 10) (i3 (a1 - 5)) (i3 0) (i3 0) _ _ _ _ (zconso rfl (zconso rfl (zconso (zvo (show (3 : Int32) = i3 3 from rfl)) (zconso (zvo (show (10 : Int32) = i3 10 from rfl)) (zconso (zvo (i3S (rfl : i3 a1 = i3 a1) (show (5 : Int32) = i3 5 from rfl))) (zconso (zvo (show (0 : Int32) = i3 0 from rfl)) (zconso (zvo (show (0 : Int32) = i3 0 from rfl)) rfl))))))) ?_)
          refine wz_i0 (i3O (n := 17) (rfl : i3 3 = i3 3) (by omega) (by omega) (by omega)) ?_
          refine wz_i1 (Eq.trans (i3Le (Eq.trans (zm_rd (Z := Z) (ν := ν) (k := 11) (show ((0 : Nat) : Int) = 0 from rfl) (show ((0 : Nat) : Int) = 0 from rfl) (i3I (y := 3) (rfl : i3 3 = i3 3) (by omega) (by omega) (by omega))) (congrArg i3 ((hF 11 0 3 (by decide)).trans ((show frz 11 0 3 = 0 from by decide))))) (rfl : i3 0 = i3 0) (by omega) (by omega) (by omega) (by omega)) (decide_eq_true (by omega))) ?_
          refine wz_lk0 (wz_sk0 ?_)
          refine fc_114_2 (i3 0) _ _ _ _ (zconso rfl (zconso rfl (zconso rfl (zconso rfl (zconso rfl (zconso (zvo (rfl : i3 0 = i3 0)) (zconso rfl rfl))))))) ?_
          exact zlX hP (rfl : i3 0 = i3 0) ⟨hZ, zK_r, zN_r⟩
    · replace hP := zE_n hP h2
      refine wz_br (i3T (rfl : i3 a1 = i3 a1) (by omega) (by omega)) (fun h16 => ?_) (fun h16 => ?_)
      · replace hP := zE_p hP h16
        exact zlX hP (Eq.trans (zm_rd (Z := Z) (ν := ν) (k := 11) (show ((0 : Nat) : Int) = 0 from rfl) (show ((0 : Nat) : Int) = 0 from rfl) (show ((15 : Nat) : Int) = 15 from rfl)) (congrArg i3 ((hF 11 0 15 (by decide)).trans ((show frz 11 0 15 = 0 from by decide))))) ⟨hZ, zK_r, zN_r⟩
      · replace hP := zE_n hP h16
        refine wz_br (i3T (rfl : i3 a1 = i3 a1) (by omega) (by omega)) (fun h17 => ?_) (fun h17 => ?_)
        · replace hP := zE_p hP h17
          exact zlX hP (Eq.trans (zm_rd (Z := Z) (ν := ν) (k := 3) (show ((0 : Nat) : Int) = 0 from rfl) (show ((0 : Nat) : Int) = 0 from rfl) (show ((8 : Nat) : Int) = 8 from rfl)) (congrArg i3 ((hF 3 0 8 (by decide)).trans ((show frz 3 0 8 = 0 from by decide))))) ⟨hZ, zK_r, zN_r⟩
        · replace hP := zE_n hP h17
          refine wz_i1 (Eq.trans (i3T (rfl : i3 a1 = i3 a1) (by omega) (by omega)) (decide_eq_true (by omega))) ?_
          exact zlX hP (Eq.trans (zm_rd (Z := Z) (ν := ν) (k := 4) (show ((0 : Nat) : Int) = 0 from rfl) (show ((0 : Nat) : Int) = 0 from rfl) (show ((1 : Nat) : Int) = 1 from rfl)) (congrArg i3 ((hF 4 0 1 (by decide)).trans ((show frz 4 0 1 = 0 from by decide))))) ⟨hZ, zK_r, zN_r⟩
  · replace hP := zE_n hP h1
    exact zlXe (E := 12) hP ⟨hZ, zK_r, zN_k rfl⟩
