/-! the face at a new object, 4 (printed by api.py) -/
/- yX11_deliver -/
def zg_195 (a1 : Int) (a2 : Int) (a3 : Int) (a4 : Int) (a5 : Int) : Int × Int := (0, 24)
theorem sg_195 {Z : qz_Z} {ν : qz_N} (hZ : zI none Z) (hF : zF Z) {a1 : Int} (ga1 : -2147483648 ≤ a1 ∧ a1 ≤ 2147483647) {a2 : Int} (ga2 : -2147483648 ≤ a2 ∧ a2 ≤ 2147483647) {a3 : Int} (ga3 : -2147483648 ≤ a3 ∧ a3 ≤ 2147483647) {a4 : Int} (ga4 : -2147483648 ≤ a4 ∧ a4 ≤ 2147483647) {a5 : Int} (ga5 : -2147483648 ≤ a5 ∧ a5 ≤ 2147483647) : ∃ (Z1 : qz_Z) (ν1 : qz_N) (v E : Int), (v, E) = zg_195 a1 a2 a3 a4 a5 ∧ qf_195 [.inr (.inr (some (0, 0, 0))), .inl (i3 a1), .inl (i3 a2), .inl (i3 a3), .inl (i3 a4), .inl (i3 a5)] (zm Z ν) = some (zm Z1 ν1, zoX v E) ∧ (fun Z1 ν1 => zI none Z1 ∧ zK [] Z Z1 ∧ zN ν ν1) Z1 ν1 := by
  obtain ⟨P, hP⟩ := zx (zg_195 a1 a2 a3 a4 a5)
  refine zc_X (Q := fun Z1 ν1 => zI none Z1 ∧ zK [] Z Z1 ∧ zN ν ν1) hP (fw_195 (i3 a1) (i3 a2) (i3 a3) (i3 a4) (i3 a5) _ _ ?_)
  replace hP : zE P (zg_195 a1 a2 a3 a4 a5) := hP
  unfold zg_195 at hP
  refine wz_thing_n (rfl : i3 a1 = i3 a1) (Eq.trans (zm_rd (Z := Z) (ν := ν) (k := 11) (show ((0 : Nat) : Int) = 0 from rfl) (show ((0 : Nat) : Int) = 0 from rfl) (show ((1 : Nat) : Int) = 1 from rfl)) (congrArg i3 ((hF 11 0 1 (by decide)).trans ((show frz 11 0 1 = 0 from by decide))))) (by omega) (by omega) (by omega) (by omega) (by omega) ?_
  exact zlXe (E := 23) hP ⟨hZ, zK_r, zN_k rfl⟩

/- yX11_room -/
def zg_236 (a1 : Int) (a2 : Int) (a3 : Int) : Int × Int := (if 1 ≤ a1 ∧ a1 ≤ 12 then (if 0 ≤ a2 ∧ a2 ≤ 9 then (if 0 ≤ a3 ∧ a3 ≤ 9 then (0, 0) else (0, 13)) else (0, 13)) else (0, 13))
theorem sg_236 {Z : qz_Z} {ν : qz_N} (hZ : zI none Z) (hF : zF Z) {a1 : Int} (ga1 : -2147483648 ≤ a1 ∧ a1 ≤ 2147483647) {a2 : Int} (ga2 : -2147483648 ≤ a2 ∧ a2 ≤ 2147483647) {a3 : Int} (ga3 : -2147483648 ≤ a3 ∧ a3 ≤ 2147483647) : ∃ (Z1 : qz_Z) (ν1 : qz_N) (v E : Int), (v, E) = zg_236 a1 a2 a3 ∧ qf_236 [.inr (.inr (some (0, 0, 0))), .inl (i3 a1), .inl (i3 a2), .inl (i3 a3)] (zm Z ν) = some (zm Z1 ν1, zoX v E) ∧ (fun Z1 ν1 => zI none Z1 ∧ zK [3, 11, 12, 13, 14, 40, 41, 42, 43, 44, 45, 46, 47, 48, 49, 50, 51, 52, 53, 54, 61, 68] Z Z1 ∧ zN ν ν1) Z1 ν1 := by
  obtain ⟨P, hP⟩ := zx (zg_236 a1 a2 a3)
  refine zc_X (Q := fun Z1 ν1 => zI none Z1 ∧ zK [3, 11, 12, 13, 14, 40, 41, 42, 43, 44, 45, 46, 47, 48, 49, 50, 51, 52, 53, 54, 61, 68] Z Z1 ∧ zN ν ν1) hP (fw_236 (i3 a1) (i3 a2) (i3 a3) _ _ ?_)
  replace hP : zE P (zg_236 a1 a2 a3) := hP
  unfold zg_236 at hP
  refine wz_inR (rfl : i3 a1 = i3 a1) (show (1 : Int32) = i3 1 from rfl) (show (12 : Int32) = i3 12 from rfl) (by omega) (by omega) (by omega) (by omega) (by omega) (by omega) (fun h1 => ?_) (fun h1 => ?_)
  · replace hP := zE_p hP h1
    refine wz_inR (rfl : i3 a2 = i3 a2) (show (0 : Int32) = i3 0 from rfl) (show (9 : Int32) = i3 9 from rfl) (by omega) (by omega) (by omega) (by omega) (by omega) (by omega) (fun h2 => ?_) (fun h2 => ?_)
    · replace hP := zE_p hP h2
      refine wz_inR (rfl : i3 a3 = i3 a3) (show (0 : Int32) = i3 0 from rfl) (show (9 : Int32) = i3 9 from rfl) (by omega) (by omega) (by omega) (by omega) (by omega) (by omega) (fun h3 => ?_) (fun h3 => ?_)
      · replace hP := zE_p hP h3
        refine wz_i0 (Eq.trans (i3Le (show (6 : Int32) = i3 6 from rfl) (Eq.trans (zm_rd (Z := Z) (ν := ν) (k := 11) (show ((0 : Nat) : Int) = 0 from rfl) (show ((0 : Nat) : Int) = 0 from rfl) (show ((2 : Nat) : Int) = 2 from rfl)) (congrArg i3 ((hF 11 0 2 (by decide)).trans ((show frz 11 0 2 = 0 from by decide))))) (by omega) (by omega) (by omega) (by omega)) (decide_eq_false (by omega))) ?_
        refine wz_inT_y (show (1 : Int32) = i3 1 from rfl) (by omega) (by omega) (by omega) ?_
        refine dc_J (zcons rfl (zcons (zvi (show (4 : Int32) = i3 4 from rfl)) (zcons (zvi (rfl : i3 a1 = i3 a1)) (zcons (zvi (rfl : i3 a2 = i3 a2)) (zcons (zvi (rfl : i3 a3 = i3 a3)) (zcons (zvi (show (0 : Int32) = i3 0 from rfl)) (zcons (zvi (show (0 : Int32) = i3 0 from rfl)) (zcons (zvi (show (0 : Int32) = i3 0 from rfl)) rfl)))))))) (dc_I (ws := [3, 11, 12, 13, 14, 40, 41, 42, 43, 44, 45, 46, 47, 48, 49, 50, 51, 52, 53, 54, 61, 68]) (Z0 := Z) hF hZ zK_r (by decide) (by omega) (by omega) (by omega) (by omega) (by omega) (by omega) (by omega) (fun Z5 hZ5I hZ5F hZ5A hZ5K => ?_))
        refine fw_121 _ _ _ _ ?_
        refine wz_i1 rfl ?_
        refine wz_i0 (i3O (n := 7) (show (0 : Int32) = i3 0 from rfl) (by omega) (by omega) (by omega)) ?_
        refine wz_i0 (Eq.trans (i3To (Eq.trans (zm_rd (Z := Z5) (ν := ν) (k := 68) (show ((0 : Nat) : Int) = 0 from rfl) (show ((0 : Nat) : Int) = 0 from rfl) (show ((0 : Nat) : Int) = 0 from rfl)) (congrArg i3 ((hZ5A.1)))) (by omega) (by omega)) (decide_eq_false (by omega))) ?_
        refine wz_i0 (Eq.trans (i3T (Eq.trans (zm_rd (Z := Z5) (ν := ν) (k := 68) (show ((0 : Nat) : Int) = 0 from rfl) (show ((0 : Nat) : Int) = 0 from rfl) (show ((0 : Nat) : Int) = 0 from rfl)) (congrArg i3 ((hZ5A.1)))) (by omega) (by omega)) (decide_eq_false (by omega))) ?_
        refine wz_i0 (Eq.trans (i3T (Eq.trans (zm_rd (Z := Z5) (ν := ν) (k := 68) (show ((0 : Nat) : Int) = 0 from rfl) (show ((0 : Nat) : Int) = 0 from rfl) (show ((0 : Nat) : Int) = 0 from rfl)) (congrArg i3 ((hZ5A.1)))) (by omega) (by omega)) (decide_eq_false (by omega))) ?_
        refine wz_i0 (Eq.trans (i3T (Eq.trans (zm_rd (Z := Z5) (ν := ν) (k := 68) (show ((0 : Nat) : Int) = 0 from rfl) (show ((0 : Nat) : Int) = 0 from rfl) (show ((0 : Nat) : Int) = 0 from rfl)) (congrArg i3 ((hZ5A.1)))) (by omega) (by omega)) (decide_eq_false (by omega))) ?_
        refine wz_i0 (Eq.trans (i3T (Eq.trans (zm_rd (Z := Z5) (ν := ν) (k := 68) (show ((0 : Nat) : Int) = 0 from rfl) (show ((0 : Nat) : Int) = 0 from rfl) (show ((0 : Nat) : Int) = 0 from rfl)) (congrArg i3 ((hZ5A.1)))) (by omega) (by omega)) (decide_eq_false (by omega))) ?_
        refine wz_i1 (Eq.trans (i3T (Eq.trans (zm_rd (Z := Z5) (ν := ν) (k := 68) (show ((0 : Nat) : Int) = 0 from rfl) (show ((0 : Nat) : Int) = 0 from rfl) (show ((0 : Nat) : Int) = 0 from rfl)) (congrArg i3 ((hZ5A.1)))) (by omega) (by omega)) (decide_eq_true (by omega))) ?_
        refine wz_i1 rfl ?_
        refine wz_i0 (i3O (n := 7) (show (1 : Int32) = i3 1 from rfl) (by omega) (by omega) (by omega)) ?_
        refine wz_i1 rfl ?_
        refine wz_i0 (i3O (n := 7) (show (2 : Int32) = i3 2 from rfl) (by omega) (by omega) (by omega)) ?_
        refine wz_i1 rfl ?_
        refine wz_i0 (i3O (n := 7) (show (3 : Int32) = i3 3 from rfl) (by omega) (by omega) (by omega)) ?_
        refine wz_i0 (i3O (n := 6) (Eq.trans (zm_rd (Z := Z5) (ν := ν) (k := 11) (show ((0 : Nat) : Int) = 0 from rfl) (show ((0 : Nat) : Int) = 0 from rfl) (show ((2 : Nat) : Int) = 2 from rfl)) (congrArg i3 ((hZ5F 11 0 2 (by decide)).trans ((show frz 11 0 2 = 0 from by decide))))) (by omega) (by omega) (by omega)) ?_
        obtain ⟨Z6, hZ6⟩ := zx (zu Z5 43 0 0 0 a1)
        have hZ6I := zI_u hZ5I hZ6 (lo := 0) (hi := 12) (by decide) rfl (by omega) ⟨by decide, by decide⟩ (Or.inl (by decide))
        have hZ6K := zK_u hZ5K hZ6 (by decide)
        intro μ9 e9
        replace e9 := e9.trans (zm_wI (Z := Z5) (ν := ν) hZ6 (show ((0 : Nat) : Int) = 0 from rfl) (i3I (y := 0) (Eq.trans (zm_rd (Z := Z5) (ν := ν) (k := 11) (show ((0 : Nat) : Int) = 0 from rfl) (show ((0 : Nat) : Int) = 0 from rfl) (show ((2 : Nat) : Int) = 2 from rfl)) (congrArg i3 ((hZ5F 11 0 2 (by decide)).trans ((show frz 11 0 2 = 0 from by decide))))) (by omega) (by omega) (by omega)) (show ((0 : Nat) : Int) = 0 from rfl) (Eq.trans (zm_rd (Z := Z5) (ν := ν) (k := 68) (show ((0 : Nat) : Int) = 0 from rfl) (show ((0 : Nat) : Int) = 0 from rfl) (show ((1 : Nat) : Int) = 1 from rfl)) (congrArg i3 ((hZ5A.2.1)))))
        subst e9
        obtain ⟨Z7, hZ7⟩ := zx (zu Z6 43 0 0 1 a2)
        have hZ7I := zI_u hZ6I hZ7 (lo := 0) (hi := 9) (by decide) rfl (by omega) ⟨by decide, by decide⟩ (Or.inl (by decide))
        have hZ7K := zK_u hZ6K hZ7 (by decide)
        intro μ9 e9
        replace e9 := e9.trans (zm_wI (Z := Z6) (ν := ν) hZ7 (show ((0 : Nat) : Int) = 0 from rfl) (i3I (y := 0) (Eq.trans (zm_rd (Z := Z5) (ν := ν) (k := 11) (show ((0 : Nat) : Int) = 0 from rfl) (show ((0 : Nat) : Int) = 0 from rfl) (show ((2 : Nat) : Int) = 2 from rfl)) (congrArg i3 ((hZ5F 11 0 2 (by decide)).trans ((show frz 11 0 2 = 0 from by decide))))) (by omega) (by omega) (by omega)) (show ((1 : Nat) : Int) = 1 from rfl) (Eq.trans (zm_rd (Z := Z5) (ν := ν) (k := 68) (show ((0 : Nat) : Int) = 0 from rfl) (show ((0 : Nat) : Int) = 0 from rfl) (show ((2 : Nat) : Int) = 2 from rfl)) (congrArg i3 ((hZ5A.2.2.1)))))
        subst e9
        obtain ⟨Z8, hZ8⟩ := zx (zu Z7 43 0 0 2 a3)
        have hZ8I := zI_u hZ7I hZ8 (lo := 0) (hi := 9) (by decide) rfl (by omega) ⟨by decide, by decide⟩ (Or.inl (by decide))
        have hZ8K := zK_u hZ7K hZ8 (by decide)
        intro μ9 e9
        replace e9 := e9.trans (zm_wI (Z := Z7) (ν := ν) hZ8 (show ((0 : Nat) : Int) = 0 from rfl) (i3I (y := 0) (Eq.trans (zm_rd (Z := Z5) (ν := ν) (k := 11) (show ((0 : Nat) : Int) = 0 from rfl) (show ((0 : Nat) : Int) = 0 from rfl) (show ((2 : Nat) : Int) = 2 from rfl)) (congrArg i3 ((hZ5F 11 0 2 (by decide)).trans ((show frz 11 0 2 = 0 from by decide))))) (by omega) (by omega) (by omega)) (show ((2 : Nat) : Int) = 2 from rfl) (Eq.trans (zm_rd (Z := Z5) (ν := ν) (k := 68) (show ((0 : Nat) : Int) = 0 from rfl) (show ((0 : Nat) : Int) = 0 from rfl) (show ((3 : Nat) : Int) = 3 from rfl)) (congrArg i3 ((hZ5A.2.2.2.1)))))
        subst e9
        obtain ⟨Z9, hZ9⟩ := zx (zu Z8 43 0 0 3 18)
        have hZ9I := zI_u hZ8I hZ9 (lo := 0) (hi := 40) (by decide) rfl (by omega) ⟨by decide, by decide⟩ (Or.inl (by decide))
        have hZ9K := zK_u hZ8K hZ9 (by decide)
        intro μ9 e9
        replace e9 := e9.trans (zm_wI (Z := Z8) (ν := ν) hZ9 (show ((0 : Nat) : Int) = 0 from rfl) (i3I (y := 0) (Eq.trans (zm_rd (Z := Z5) (ν := ν) (k := 11) (show ((0 : Nat) : Int) = 0 from rfl) (show ((0 : Nat) : Int) = 0 from rfl) (show ((2 : Nat) : Int) = 2 from rfl)) (congrArg i3 ((hZ5F 11 0 2 (by decide)).trans ((show frz 11 0 2 = 0 from by decide))))) (by omega) (by omega) (by omega)) (show ((3 : Nat) : Int) = 3 from rfl) (show (18 : Int32) = i3 18 from rfl))
        subst e9
        refine wz_i0 (i3O (n := 28) (i3C (i3D (Eq.trans (zm_rd (Z := Z9) (ν := ν) (k := 11) (show ((0 : Nat) : Int) = 0 from rfl) (show ((0 : Nat) : Int) = 0 from rfl) (show ((13 : Nat) : Int) = 13 from rfl)) (congrArg i3 ((zu_ne (k' := 11) (b' := 0) (i' := 0) (j' := 13) hZ9 (fun q => absurd q.1 (by decide))).trans ((zu_ne (k' := 11) (b' := 0) (i' := 0) (j' := 13) hZ8 (fun q => absurd q.1 (by decide))).trans ((zu_ne (k' := 11) (b' := 0) (i' := 0) (j' := 13) hZ7 (fun q => absurd q.1 (by decide))).trans ((zu_ne (k' := 11) (b' := 0) (i' := 0) (j' := 13) hZ6 (fun q => absurd q.1 (by decide))).trans ((hZ5F 11 0 13 (by decide)).trans ((show frz 11 0 13 = 0 from by decide))))))))) (show (24 : Int32) = i3 24 from rfl) (by omega) (by omega) (by omega) (by omega)) (show (0 / 24 : Int) = 0 from by decide)) (by omega) (by omega) (by omega)) ?_
        obtain ⟨Z10, hZ10⟩ := zx (zu Z9 43 0 0 5 18)
        have hZ10I := zI_u hZ9I hZ10 (lo := 0) (hi := 40) (by decide) rfl (by omega) ⟨by decide, by decide⟩ (Or.inl (by decide))
        have hZ10K := zK_u hZ9K hZ10 (by decide)
        intro μ9 e9
        replace e9 := e9.trans (zm_wI (Z := Z9) (ν := ν) hZ10 (show ((0 : Nat) : Int) = 0 from rfl) (i3I (y := 0) (Eq.trans (zm_rd (Z := Z5) (ν := ν) (k := 11) (show ((0 : Nat) : Int) = 0 from rfl) (show ((0 : Nat) : Int) = 0 from rfl) (show ((2 : Nat) : Int) = 2 from rfl)) (congrArg i3 ((hZ5F 11 0 2 (by decide)).trans ((show frz 11 0 2 = 0 from by decide))))) (by omega) (by omega) (by omega)) (show ((5 : Nat) : Int) = 5 from rfl) (Eq.trans (zm_rd (Z := Z9) (ν := ν) (k := 12) (show ((0 : Nat) : Int) = 0 from rfl) (show ((0 : Nat) : Int) = 0 from rfl) (i3I (y := 0) (i3C (i3D (Eq.trans (zm_rd (Z := Z9) (ν := ν) (k := 11) (show ((0 : Nat) : Int) = 0 from rfl) (show ((0 : Nat) : Int) = 0 from rfl) (show ((13 : Nat) : Int) = 13 from rfl)) (congrArg i3 ((zu_ne (k' := 11) (b' := 0) (i' := 0) (j' := 13) hZ9 (fun q => absurd q.1 (by decide))).trans ((zu_ne (k' := 11) (b' := 0) (i' := 0) (j' := 13) hZ8 (fun q => absurd q.1 (by decide))).trans ((zu_ne (k' := 11) (b' := 0) (i' := 0) (j' := 13) hZ7 (fun q => absurd q.1 (by decide))).trans ((zu_ne (k' := 11) (b' := 0) (i' := 0) (j' := 13) hZ6 (fun q => absurd q.1 (by decide))).trans ((hZ5F 11 0 13 (by decide)).trans ((show frz 11 0 13 = 0 from by decide))))))))) (show (24 : Int32) = i3 24 from rfl) (by omega) (by omega) (by omega) (by omega)) (show (0 / 24 : Int) = 0 from by decide)) (by omega) (by omega) (by omega))) (congrArg i3 ((zu_ne (k' := 12) (b' := 0) (i' := 0) (j' := 0) hZ9 (fun q => absurd q.1 (by decide))).trans ((zu_ne (k' := 12) (b' := 0) (i' := 0) (j' := 0) hZ8 (fun q => absurd q.1 (by decide))).trans ((zu_ne (k' := 12) (b' := 0) (i' := 0) (j' := 0) hZ7 (fun q => absurd q.1 (by decide))).trans ((zu_ne (k' := 12) (b' := 0) (i' := 0) (j' := 0) hZ6 (fun q => absurd q.1 (by decide))).trans ((hZ5F 12 0 0 (frp_s (by decide))).trans ((show frz 12 0 0 = 18 from by decide))))))))))
        subst e9
        obtain ⟨Z11, hZ11⟩ := zx (zu Z10 43 0 0 10 (-1))
        have hZ11I := zI_u hZ10I hZ11 (lo := -1) (hi := 695) (by decide) rfl (by omega) ⟨by decide, by decide⟩ (Or.inl (by decide))
        have hZ11K := zK_u hZ10K hZ11 (by decide)
        intro μ9 e9
        replace e9 := e9.trans (zm_wI (Z := Z10) (ν := ν) hZ11 (show ((0 : Nat) : Int) = 0 from rfl) (i3I (y := 0) (Eq.trans (zm_rd (Z := Z5) (ν := ν) (k := 11) (show ((0 : Nat) : Int) = 0 from rfl) (show ((0 : Nat) : Int) = 0 from rfl) (show ((2 : Nat) : Int) = 2 from rfl)) (congrArg i3 ((hZ5F 11 0 2 (by decide)).trans ((show frz 11 0 2 = 0 from by decide))))) (by omega) (by omega) (by omega)) (show ((10 : Nat) : Int) = 10 from rfl) (show (-1 : Int32) = i3 (-1) from rfl))
        subst e9
        obtain ⟨Z12, hZ12⟩ := zx (zu Z11 11 0 0 2 (0 + 1))
        have hZ12I := zI_u hZ11I hZ12 (lo := 0) (hi := 6) (by decide) rfl (by omega) ⟨by decide, by decide⟩ (Or.inl (by decide))
        have hZ12K := zK_u hZ11K hZ12 (by decide)
        intro μ9 e9
        replace e9 := e9.trans (zm_wI (Z := Z11) (ν := ν) hZ12 (show ((0 : Nat) : Int) = 0 from rfl) (show ((0 : Nat) : Int) = 0 from rfl) (show ((2 : Nat) : Int) = 2 from rfl) (i3A (Eq.trans (zm_rd (Z := Z11) (ν := ν) (k := 11) (show ((0 : Nat) : Int) = 0 from rfl) (show ((0 : Nat) : Int) = 0 from rfl) (show ((2 : Nat) : Int) = 2 from rfl)) (congrArg i3 ((zu_ne (k' := 11) (b' := 0) (i' := 0) (j' := 2) hZ11 (fun q => absurd q.1 (by decide))).trans ((zu_ne (k' := 11) (b' := 0) (i' := 0) (j' := 2) hZ10 (fun q => absurd q.1 (by decide))).trans ((zu_ne (k' := 11) (b' := 0) (i' := 0) (j' := 2) hZ9 (fun q => absurd q.1 (by decide))).trans ((zu_ne (k' := 11) (b' := 0) (i' := 0) (j' := 2) hZ8 (fun q => absurd q.1 (by decide))).trans ((zu_ne (k' := 11) (b' := 0) (i' := 0) (j' := 2) hZ7 (fun q => absurd q.1 (by decide))).trans ((zu_ne (k' := 11) (b' := 0) (i' := 0) (j' := 2) hZ6 (fun q => absurd q.1 (by decide))).trans ((hZ5F 11 0 2 (by decide)).trans ((show frz 11 0 2 = 0 from by decide))))))))))) (show (1 : Int32) = i3 1 from rfl)))
        subst e9
        exact zlX hP (Eq.trans (zm_rd (Z := Z11) (ν := ν) (k := 11) (show ((0 : Nat) : Int) = 0 from rfl) (show ((0 : Nat) : Int) = 0 from rfl) (show ((2 : Nat) : Int) = 2 from rfl)) (congrArg i3 ((zu_ne (k' := 11) (b' := 0) (i' := 0) (j' := 2) hZ11 (fun q => absurd q.1 (by decide))).trans ((zu_ne (k' := 11) (b' := 0) (i' := 0) (j' := 2) hZ10 (fun q => absurd q.1 (by decide))).trans ((zu_ne (k' := 11) (b' := 0) (i' := 0) (j' := 2) hZ9 (fun q => absurd q.1 (by decide))).trans ((zu_ne (k' := 11) (b' := 0) (i' := 0) (j' := 2) hZ8 (fun q => absurd q.1 (by decide))).trans ((zu_ne (k' := 11) (b' := 0) (i' := 0) (j' := 2) hZ7 (fun q => absurd q.1 (by decide))).trans ((zu_ne (k' := 11) (b' := 0) (i' := 0) (j' := 2) hZ6 (fun q => absurd q.1 (by decide))).trans ((hZ5F 11 0 2 (by decide)).trans ((show frz 11 0 2 = 0 from by decide))))))))))) ⟨hZ12I, hZ12K, zN_r⟩
      · replace hP := zE_n hP h3
        exact zlXe (E := 12) hP ⟨hZ, zK_r, zN_k rfl⟩
    · replace hP := zE_n hP h2
      exact zlXe (E := 12) hP ⟨hZ, zK_r, zN_k rfl⟩
  · replace hP := zE_n hP h1
    exact zlXe (E := 12) hP ⟨hZ, zK_r, zN_k rfl⟩

/- yX11_outside -/
def zg_222 (a1 : Int) (a2 : Int) : Int × Int := (if 0 ≤ a1 ∧ a1 ≤ 27 then (if 0 ≤ a2 ∧ a2 ≤ 40 then (18, 0) else (0, 13)) else (0, 13))
theorem sg_222 {Z : qz_Z} {ν : qz_N} (hZ : zI none Z) (hF : zF Z) {a1 : Int} (ga1 : -2147483648 ≤ a1 ∧ a1 ≤ 2147483647) {a2 : Int} (ga2 : -2147483648 ≤ a2 ∧ a2 ≤ 2147483647) : ∃ (Z1 : qz_Z) (ν1 : qz_N) (v E : Int), (v, E) = zg_222 a1 a2 ∧ qf_222 [.inr (.inr (some (0, 0, 0))), .inl (i3 a1), .inl (i3 a2)] (zm Z ν) = some (zm Z1 ν1, zoX v E) ∧ (fun Z1 ν1 => zI none Z1 ∧ zK [3, 11, 12, 13, 14, 40, 41, 42, 43, 44, 45, 46, 47, 48, 49, 50, 51, 52, 53, 54, 61, 68] Z Z1 ∧ zN ν ν1) Z1 ν1 := by
  obtain ⟨P, hP⟩ := zx (zg_222 a1 a2)
  refine zc_X (Q := fun Z1 ν1 => zI none Z1 ∧ zK [3, 11, 12, 13, 14, 40, 41, 42, 43, 44, 45, 46, 47, 48, 49, 50, 51, 52, 53, 54, 61, 68] Z Z1 ∧ zN ν ν1) hP (fw_222 (i3 a1) (i3 a2) _ _ ?_)
  replace hP : zE P (zg_222 a1 a2) := hP
  unfold zg_222 at hP
  refine wz_inR (rfl : i3 a1 = i3 a1) (show (0 : Int32) = i3 0 from rfl) (show (27 : Int32) = i3 27 from rfl) (by omega) (by omega) (by omega) (by omega) (by omega) (by omega) (fun h1 => ?_) (fun h1 => ?_)
  · replace hP := zE_p hP h1
    refine wz_inR (rfl : i3 a2 = i3 a2) (show (0 : Int32) = i3 0 from rfl) (show (40 : Int32) = i3 40 from rfl) (by omega) (by omega) (by omega) (by omega) (by omega) (by omega) (fun h2 => ?_) (fun h2 => ?_)
    · replace hP := zE_p hP h2
      refine wz_i0 (Eq.trans (i3L (rfl : i3 a1 = i3 a1) (i3C (i3D (Eq.trans (zm_rd (Z := Z) (ν := ν) (k := 11) (show ((0 : Nat) : Int) = 0 from rfl) (show ((0 : Nat) : Int) = 0 from rfl) (show ((13 : Nat) : Int) = 13 from rfl)) (congrArg i3 ((hF 11 0 13 (by decide)).trans ((show frz 11 0 13 = 0 from by decide))))) (show (24 : Int32) = i3 24 from rfl) (by omega) (by omega) (by omega) (by omega)) (show (0 / 24 : Int) = 0 from by decide)) (by omega) (by omega) (by omega) (by omega)) (decide_eq_false (by omega))) ?_
      refine wz_inT_y (show (1 : Int32) = i3 1 from rfl) (by omega) (by omega) (by omega) ?_
      refine dc_J (zcons rfl (zcons (zvi (show (7 : Int32) = i3 7 from rfl)) (zcons (zvi (rfl : i3 a1 = i3 a1)) (zcons (zvi (rfl : i3 a2 = i3 a2)) (zcons (zvi (show (0 : Int32) = i3 0 from rfl)) (zcons (zvi (show (0 : Int32) = i3 0 from rfl)) (zcons (zvi (show (0 : Int32) = i3 0 from rfl)) (zcons (zvi (show (0 : Int32) = i3 0 from rfl)) rfl)))))))) (dc_I (ws := [3, 11, 12, 13, 14, 40, 41, 42, 43, 44, 45, 46, 47, 48, 49, 50, 51, 52, 53, 54, 61, 68]) (Z0 := Z) hF hZ zK_r (by decide) (by omega) (by omega) (by omega) (by omega) (by omega) (by omega) (by omega) (fun Z4 hZ4I hZ4F hZ4A hZ4K => ?_))
      refine fw_121 _ _ _ _ ?_
      refine wz_i1 rfl ?_
      refine wz_i0 (i3O (n := 7) (show (0 : Int32) = i3 0 from rfl) (by omega) (by omega) (by omega)) ?_
      refine wz_i0 (Eq.trans (i3To (Eq.trans (zm_rd (Z := Z4) (ν := ν) (k := 68) (show ((0 : Nat) : Int) = 0 from rfl) (show ((0 : Nat) : Int) = 0 from rfl) (show ((0 : Nat) : Int) = 0 from rfl)) (congrArg i3 ((hZ4A.1)))) (by omega) (by omega)) (decide_eq_false (by omega))) ?_
      refine wz_i0 (Eq.trans (i3T (Eq.trans (zm_rd (Z := Z4) (ν := ν) (k := 68) (show ((0 : Nat) : Int) = 0 from rfl) (show ((0 : Nat) : Int) = 0 from rfl) (show ((0 : Nat) : Int) = 0 from rfl)) (congrArg i3 ((hZ4A.1)))) (by omega) (by omega)) (decide_eq_false (by omega))) ?_
      refine wz_i0 (Eq.trans (i3T (Eq.trans (zm_rd (Z := Z4) (ν := ν) (k := 68) (show ((0 : Nat) : Int) = 0 from rfl) (show ((0 : Nat) : Int) = 0 from rfl) (show ((0 : Nat) : Int) = 0 from rfl)) (congrArg i3 ((hZ4A.1)))) (by omega) (by omega)) (decide_eq_false (by omega))) ?_
      refine wz_i0 (Eq.trans (i3T (Eq.trans (zm_rd (Z := Z4) (ν := ν) (k := 68) (show ((0 : Nat) : Int) = 0 from rfl) (show ((0 : Nat) : Int) = 0 from rfl) (show ((0 : Nat) : Int) = 0 from rfl)) (congrArg i3 ((hZ4A.1)))) (by omega) (by omega)) (decide_eq_false (by omega))) ?_
      refine wz_i0 (Eq.trans (i3T (Eq.trans (zm_rd (Z := Z4) (ν := ν) (k := 68) (show ((0 : Nat) : Int) = 0 from rfl) (show ((0 : Nat) : Int) = 0 from rfl) (show ((0 : Nat) : Int) = 0 from rfl)) (congrArg i3 ((hZ4A.1)))) (by omega) (by omega)) (decide_eq_false (by omega))) ?_
      refine wz_i0 (Eq.trans (i3T (Eq.trans (zm_rd (Z := Z4) (ν := ν) (k := 68) (show ((0 : Nat) : Int) = 0 from rfl) (show ((0 : Nat) : Int) = 0 from rfl) (show ((0 : Nat) : Int) = 0 from rfl)) (congrArg i3 ((hZ4A.1)))) (by omega) (by omega)) (decide_eq_false (by omega))) ?_
      refine wz_i0 (Eq.trans (i3T (Eq.trans (zm_rd (Z := Z4) (ν := ν) (k := 68) (show ((0 : Nat) : Int) = 0 from rfl) (show ((0 : Nat) : Int) = 0 from rfl) (show ((0 : Nat) : Int) = 0 from rfl)) (congrArg i3 ((hZ4A.1)))) (by omega) (by omega)) (decide_eq_false (by omega))) ?_
      refine wz_i0 (Eq.trans (i3T (Eq.trans (zm_rd (Z := Z4) (ν := ν) (k := 68) (show ((0 : Nat) : Int) = 0 from rfl) (show ((0 : Nat) : Int) = 0 from rfl) (show ((0 : Nat) : Int) = 0 from rfl)) (congrArg i3 ((hZ4A.1)))) (by omega) (by omega)) (decide_eq_false (by omega))) ?_
      refine wz_i1 (Eq.trans (i3T (Eq.trans (zm_rd (Z := Z4) (ν := ν) (k := 68) (show ((0 : Nat) : Int) = 0 from rfl) (show ((0 : Nat) : Int) = 0 from rfl) (show ((0 : Nat) : Int) = 0 from rfl)) (congrArg i3 ((hZ4A.1)))) (by omega) (by omega)) (decide_eq_true (by omega))) ?_
      refine wz_i1 rfl ?_
      refine wz_i0 (i3O (n := 7) (show (1 : Int32) = i3 1 from rfl) (by omega) (by omega) (by omega)) ?_
      refine wz_i1 rfl ?_
      refine wz_i0 (i3O (n := 7) (show (2 : Int32) = i3 2 from rfl) (by omega) (by omega) (by omega)) ?_
      refine wz_i0 (i3O (n := 28) (Eq.trans (zm_rd (Z := Z4) (ν := ν) (k := 68) (show ((0 : Nat) : Int) = 0 from rfl) (show ((0 : Nat) : Int) = 0 from rfl) (show ((1 : Nat) : Int) = 1 from rfl)) (congrArg i3 ((hZ4A.2.1)))) (by omega) (by omega) (by omega)) ?_
      refine wz_i0 (i3O (n := 28) (Eq.trans (zm_rd (Z := Z4) (ν := ν) (k := 68) (show ((0 : Nat) : Int) = 0 from rfl) (show ((0 : Nat) : Int) = 0 from rfl) (show ((1 : Nat) : Int) = 1 from rfl)) (congrArg i3 ((hZ4A.2.1)))) (by omega) (by omega) (by omega)) ?_
      obtain ⟨Z5, hZ5⟩ := zx (zu Z4 12 0 0 a1 a2)
      have hZ5I := zI_u hZ4I hZ5 (lo := 0) (hi := 40) (by decide) (zrc_12 (by omega) (by omega)) (by omega) ⟨by decide, by decide⟩ (Or.inl (by decide))
      have hZ5K := zK_u hZ4K hZ5 (by decide)
      intro μ9 e9
      replace e9 := e9.trans (zm_wI (Z := Z4) (ν := ν) hZ5 (show ((0 : Nat) : Int) = 0 from rfl) (show ((0 : Nat) : Int) = 0 from rfl) (i3I (y := a1) (Eq.trans (zm_rd (Z := Z4) (ν := ν) (k := 68) (show ((0 : Nat) : Int) = 0 from rfl) (show ((0 : Nat) : Int) = 0 from rfl) (show ((1 : Nat) : Int) = 1 from rfl)) (congrArg i3 ((hZ4A.2.1)))) (by omega) (by omega) (by omega)) (Eq.trans (zm_rd (Z := Z4) (ν := ν) (k := 68) (show ((0 : Nat) : Int) = 0 from rfl) (show ((0 : Nat) : Int) = 0 from rfl) (show ((2 : Nat) : Int) = 2 from rfl)) (congrArg i3 ((hZ4A.2.2.1)))))
      subst e9
      exact zlX hP (Eq.trans (zm_rd (Z := Z4) (ν := ν) (k := 12) (show ((0 : Nat) : Int) = 0 from rfl) (show ((0 : Nat) : Int) = 0 from rfl) (i3I (y := a1) (Eq.trans (zm_rd (Z := Z4) (ν := ν) (k := 68) (show ((0 : Nat) : Int) = 0 from rfl) (show ((0 : Nat) : Int) = 0 from rfl) (show ((1 : Nat) : Int) = 1 from rfl)) (congrArg i3 ((hZ4A.2.1)))) (by omega) (by omega) (by omega))) (congrArg i3 ((hZ4F 12 0 a1 (frp_s (by decide))).trans ((frz_12 (j := a1) (by omega) (by omega)))))) ⟨hZ5I, hZ5K, zN_r⟩
    · replace hP := zE_n hP h2
      exact zlXe (E := 12) hP ⟨hZ, zK_r, zN_k rfl⟩
  · replace hP := zE_n hP h1
    exact zlXe (E := 12) hP ⟨hZ, zK_r, zN_k rfl⟩

/- yX11_kept -/
def zg_214 (a1 : Int) (a2 : Int) : Int × Int := (0, 24)
theorem sg_214 {Z : qz_Z} {ν : qz_N} (hZ : zI none Z) (hF : zF Z) {a1 : Int} (ga1 : -2147483648 ≤ a1 ∧ a1 ≤ 2147483647) {a2 : Int} (ga2 : -2147483648 ≤ a2 ∧ a2 ≤ 2147483647) : ∃ (Z1 : qz_Z) (ν1 : qz_N) (v E : Int), (v, E) = zg_214 a1 a2 ∧ qf_214 [.inr (.inr (some (0, 0, 0))), .inl (i3 a1), .inl (i3 a2)] (zm Z ν) = some (zm Z1 ν1, zoX v E) ∧ (fun Z1 ν1 => zI none Z1 ∧ zK [] Z Z1 ∧ zN ν ν1) Z1 ν1 := by
  obtain ⟨P, hP⟩ := zx (zg_214 a1 a2)
  refine zc_X (Q := fun Z1 ν1 => zI none Z1 ∧ zK [] Z Z1 ∧ zN ν ν1) hP (fw_214 (i3 a1) (i3 a2) _ _ ?_)
  replace hP : zE P (zg_214 a1 a2) := hP
  unfold zg_214 at hP
  refine wz_thing_n (rfl : i3 a1 = i3 a1) (Eq.trans (zm_rd (Z := Z) (ν := ν) (k := 11) (show ((0 : Nat) : Int) = 0 from rfl) (show ((0 : Nat) : Int) = 0 from rfl) (show ((2 : Nat) : Int) = 2 from rfl)) (congrArg i3 ((hF 11 0 2 (by decide)).trans ((show frz 11 0 2 = 0 from by decide))))) (by omega) (by omega) (by omega) (by omega) (by omega) ?_
  exact zlXe (E := 23) hP ⟨hZ, zK_r, zN_k rfl⟩

/- yX11_buyer -/
def zg_191 (a1 : Int) (a2 : Int) (a3 : Int) : Int × Int := (if 0 ≤ a1 ∧ a1 < 5 then (if 0 ≤ a2 ∧ a2 ≤ 9999999 then (if 0 ≤ a3 ∧ a3 ≤ 14 then (0, 0) else (0, 13)) else (0, 13)) else (0, 24))
theorem sg_191 {Z : qz_Z} {ν : qz_N} (hZ : zI none Z) (hF : zF Z) {a1 : Int} (ga1 : -2147483648 ≤ a1 ∧ a1 ≤ 2147483647) {a2 : Int} (ga2 : -2147483648 ≤ a2 ∧ a2 ≤ 2147483647) {a3 : Int} (ga3 : -2147483648 ≤ a3 ∧ a3 ≤ 2147483647) : ∃ (Z1 : qz_Z) (ν1 : qz_N) (v E : Int), (v, E) = zg_191 a1 a2 a3 ∧ qf_191 [.inr (.inr (some (0, 0, 0))), .inl (i3 a1), .inl (i3 a2), .inl (i3 a3)] (zm Z ν) = some (zm Z1 ν1, zoX v E) ∧ (fun Z1 ν1 => zI none Z1 ∧ zK [3, 11, 12, 13, 14, 40, 41, 42, 43, 44, 45, 46, 47, 48, 49, 50, 51, 52, 53, 54, 61, 68] Z Z1 ∧ zN ν ν1) Z1 ν1 := by
  obtain ⟨P, hP⟩ := zx (zg_191 a1 a2 a3)
  refine zc_X (Q := fun Z1 ν1 => zI none Z1 ∧ zK [3, 11, 12, 13, 14, 40, 41, 42, 43, 44, 45, 46, 47, 48, 49, 50, 51, 52, 53, 54, 61, 68] Z Z1 ∧ zN ν ν1) hP (fw_191 (i3 a1) (i3 a2) (i3 a3) _ _ ?_)
  replace hP : zE P (zg_191 a1 a2 a3) := hP
  unfold zg_191 at hP
  refine wz_thing (rfl : i3 a1 = i3 a1) (show (5 : Int32) = i3 5 from rfl) (by omega) (by omega) (by omega) (by omega) (fun h1 => ?_) (fun h1 => ?_)
  · replace hP := zE_p hP h1
    refine wz_inR (rfl : i3 a2 = i3 a2) (show (0 : Int32) = i3 0 from rfl) (show (9999999 : Int32) = i3 9999999 from rfl) (by omega) (by omega) (by omega) (by omega) (by omega) (by omega) (fun h2 => ?_) (fun h2 => ?_)
    · replace hP := zE_p hP h2
      refine wz_inR (rfl : i3 a3 = i3 a3) (show (0 : Int32) = i3 0 from rfl) (show (14 : Int32) = i3 14 from rfl) (by omega) (by omega) (by omega) (by omega) (by omega) (by omega) (fun h3 => ?_) (fun h3 => ?_)
      · replace hP := zE_p hP h3
        refine wz_i0 (Eq.trans (i3Le (show (8 : Int32) = i3 8 from rfl) (Eq.trans (zm_rd (Z := Z) (ν := ν) (k := 11) (show ((0 : Nat) : Int) = 0 from rfl) (show ((0 : Nat) : Int) = 0 from rfl) (show ((4 : Nat) : Int) = 4 from rfl)) (congrArg i3 ((hF 11 0 4 (by decide)).trans ((show frz 11 0 4 = 0 from by decide))))) (by omega) (by omega) (by omega) (by omega)) (decide_eq_false (by omega))) ?_
        refine wz_inT_y (show (1 : Int32) = i3 1 from rfl) (by omega) (by omega) (by omega) ?_
        refine dc_J (zcons rfl (zcons (zvi (show (10 : Int32) = i3 10 from rfl)) (zcons (zvi (rfl : i3 a1 = i3 a1)) (zcons (zvi (rfl : i3 a2 = i3 a2)) (zcons (zvi (rfl : i3 a3 = i3 a3)) (zcons (zvi (show (0 : Int32) = i3 0 from rfl)) (zcons (zvi (show (0 : Int32) = i3 0 from rfl)) (zcons (zvi (show (0 : Int32) = i3 0 from rfl)) rfl)))))))) (dc_I (ws := [3, 11, 12, 13, 14, 40, 41, 42, 43, 44, 45, 46, 47, 48, 49, 50, 51, 52, 53, 54, 61, 68]) (Z0 := Z) hF hZ zK_r (by decide) (by omega) (by omega) (by omega) (by omega) (by omega) (by omega) (by omega) (fun Z5 hZ5I hZ5F hZ5A hZ5K => ?_))
        refine fw_121 _ _ _ _ ?_
        refine wz_i1 rfl ?_
        refine wz_i0 (i3O (n := 7) (show (0 : Int32) = i3 0 from rfl) (by omega) (by omega) (by omega)) ?_
        refine wz_i0 (Eq.trans (i3To (Eq.trans (zm_rd (Z := Z5) (ν := ν) (k := 68) (show ((0 : Nat) : Int) = 0 from rfl) (show ((0 : Nat) : Int) = 0 from rfl) (show ((0 : Nat) : Int) = 0 from rfl)) (congrArg i3 ((hZ5A.1)))) (by omega) (by omega)) (decide_eq_false (by omega))) ?_
        refine wz_i0 (Eq.trans (i3T (Eq.trans (zm_rd (Z := Z5) (ν := ν) (k := 68) (show ((0 : Nat) : Int) = 0 from rfl) (show ((0 : Nat) : Int) = 0 from rfl) (show ((0 : Nat) : Int) = 0 from rfl)) (congrArg i3 ((hZ5A.1)))) (by omega) (by omega)) (decide_eq_false (by omega))) ?_
        refine wz_i0 (Eq.trans (i3T (Eq.trans (zm_rd (Z := Z5) (ν := ν) (k := 68) (show ((0 : Nat) : Int) = 0 from rfl) (show ((0 : Nat) : Int) = 0 from rfl) (show ((0 : Nat) : Int) = 0 from rfl)) (congrArg i3 ((hZ5A.1)))) (by omega) (by omega)) (decide_eq_false (by omega))) ?_
        refine wz_i0 (Eq.trans (i3T (Eq.trans (zm_rd (Z := Z5) (ν := ν) (k := 68) (show ((0 : Nat) : Int) = 0 from rfl) (show ((0 : Nat) : Int) = 0 from rfl) (show ((0 : Nat) : Int) = 0 from rfl)) (congrArg i3 ((hZ5A.1)))) (by omega) (by omega)) (decide_eq_false (by omega))) ?_
        refine wz_i0 (Eq.trans (i3T (Eq.trans (zm_rd (Z := Z5) (ν := ν) (k := 68) (show ((0 : Nat) : Int) = 0 from rfl) (show ((0 : Nat) : Int) = 0 from rfl) (show ((0 : Nat) : Int) = 0 from rfl)) (congrArg i3 ((hZ5A.1)))) (by omega) (by omega)) (decide_eq_false (by omega))) ?_
        refine wz_i0 (Eq.trans (i3T (Eq.trans (zm_rd (Z := Z5) (ν := ν) (k := 68) (show ((0 : Nat) : Int) = 0 from rfl) (show ((0 : Nat) : Int) = 0 from rfl) (show ((0 : Nat) : Int) = 0 from rfl)) (congrArg i3 ((hZ5A.1)))) (by omega) (by omega)) (decide_eq_false (by omega))) ?_
        refine wz_i0 (Eq.trans (i3T (Eq.trans (zm_rd (Z := Z5) (ν := ν) (k := 68) (show ((0 : Nat) : Int) = 0 from rfl) (show ((0 : Nat) : Int) = 0 from rfl) (show ((0 : Nat) : Int) = 0 from rfl)) (congrArg i3 ((hZ5A.1)))) (by omega) (by omega)) (decide_eq_false (by omega))) ?_
        refine wz_i0 (Eq.trans (i3T (Eq.trans (zm_rd (Z := Z5) (ν := ν) (k := 68) (show ((0 : Nat) : Int) = 0 from rfl) (show ((0 : Nat) : Int) = 0 from rfl) (show ((0 : Nat) : Int) = 0 from rfl)) (congrArg i3 ((hZ5A.1)))) (by omega) (by omega)) (decide_eq_false (by omega))) ?_
        refine wz_i0 (Eq.trans (i3T (Eq.trans (zm_rd (Z := Z5) (ν := ν) (k := 68) (show ((0 : Nat) : Int) = 0 from rfl) (show ((0 : Nat) : Int) = 0 from rfl) (show ((0 : Nat) : Int) = 0 from rfl)) (congrArg i3 ((hZ5A.1)))) (by omega) (by omega)) (decide_eq_false (by omega))) ?_
        refine wz_i0 (Eq.trans (i3T (Eq.trans (zm_rd (Z := Z5) (ν := ν) (k := 68) (show ((0 : Nat) : Int) = 0 from rfl) (show ((0 : Nat) : Int) = 0 from rfl) (show ((0 : Nat) : Int) = 0 from rfl)) (congrArg i3 ((hZ5A.1)))) (by omega) (by omega)) (decide_eq_false (by omega))) ?_
        refine wz_i0 (Eq.trans (i3T (Eq.trans (zm_rd (Z := Z5) (ν := ν) (k := 68) (show ((0 : Nat) : Int) = 0 from rfl) (show ((0 : Nat) : Int) = 0 from rfl) (show ((0 : Nat) : Int) = 0 from rfl)) (congrArg i3 ((hZ5A.1)))) (by omega) (by omega)) (decide_eq_false (by omega))) ?_
        refine wz_i1 (Eq.trans (i3T (Eq.trans (zm_rd (Z := Z5) (ν := ν) (k := 68) (show ((0 : Nat) : Int) = 0 from rfl) (show ((0 : Nat) : Int) = 0 from rfl) (show ((0 : Nat) : Int) = 0 from rfl)) (congrArg i3 ((hZ5A.1)))) (by omega) (by omega)) (decide_eq_true (by omega))) ?_
        refine wz_i1 rfl ?_
        refine wz_i0 (i3O (n := 7) (show (1 : Int32) = i3 1 from rfl) (by omega) (by omega) (by omega)) ?_
        refine wz_i1 rfl ?_
        refine wz_i0 (i3O (n := 7) (show (2 : Int32) = i3 2 from rfl) (by omega) (by omega) (by omega)) ?_
        refine wz_i1 rfl ?_
        refine wz_i0 (i3O (n := 7) (show (3 : Int32) = i3 3 from rfl) (by omega) (by omega) (by omega)) ?_
        refine wz_i0 (i3O (n := 8) (Eq.trans (zm_rd (Z := Z5) (ν := ν) (k := 11) (show ((0 : Nat) : Int) = 0 from rfl) (show ((0 : Nat) : Int) = 0 from rfl) (show ((4 : Nat) : Int) = 4 from rfl)) (congrArg i3 ((hZ5F 11 0 4 (by decide)).trans ((show frz 11 0 4 = 0 from by decide))))) (by omega) (by omega) (by omega)) ?_
        obtain ⟨Z6, hZ6⟩ := zx (zu Z5 45 0 0 0 a1)
        have hZ6I := zI_u hZ5I hZ6 (lo := 0) (hi := 4) (by decide) rfl (by omega) ⟨by decide, by decide⟩ (Or.inl (by decide))
        have hZ6K := zK_u hZ5K hZ6 (by decide)
        intro μ9 e9
        replace e9 := e9.trans (zm_wI (Z := Z5) (ν := ν) hZ6 (show ((0 : Nat) : Int) = 0 from rfl) (i3I (y := 0) (Eq.trans (zm_rd (Z := Z5) (ν := ν) (k := 11) (show ((0 : Nat) : Int) = 0 from rfl) (show ((0 : Nat) : Int) = 0 from rfl) (show ((4 : Nat) : Int) = 4 from rfl)) (congrArg i3 ((hZ5F 11 0 4 (by decide)).trans ((show frz 11 0 4 = 0 from by decide))))) (by omega) (by omega) (by omega)) (show ((0 : Nat) : Int) = 0 from rfl) (Eq.trans (zm_rd (Z := Z5) (ν := ν) (k := 68) (show ((0 : Nat) : Int) = 0 from rfl) (show ((0 : Nat) : Int) = 0 from rfl) (show ((1 : Nat) : Int) = 1 from rfl)) (congrArg i3 ((hZ5A.2.1)))))
        subst e9
        obtain ⟨Z7, hZ7⟩ := zx (zu Z6 45 0 0 1 a2)
        have hZ7I := zI_u hZ6I hZ7 (lo := 0) (hi := 9999999) (by decide) rfl (by omega) ⟨by decide, by decide⟩ (Or.inl (by decide))
        have hZ7K := zK_u hZ6K hZ7 (by decide)
        intro μ9 e9
        replace e9 := e9.trans (zm_wI (Z := Z6) (ν := ν) hZ7 (show ((0 : Nat) : Int) = 0 from rfl) (i3I (y := 0) (Eq.trans (zm_rd (Z := Z5) (ν := ν) (k := 11) (show ((0 : Nat) : Int) = 0 from rfl) (show ((0 : Nat) : Int) = 0 from rfl) (show ((4 : Nat) : Int) = 4 from rfl)) (congrArg i3 ((hZ5F 11 0 4 (by decide)).trans ((show frz 11 0 4 = 0 from by decide))))) (by omega) (by omega) (by omega)) (show ((1 : Nat) : Int) = 1 from rfl) (Eq.trans (zm_rd (Z := Z5) (ν := ν) (k := 68) (show ((0 : Nat) : Int) = 0 from rfl) (show ((0 : Nat) : Int) = 0 from rfl) (show ((2 : Nat) : Int) = 2 from rfl)) (congrArg i3 ((hZ5A.2.2.1)))))
        subst e9
        obtain ⟨Z8, hZ8⟩ := zx (zu Z7 45 0 0 2 a3)
        have hZ8I := zI_u hZ7I hZ8 (lo := 0) (hi := 14) (by decide) rfl (by omega) ⟨by decide, by decide⟩ (Or.inl (by decide))
        have hZ8K := zK_u hZ7K hZ8 (by decide)
        intro μ9 e9
        replace e9 := e9.trans (zm_wI (Z := Z7) (ν := ν) hZ8 (show ((0 : Nat) : Int) = 0 from rfl) (i3I (y := 0) (Eq.trans (zm_rd (Z := Z5) (ν := ν) (k := 11) (show ((0 : Nat) : Int) = 0 from rfl) (show ((0 : Nat) : Int) = 0 from rfl) (show ((4 : Nat) : Int) = 4 from rfl)) (congrArg i3 ((hZ5F 11 0 4 (by decide)).trans ((show frz 11 0 4 = 0 from by decide))))) (by omega) (by omega) (by omega)) (show ((2 : Nat) : Int) = 2 from rfl) (Eq.trans (zm_rd (Z := Z5) (ν := ν) (k := 68) (show ((0 : Nat) : Int) = 0 from rfl) (show ((0 : Nat) : Int) = 0 from rfl) (show ((3 : Nat) : Int) = 3 from rfl)) (congrArg i3 ((hZ5A.2.2.2.1)))))
        subst e9
        obtain ⟨Z9, hZ9⟩ := zx (zu Z8 11 0 0 4 (0 + 1))
        have hZ9I := zI_u hZ8I hZ9 (lo := 0) (hi := 8) (by decide) rfl (by omega) ⟨by decide, by decide⟩ (Or.inl (by decide))
        have hZ9K := zK_u hZ8K hZ9 (by decide)
        intro μ9 e9
        replace e9 := e9.trans (zm_wI (Z := Z8) (ν := ν) hZ9 (show ((0 : Nat) : Int) = 0 from rfl) (show ((0 : Nat) : Int) = 0 from rfl) (show ((4 : Nat) : Int) = 4 from rfl) (i3A (Eq.trans (zm_rd (Z := Z8) (ν := ν) (k := 11) (show ((0 : Nat) : Int) = 0 from rfl) (show ((0 : Nat) : Int) = 0 from rfl) (show ((4 : Nat) : Int) = 4 from rfl)) (congrArg i3 ((zu_ne (k' := 11) (b' := 0) (i' := 0) (j' := 4) hZ8 (fun q => absurd q.1 (by decide))).trans ((zu_ne (k' := 11) (b' := 0) (i' := 0) (j' := 4) hZ7 (fun q => absurd q.1 (by decide))).trans ((zu_ne (k' := 11) (b' := 0) (i' := 0) (j' := 4) hZ6 (fun q => absurd q.1 (by decide))).trans ((hZ5F 11 0 4 (by decide)).trans ((show frz 11 0 4 = 0 from by decide)))))))) (show (1 : Int32) = i3 1 from rfl)))
        subst e9
        exact zlX hP (Eq.trans (zm_rd (Z := Z8) (ν := ν) (k := 11) (show ((0 : Nat) : Int) = 0 from rfl) (show ((0 : Nat) : Int) = 0 from rfl) (show ((4 : Nat) : Int) = 4 from rfl)) (congrArg i3 ((zu_ne (k' := 11) (b' := 0) (i' := 0) (j' := 4) hZ8 (fun q => absurd q.1 (by decide))).trans ((zu_ne (k' := 11) (b' := 0) (i' := 0) (j' := 4) hZ7 (fun q => absurd q.1 (by decide))).trans ((zu_ne (k' := 11) (b' := 0) (i' := 0) (j' := 4) hZ6 (fun q => absurd q.1 (by decide))).trans ((hZ5F 11 0 4 (by decide)).trans ((show frz 11 0 4 = 0 from by decide)))))))) ⟨hZ9I, hZ9K, zN_r⟩
      · replace hP := zE_n hP h3
        exact zlXe (E := 12) hP ⟨hZ, zK_r, zN_k rfl⟩
    · replace hP := zE_n hP h2
      exact zlXe (E := 12) hP ⟨hZ, zK_r, zN_k rfl⟩
  · replace hP := zE_n hP h1
    exact zlXe (E := 23) hP ⟨hZ, zK_r, zN_k rfl⟩

/- yX11_pay -/
def zg_228 (a1 : Int) (a2 : Int) : Int × Int := (0, 24)
theorem sg_228 {Z : qz_Z} {ν : qz_N} (hZ : zI none Z) (hF : zF Z) {a1 : Int} (ga1 : -2147483648 ≤ a1 ∧ a1 ≤ 2147483647) {a2 : Int} (ga2 : -2147483648 ≤ a2 ∧ a2 ≤ 2147483647) : ∃ (Z1 : qz_Z) (ν1 : qz_N) (v E : Int), (v, E) = zg_228 a1 a2 ∧ qf_228 [.inr (.inr (some (0, 0, 0))), .inl (i3 a1), .inl (i3 a2)] (zm Z ν) = some (zm Z1 ν1, zoX v E) ∧ (fun Z1 ν1 => zI none Z1 ∧ zK [] Z Z1 ∧ zN ν ν1) Z1 ν1 := by
  obtain ⟨P, hP⟩ := zx (zg_228 a1 a2)
  refine zc_X (Q := fun Z1 ν1 => zI none Z1 ∧ zK [] Z Z1 ∧ zN ν ν1) hP (fw_228 (i3 a1) (i3 a2) _ _ ?_)
  replace hP : zE P (zg_228 a1 a2) := hP
  unfold zg_228 at hP
  refine wz_thing_n (rfl : i3 a1 = i3 a1) (Eq.trans (zm_rd (Z := Z) (ν := ν) (k := 11) (show ((0 : Nat) : Int) = 0 from rfl) (show ((0 : Nat) : Int) = 0 from rfl) (show ((4 : Nat) : Int) = 4 from rfl)) (congrArg i3 ((hF 11 0 4 (by decide)).trans ((show frz 11 0 4 = 0 from by decide))))) (by omega) (by omega) (by omega) (by omega) (by omega) ?_
  exact zlXe (E := 23) hP ⟨hZ, zK_r, zN_k rfl⟩

/- yX11_taker -/
def zg_245 (a1 : Int) (a2 : Int) : Int × Int := (0, 24)
theorem sg_245 {Z : qz_Z} {ν : qz_N} (hZ : zI none Z) (hF : zF Z) {a1 : Int} (ga1 : -2147483648 ≤ a1 ∧ a1 ≤ 2147483647) {a2 : Int} (ga2 : -2147483648 ≤ a2 ∧ a2 ≤ 2147483647) : ∃ (Z1 : qz_Z) (ν1 : qz_N) (v E : Int), (v, E) = zg_245 a1 a2 ∧ qf_245 [.inr (.inr (some (0, 0, 0))), .inl (i3 a1), .inl (i3 a2)] (zm Z ν) = some (zm Z1 ν1, zoX v E) ∧ (fun Z1 ν1 => zI none Z1 ∧ zK [] Z Z1 ∧ zN ν ν1) Z1 ν1 := by
  obtain ⟨P, hP⟩ := zx (zg_245 a1 a2)
  refine zc_X (Q := fun Z1 ν1 => zI none Z1 ∧ zK [] Z Z1 ∧ zN ν ν1) hP (fw_245 (i3 a1) (i3 a2) _ _ ?_)
  replace hP : zE P (zg_245 a1 a2) := hP
  unfold zg_245 at hP
  refine wz_thing_n (rfl : i3 a1 = i3 a1) (Eq.trans (zm_rd (Z := Z) (ν := ν) (k := 11) (show ((0 : Nat) : Int) = 0 from rfl) (show ((0 : Nat) : Int) = 0 from rfl) (show ((3 : Nat) : Int) = 3 from rfl)) (congrArg i3 ((hF 11 0 3 (by decide)).trans ((show frz 11 0 3 = 0 from by decide))))) (by omega) (by omega) (by omega) (by omega) (by omega) ?_
  exact zlXe (E := 23) hP ⟨hZ, zK_r, zN_k rfl⟩

/- yX11_withdraw -/
def zg_254 (a1 : Int) : Int × Int := (if a1 < 0 then (0, 24) else (0, 24))
theorem sg_254 {Z : qz_Z} {ν : qz_N} (hZ : zI none Z) (hF : zF Z) {a1 : Int} (ga1 : -2147483648 ≤ a1 ∧ a1 ≤ 2147483647) : ∃ (Z1 : qz_Z) (ν1 : qz_N) (v E : Int), (v, E) = zg_254 a1 ∧ qf_254 [.inr (.inr (some (0, 0, 0))), .inl (i3 a1)] (zm Z ν) = some (zm Z1 ν1, zoX v E) ∧ (fun Z1 ν1 => zI none Z1 ∧ zK [] Z Z1 ∧ zN ν ν1) Z1 ν1 := by
  obtain ⟨P, hP⟩ := zx (zg_254 a1)
  refine zc_X (Q := fun Z1 ν1 => zI none Z1 ∧ zK [] Z Z1 ∧ zN ν ν1) hP (fw_254 (i3 a1) _ _ ?_)
  replace hP : zE P (zg_254 a1) := hP
  unfold zg_254 at hP
  refine wz_br (i3L (rfl : i3 a1 = i3 a1) (show (0 : Int32) = i3 0 from rfl) (by omega) (by omega) (by omega) (by omega)) (fun h1 => ?_) (fun h1 => ?_)
  · replace hP := zE_p hP h1
    exact zlXe (E := 23) hP ⟨hZ, zK_r, zN_k rfl⟩
  · replace hP := zE_n hP h1
    refine wz_i0 (Eq.trans (i3L (rfl : i3 a1 = i3 a1) (Eq.trans (zm_rd (Z := Z) (ν := ν) (k := 11) (show ((0 : Nat) : Int) = 0 from rfl) (show ((0 : Nat) : Int) = 0 from rfl) (show ((3 : Nat) : Int) = 3 from rfl)) (congrArg i3 ((hF 11 0 3 (by decide)).trans ((show frz 11 0 3 = 0 from by decide))))) (by omega) (by omega) (by omega) (by omega)) (decide_eq_false (by omega))) ?_
    exact zlXe (E := 23) hP ⟨hZ, zK_r, zN_k rfl⟩

/- yX11_takings -/
def zg_246 (a1 : Int) (a2 : Int) (a3 : Int) : Int × Int := (0, 24)
theorem sg_246 {Z : qz_Z} {ν : qz_N} (hZ : zI none Z) (hF : zF Z) {a1 : Int} (ga1 : -2147483648 ≤ a1 ∧ a1 ≤ 2147483647) {a2 : Int} (ga2 : -2147483648 ≤ a2 ∧ a2 ≤ 2147483647) {a3 : Int} (ga3 : -2147483648 ≤ a3 ∧ a3 ≤ 2147483647) : ∃ (Z1 : qz_Z) (ν1 : qz_N) (v E : Int), (v, E) = zg_246 a1 a2 a3 ∧ qf_246 [.inr (.inr (some (0, 0, 0))), .inl (i3 a1), .inl (i3 a2), .inl (i3 a3)] (zm Z ν) = some (zm Z1 ν1, zoX v E) ∧ (fun Z1 ν1 => zI none Z1 ∧ zK [] Z Z1 ∧ zN ν ν1) Z1 ν1 := by
  obtain ⟨P, hP⟩ := zx (zg_246 a1 a2 a3)
  refine zc_X (Q := fun Z1 ν1 => zI none Z1 ∧ zK [] Z Z1 ∧ zN ν ν1) hP (fw_246 (i3 a1) (i3 a2) (i3 a3) _ _ ?_)
  replace hP : zE P (zg_246 a1 a2 a3) := hP
  unfold zg_246 at hP
  refine wz_thing_n (rfl : i3 a1 = i3 a1) (Eq.trans (zm_rd (Z := Z) (ν := ν) (k := 11) (show ((0 : Nat) : Int) = 0 from rfl) (show ((0 : Nat) : Int) = 0 from rfl) (show ((7 : Nat) : Int) = 7 from rfl)) (congrArg i3 ((hF 11 0 7 (by decide)).trans ((show frz 11 0 7 = 0 from by decide))))) (by omega) (by omega) (by omega) (by omega) (by omega) ?_
  exact zlXe (E := 23) hP ⟨hZ, zK_r, zN_k rfl⟩

/- yX11_way -/
def zg_253 (a1 : Int) (a2 : Int) (a3 : Int) : Int × Int := (if 0 ≤ a1 ∧ a1 < 6 then (if 0 ≤ a2 ∧ a2 < 6 then (if a1 ≠ a2 then (if 1 ≤ a3 ∧ a3 ≤ 12 then ((frz 40 a1 a2), 0) else (0, 13)) else (0, 13)) else (0, 24)) else (0, 24))
theorem sg_253 {Z : qz_Z} {ν : qz_N} (hZ : zI none Z) (hF : zF Z) {a1 : Int} (ga1 : -2147483648 ≤ a1 ∧ a1 ≤ 2147483647) {a2 : Int} (ga2 : -2147483648 ≤ a2 ∧ a2 ≤ 2147483647) {a3 : Int} (ga3 : -2147483648 ≤ a3 ∧ a3 ≤ 2147483647) : ∃ (Z1 : qz_Z) (ν1 : qz_N) (v E : Int), (v, E) = zg_253 a1 a2 a3 ∧ qf_253 [.inr (.inr (some (0, 0, 0))), .inl (i3 a1), .inl (i3 a2), .inl (i3 a3)] (zm Z ν) = some (zm Z1 ν1, zoX v E) ∧ (fun Z1 ν1 => zI none Z1 ∧ zK [3, 11, 12, 13, 14, 40, 41, 42, 43, 44, 45, 46, 47, 48, 49, 50, 51, 52, 53, 54, 61, 68] Z Z1 ∧ zN ν ν1) Z1 ν1 := by
  obtain ⟨P, hP⟩ := zx (zg_253 a1 a2 a3)
  refine zc_X (Q := fun Z1 ν1 => zI none Z1 ∧ zK [3, 11, 12, 13, 14, 40, 41, 42, 43, 44, 45, 46, 47, 48, 49, 50, 51, 52, 53, 54, 61, 68] Z Z1 ∧ zN ν ν1) hP (fw_253 (i3 a1) (i3 a2) (i3 a3) _ _ ?_)
  replace hP : zE P (zg_253 a1 a2 a3) := hP
  unfold zg_253 at hP
  refine wz_thing (rfl : i3 a1 = i3 a1) (show (6 : Int32) = i3 6 from rfl) (by omega) (by omega) (by omega) (by omega) (fun h1 => ?_) (fun h1 => ?_)
  · replace hP := zE_p hP h1
    refine wz_thing (rfl : i3 a2 = i3 a2) (show (6 : Int32) = i3 6 from rfl) (by omega) (by omega) (by omega) (by omega) (fun h2 => ?_) (fun h2 => ?_)
    · replace hP := zE_p hP h2
      refine wz_br (i3NE (rfl : i3 a1 = i3 a1) (rfl : i3 a2 = i3 a2) (by omega) (by omega) (by omega) (by omega)) (fun h3 => ?_) (fun h3 => ?_)
      · replace hP := zE_p hP h3
        refine wz_inR (rfl : i3 a3 = i3 a3) (show (1 : Int32) = i3 1 from rfl) (show (12 : Int32) = i3 12 from rfl) (by omega) (by omega) (by omega) (by omega) (by omega) (by omega) (fun h4 => ?_) (fun h4 => ?_)
        · replace hP := zE_p hP h4
          refine dc_J (zcons rfl (zcons (zvi (show (17 : Int32) = i3 17 from rfl)) (zcons (zvi (rfl : i3 a1 = i3 a1)) (zcons (zvi (rfl : i3 a2 = i3 a2)) (zcons (zvi (rfl : i3 a3 = i3 a3)) (zcons (zvi (show (0 : Int32) = i3 0 from rfl)) (zcons (zvi (show (0 : Int32) = i3 0 from rfl)) (zcons (zvi (show (0 : Int32) = i3 0 from rfl)) rfl)))))))) (dc_I (ws := [3, 11, 12, 13, 14, 40, 41, 42, 43, 44, 45, 46, 47, 48, 49, 50, 51, 52, 53, 54, 61, 68]) (Z0 := Z) hF hZ zK_r (by decide) (by omega) (by omega) (by omega) (by omega) (by omega) (by omega) (by omega) (fun Z5 hZ5I hZ5F hZ5A hZ5K => ?_))
          refine fw_121 _ _ _ _ ?_
          refine wz_i1 rfl ?_
          refine wz_i0 (i3O (n := 7) (show (0 : Int32) = i3 0 from rfl) (by omega) (by omega) (by omega)) ?_
          refine wz_i0 (Eq.trans (i3To (Eq.trans (zm_rd (Z := Z5) (ν := ν) (k := 68) (show ((0 : Nat) : Int) = 0 from rfl) (show ((0 : Nat) : Int) = 0 from rfl) (show ((0 : Nat) : Int) = 0 from rfl)) (congrArg i3 ((hZ5A.1)))) (by omega) (by omega)) (decide_eq_false (by omega))) ?_
          refine wz_i0 (Eq.trans (i3T (Eq.trans (zm_rd (Z := Z5) (ν := ν) (k := 68) (show ((0 : Nat) : Int) = 0 from rfl) (show ((0 : Nat) : Int) = 0 from rfl) (show ((0 : Nat) : Int) = 0 from rfl)) (congrArg i3 ((hZ5A.1)))) (by omega) (by omega)) (decide_eq_false (by omega))) ?_
          refine wz_i0 (Eq.trans (i3T (Eq.trans (zm_rd (Z := Z5) (ν := ν) (k := 68) (show ((0 : Nat) : Int) = 0 from rfl) (show ((0 : Nat) : Int) = 0 from rfl) (show ((0 : Nat) : Int) = 0 from rfl)) (congrArg i3 ((hZ5A.1)))) (by omega) (by omega)) (decide_eq_false (by omega))) ?_
          refine wz_i0 (Eq.trans (i3T (Eq.trans (zm_rd (Z := Z5) (ν := ν) (k := 68) (show ((0 : Nat) : Int) = 0 from rfl) (show ((0 : Nat) : Int) = 0 from rfl) (show ((0 : Nat) : Int) = 0 from rfl)) (congrArg i3 ((hZ5A.1)))) (by omega) (by omega)) (decide_eq_false (by omega))) ?_
          refine wz_i0 (Eq.trans (i3T (Eq.trans (zm_rd (Z := Z5) (ν := ν) (k := 68) (show ((0 : Nat) : Int) = 0 from rfl) (show ((0 : Nat) : Int) = 0 from rfl) (show ((0 : Nat) : Int) = 0 from rfl)) (congrArg i3 ((hZ5A.1)))) (by omega) (by omega)) (decide_eq_false (by omega))) ?_
          refine wz_i0 (Eq.trans (i3T (Eq.trans (zm_rd (Z := Z5) (ν := ν) (k := 68) (show ((0 : Nat) : Int) = 0 from rfl) (show ((0 : Nat) : Int) = 0 from rfl) (show ((0 : Nat) : Int) = 0 from rfl)) (congrArg i3 ((hZ5A.1)))) (by omega) (by omega)) (decide_eq_false (by omega))) ?_
          refine wz_i0 (Eq.trans (i3T (Eq.trans (zm_rd (Z := Z5) (ν := ν) (k := 68) (show ((0 : Nat) : Int) = 0 from rfl) (show ((0 : Nat) : Int) = 0 from rfl) (show ((0 : Nat) : Int) = 0 from rfl)) (congrArg i3 ((hZ5A.1)))) (by omega) (by omega)) (decide_eq_false (by omega))) ?_
          refine wz_i0 (Eq.trans (i3T (Eq.trans (zm_rd (Z := Z5) (ν := ν) (k := 68) (show ((0 : Nat) : Int) = 0 from rfl) (show ((0 : Nat) : Int) = 0 from rfl) (show ((0 : Nat) : Int) = 0 from rfl)) (congrArg i3 ((hZ5A.1)))) (by omega) (by omega)) (decide_eq_false (by omega))) ?_
          refine wz_i0 (Eq.trans (i3T (Eq.trans (zm_rd (Z := Z5) (ν := ν) (k := 68) (show ((0 : Nat) : Int) = 0 from rfl) (show ((0 : Nat) : Int) = 0 from rfl) (show ((0 : Nat) : Int) = 0 from rfl)) (congrArg i3 ((hZ5A.1)))) (by omega) (by omega)) (decide_eq_false (by omega))) ?_
          refine wz_i0 (Eq.trans (i3T (Eq.trans (zm_rd (Z := Z5) (ν := ν) (k := 68) (show ((0 : Nat) : Int) = 0 from rfl) (show ((0 : Nat) : Int) = 0 from rfl) (show ((0 : Nat) : Int) = 0 from rfl)) (congrArg i3 ((hZ5A.1)))) (by omega) (by omega)) (decide_eq_false (by omega))) ?_
          refine wz_i0 (Eq.trans (i3T (Eq.trans (zm_rd (Z := Z5) (ν := ν) (k := 68) (show ((0 : Nat) : Int) = 0 from rfl) (show ((0 : Nat) : Int) = 0 from rfl) (show ((0 : Nat) : Int) = 0 from rfl)) (congrArg i3 ((hZ5A.1)))) (by omega) (by omega)) (decide_eq_false (by omega))) ?_
          refine wz_i0 (Eq.trans (i3T (Eq.trans (zm_rd (Z := Z5) (ν := ν) (k := 68) (show ((0 : Nat) : Int) = 0 from rfl) (show ((0 : Nat) : Int) = 0 from rfl) (show ((0 : Nat) : Int) = 0 from rfl)) (congrArg i3 ((hZ5A.1)))) (by omega) (by omega)) (decide_eq_false (by omega))) ?_
          refine wz_i0 (Eq.trans (i3T (Eq.trans (zm_rd (Z := Z5) (ν := ν) (k := 68) (show ((0 : Nat) : Int) = 0 from rfl) (show ((0 : Nat) : Int) = 0 from rfl) (show ((0 : Nat) : Int) = 0 from rfl)) (congrArg i3 ((hZ5A.1)))) (by omega) (by omega)) (decide_eq_false (by omega))) ?_
          refine wz_i0 (Eq.trans (i3T (Eq.trans (zm_rd (Z := Z5) (ν := ν) (k := 68) (show ((0 : Nat) : Int) = 0 from rfl) (show ((0 : Nat) : Int) = 0 from rfl) (show ((0 : Nat) : Int) = 0 from rfl)) (congrArg i3 ((hZ5A.1)))) (by omega) (by omega)) (decide_eq_false (by omega))) ?_
          refine wz_i0 (Eq.trans (i3T (Eq.trans (zm_rd (Z := Z5) (ν := ν) (k := 68) (show ((0 : Nat) : Int) = 0 from rfl) (show ((0 : Nat) : Int) = 0 from rfl) (show ((0 : Nat) : Int) = 0 from rfl)) (congrArg i3 ((hZ5A.1)))) (by omega) (by omega)) (decide_eq_false (by omega))) ?_
          refine wz_i0 (Eq.trans (i3T (Eq.trans (zm_rd (Z := Z5) (ν := ν) (k := 68) (show ((0 : Nat) : Int) = 0 from rfl) (show ((0 : Nat) : Int) = 0 from rfl) (show ((0 : Nat) : Int) = 0 from rfl)) (congrArg i3 ((hZ5A.1)))) (by omega) (by omega)) (decide_eq_false (by omega))) ?_
          refine wz_i0 (Eq.trans (i3T (Eq.trans (zm_rd (Z := Z5) (ν := ν) (k := 68) (show ((0 : Nat) : Int) = 0 from rfl) (show ((0 : Nat) : Int) = 0 from rfl) (show ((0 : Nat) : Int) = 0 from rfl)) (congrArg i3 ((hZ5A.1)))) (by omega) (by omega)) (decide_eq_false (by omega))) ?_
          refine wz_i0 (Eq.trans (i3T (Eq.trans (zm_rd (Z := Z5) (ν := ν) (k := 68) (show ((0 : Nat) : Int) = 0 from rfl) (show ((0 : Nat) : Int) = 0 from rfl) (show ((0 : Nat) : Int) = 0 from rfl)) (congrArg i3 ((hZ5A.1)))) (by omega) (by omega)) (decide_eq_false (by omega))) ?_
          refine wz_i1 (Eq.trans (i3T (Eq.trans (zm_rd (Z := Z5) (ν := ν) (k := 68) (show ((0 : Nat) : Int) = 0 from rfl) (show ((0 : Nat) : Int) = 0 from rfl) (show ((0 : Nat) : Int) = 0 from rfl)) (congrArg i3 ((hZ5A.1)))) (by omega) (by omega)) (decide_eq_true (by omega))) ?_
          refine wz_i1 rfl ?_
          refine wz_i0 (i3O (n := 7) (show (1 : Int32) = i3 1 from rfl) (by omega) (by omega) (by omega)) ?_
          refine wz_i1 rfl ?_
          refine wz_i0 (i3O (n := 7) (show (2 : Int32) = i3 2 from rfl) (by omega) (by omega) (by omega)) ?_
          refine wz_i1 rfl ?_
          refine wz_i0 (i3O (n := 7) (show (3 : Int32) = i3 3 from rfl) (by omega) (by omega) (by omega)) ?_
          refine wz_i0 (i3O (n := 6) (Eq.trans (zm_rd (Z := Z5) (ν := ν) (k := 68) (show ((0 : Nat) : Int) = 0 from rfl) (show ((0 : Nat) : Int) = 0 from rfl) (show ((1 : Nat) : Int) = 1 from rfl)) (congrArg i3 ((hZ5A.2.1)))) (by omega) (by omega) (by omega)) ?_
          refine wz_i0 (i3O (n := 6) (Eq.trans (zm_rd (Z := Z5) (ν := ν) (k := 68) (show ((0 : Nat) : Int) = 0 from rfl) (show ((0 : Nat) : Int) = 0 from rfl) (show ((2 : Nat) : Int) = 2 from rfl)) (congrArg i3 ((hZ5A.2.2.1)))) (by omega) (by omega) (by omega)) ?_
          refine wz_i0 (i3O (n := 6) (Eq.trans (zm_rd (Z := Z5) (ν := ν) (k := 68) (show ((0 : Nat) : Int) = 0 from rfl) (show ((0 : Nat) : Int) = 0 from rfl) (show ((1 : Nat) : Int) = 1 from rfl)) (congrArg i3 ((hZ5A.2.1)))) (by omega) (by omega) (by omega)) ?_
          refine wz_i0 (i3O (n := 6) (Eq.trans (zm_rd (Z := Z5) (ν := ν) (k := 68) (show ((0 : Nat) : Int) = 0 from rfl) (show ((0 : Nat) : Int) = 0 from rfl) (show ((2 : Nat) : Int) = 2 from rfl)) (congrArg i3 ((hZ5A.2.2.1)))) (by omega) (by omega) (by omega)) ?_
          obtain ⟨Z6, hZ6⟩ := zx (zu Z5 40 0 a1 a2 a3)
          have hZ6I := zI_u hZ5I hZ6 (lo := 0) (hi := 12) (by decide) (zrc_40 (by omega) (by omega)) (by omega) ⟨by decide, by decide⟩ (Or.inl (by decide))
          have hZ6K := zK_u hZ5K hZ6 (by decide)
          intro μ9 e9
          replace e9 := e9.trans (zm_wI (Z := Z5) (ν := ν) hZ6 (show ((0 : Nat) : Int) = 0 from rfl) (i3I (y := a1) (Eq.trans (zm_rd (Z := Z5) (ν := ν) (k := 68) (show ((0 : Nat) : Int) = 0 from rfl) (show ((0 : Nat) : Int) = 0 from rfl) (show ((1 : Nat) : Int) = 1 from rfl)) (congrArg i3 ((hZ5A.2.1)))) (by omega) (by omega) (by omega)) (i3I (y := a2) (Eq.trans (zm_rd (Z := Z5) (ν := ν) (k := 68) (show ((0 : Nat) : Int) = 0 from rfl) (show ((0 : Nat) : Int) = 0 from rfl) (show ((2 : Nat) : Int) = 2 from rfl)) (congrArg i3 ((hZ5A.2.2.1)))) (by omega) (by omega) (by omega)) (Eq.trans (zm_rd (Z := Z5) (ν := ν) (k := 68) (show ((0 : Nat) : Int) = 0 from rfl) (show ((0 : Nat) : Int) = 0 from rfl) (show ((3 : Nat) : Int) = 3 from rfl)) (congrArg i3 ((hZ5A.2.2.2.1)))))
          subst e9
          refine wz_i0 (i3O (n := 6) (Eq.trans (zm_rd (Z := Z5) (ν := ν) (k := 68) (show ((0 : Nat) : Int) = 0 from rfl) (show ((0 : Nat) : Int) = 0 from rfl) (show ((2 : Nat) : Int) = 2 from rfl)) (congrArg i3 ((hZ5A.2.2.1)))) (by omega) (by omega) (by omega)) ?_
          refine wz_i0 (i3O (n := 6) (Eq.trans (zm_rd (Z := Z5) (ν := ν) (k := 68) (show ((0 : Nat) : Int) = 0 from rfl) (show ((0 : Nat) : Int) = 0 from rfl) (show ((1 : Nat) : Int) = 1 from rfl)) (congrArg i3 ((hZ5A.2.1)))) (by omega) (by omega) (by omega)) ?_
          obtain ⟨Z7, hZ7⟩ := zx (zu Z6 40 0 a2 a1 a3)
          have hZ7I := zI_u hZ6I hZ7 (lo := 0) (hi := 12) (by decide) (zrc_40 (by omega) (by omega)) (by omega) ⟨by decide, by decide⟩ (Or.inl (by decide))
          have hZ7K := zK_u hZ6K hZ7 (by decide)
          intro μ9 e9
          replace e9 := e9.trans (zm_wI (Z := Z6) (ν := ν) hZ7 (show ((0 : Nat) : Int) = 0 from rfl) (i3I (y := a2) (Eq.trans (zm_rd (Z := Z5) (ν := ν) (k := 68) (show ((0 : Nat) : Int) = 0 from rfl) (show ((0 : Nat) : Int) = 0 from rfl) (show ((2 : Nat) : Int) = 2 from rfl)) (congrArg i3 ((hZ5A.2.2.1)))) (by omega) (by omega) (by omega)) (i3I (y := a1) (Eq.trans (zm_rd (Z := Z5) (ν := ν) (k := 68) (show ((0 : Nat) : Int) = 0 from rfl) (show ((0 : Nat) : Int) = 0 from rfl) (show ((1 : Nat) : Int) = 1 from rfl)) (congrArg i3 ((hZ5A.2.1)))) (by omega) (by omega) (by omega)) (Eq.trans (zm_rd (Z := Z5) (ν := ν) (k := 68) (show ((0 : Nat) : Int) = 0 from rfl) (show ((0 : Nat) : Int) = 0 from rfl) (show ((3 : Nat) : Int) = 3 from rfl)) (congrArg i3 ((hZ5A.2.2.2.1)))))
          subst e9
          have r8 := frz_r 40 a1 a2
          exact zlX hP (Eq.trans (zm_rd (Z := Z5) (ν := ν) (k := 40) (show ((0 : Nat) : Int) = 0 from rfl) (i3I (y := a1) (Eq.trans (zm_rd (Z := Z5) (ν := ν) (k := 68) (show ((0 : Nat) : Int) = 0 from rfl) (show ((0 : Nat) : Int) = 0 from rfl) (show ((1 : Nat) : Int) = 1 from rfl)) (congrArg i3 ((hZ5A.2.1)))) (by omega) (by omega) (by omega)) (i3I (y := a2) (Eq.trans (zm_rd (Z := Z5) (ν := ν) (k := 68) (show ((0 : Nat) : Int) = 0 from rfl) (show ((0 : Nat) : Int) = 0 from rfl) (show ((2 : Nat) : Int) = 2 from rfl)) (congrArg i3 ((hZ5A.2.2.1)))) (by omega) (by omega) (by omega))) (congrArg i3 (hZ5F 40 a1 a2 (frp_s (by decide))))) ⟨hZ7I, hZ7K, zN_r⟩
        · replace hP := zE_n hP h4
          exact zlXe (E := 12) hP ⟨hZ, zK_r, zN_k rfl⟩
      · replace hP := zE_n hP h3
        exact zlXe (E := 12) hP ⟨hZ, zK_r, zN_k rfl⟩
    · replace hP := zE_n hP h2
      exact zlXe (E := 23) hP ⟨hZ, zK_r, zN_k rfl⟩
  · replace hP := zE_n hP h1
    exact zlXe (E := 23) hP ⟨hZ, zK_r, zN_k rfl⟩

/- yX11_load -/
def zg_215 (a1 : Int) (a2 : Int) : Int × Int := (if a1 < 0 then (0, 24) else (0, 24))
theorem sg_215 {Z : qz_Z} {ν : qz_N} (hZ : zI none Z) (hF : zF Z) {a1 : Int} (ga1 : -2147483648 ≤ a1 ∧ a1 ≤ 2147483647) {a2 : Int} (ga2 : -2147483648 ≤ a2 ∧ a2 ≤ 2147483647) : ∃ (Z1 : qz_Z) (ν1 : qz_N) (v E : Int), (v, E) = zg_215 a1 a2 ∧ qf_215 [.inr (.inr (some (0, 0, 0))), .inl (i3 a1), .inl (i3 a2)] (zm Z ν) = some (zm Z1 ν1, zoX v E) ∧ (fun Z1 ν1 => zI none Z1 ∧ zK [] Z Z1 ∧ zN ν ν1) Z1 ν1 := by
  obtain ⟨P, hP⟩ := zx (zg_215 a1 a2)
  refine zc_X (Q := fun Z1 ν1 => zI none Z1 ∧ zK [] Z Z1 ∧ zN ν ν1) hP (fw_215 (i3 a1) (i3 a2) _ _ ?_)
  replace hP : zE P (zg_215 a1 a2) := hP
  unfold zg_215 at hP
  refine fw_49 _ _ _ _ _ ?_
  refine wz_br (i3L (rfl : i3 a1 = i3 a1) (show (0 : Int32) = i3 0 from rfl) (by omega) (by omega) (by omega) (by omega)) (fun h1 => ?_) (fun h1 => ?_)
  · replace hP := zE_p hP h1
    refine wz_i0 (Eq.trans (i3NE (show (1 : Int32) = i3 1 from rfl) (show (1 : Int32) = i3 1 from rfl) (by omega) (by omega) (by omega) (by omega)) (decide_eq_false (by omega))) ?_
    exact zlXe (E := 23) hP ⟨hZ, zK_r, zN_k rfl⟩
  · replace hP := zE_n hP h1
    refine wz_i1 (Eq.trans (i3Le (Eq.trans (zm_rd (Z := Z) (ν := ν) (k := 11) (show ((0 : Nat) : Int) = 0 from rfl) (show ((0 : Nat) : Int) = 0 from rfl) (show ((6 : Nat) : Int) = 6 from rfl)) (congrArg i3 ((hF 11 0 6 (by decide)).trans ((show frz 11 0 6 = 0 from by decide))))) (rfl : i3 a1 = i3 a1) (by omega) (by omega) (by omega) (by omega)) (decide_eq_true (by omega))) ?_
    refine wz_i0 (Eq.trans (i3NE (show (1 : Int32) = i3 1 from rfl) (show (1 : Int32) = i3 1 from rfl) (by omega) (by omega) (by omega) (by omega)) (decide_eq_false (by omega))) ?_
    exact zlXe (E := 23) hP ⟨hZ, zK_r, zN_k rfl⟩

/- yX11_parcel -/
def zg_226 (a1 : Int) (a2 : Int) : Int × Int := (0, 24)
theorem sg_226 {Z : qz_Z} {ν : qz_N} (hZ : zI none Z) (hF : zF Z) {a1 : Int} (ga1 : -2147483648 ≤ a1 ∧ a1 ≤ 2147483647) {a2 : Int} (ga2 : -2147483648 ≤ a2 ∧ a2 ≤ 2147483647) : ∃ (Z1 : qz_Z) (ν1 : qz_N) (v E : Int), (v, E) = zg_226 a1 a2 ∧ qf_226 [.inr (.inr (some (0, 0, 0))), .inl (i3 a1), .inl (i3 a2)] (zm Z ν) = some (zm Z1 ν1, zoX v E) ∧ (fun Z1 ν1 => zI none Z1 ∧ zK [] Z Z1 ∧ zN ν ν1) Z1 ν1 := by
  obtain ⟨P, hP⟩ := zx (zg_226 a1 a2)
  refine zc_X (Q := fun Z1 ν1 => zI none Z1 ∧ zK [] Z Z1 ∧ zN ν ν1) hP (fw_226 (i3 a1) (i3 a2) _ _ ?_)
  replace hP : zE P (zg_226 a1 a2) := hP
  unfold zg_226 at hP
  refine wz_thing_n (rfl : i3 a1 = i3 a1) (Eq.trans (zm_rd (Z := Z) (ν := ν) (k := 11) (show ((0 : Nat) : Int) = 0 from rfl) (show ((0 : Nat) : Int) = 0 from rfl) (show ((6 : Nat) : Int) = 6 from rfl)) (congrArg i3 ((hF 11 0 6 (by decide)).trans ((show frz 11 0 6 = 0 from by decide))))) (by omega) (by omega) (by omega) (by omega) (by omega) ?_
  exact zlXe (E := 23) hP ⟨hZ, zK_r, zN_k rfl⟩

/- yX11_inspector -/
def zg_211 (a1 : Int) (a2 : Int) : Int × Int := (if 0 ≤ a1 ∧ a1 ≤ 18 then (if 0 ≤ a2 ∧ a2 ≤ 3 then (0, 0) else (0, 13)) else (0, 13))
theorem sg_211 {Z : qz_Z} {ν : qz_N} (hZ : zI none Z) (hF : zF Z) {a1 : Int} (ga1 : -2147483648 ≤ a1 ∧ a1 ≤ 2147483647) {a2 : Int} (ga2 : -2147483648 ≤ a2 ∧ a2 ≤ 2147483647) : ∃ (Z1 : qz_Z) (ν1 : qz_N) (v E : Int), (v, E) = zg_211 a1 a2 ∧ qf_211 [.inr (.inr (some (0, 0, 0))), .inl (i3 a1), .inl (i3 a2)] (zm Z ν) = some (zm Z1 ν1, zoX v E) ∧ (fun Z1 ν1 => zI none Z1 ∧ zK [3, 11, 12, 13, 14, 40, 41, 42, 43, 44, 45, 46, 47, 48, 49, 50, 51, 52, 53, 54, 61, 68] Z Z1 ∧ zN ν ν1) Z1 ν1 := by
  obtain ⟨P, hP⟩ := zx (zg_211 a1 a2)
  refine zc_X (Q := fun Z1 ν1 => zI none Z1 ∧ zK [3, 11, 12, 13, 14, 40, 41, 42, 43, 44, 45, 46, 47, 48, 49, 50, 51, 52, 53, 54, 61, 68] Z Z1 ∧ zN ν ν1) hP (fw_211 (i3 a1) (i3 a2) _ _ ?_)
  replace hP : zE P (zg_211 a1 a2) := hP
  unfold zg_211 at hP
  refine wz_inR (rfl : i3 a1 = i3 a1) (show (0 : Int32) = i3 0 from rfl) (show (18 : Int32) = i3 18 from rfl) (by omega) (by omega) (by omega) (by omega) (by omega) (by omega) (fun h1 => ?_) (fun h1 => ?_)
  · replace hP := zE_p hP h1
    refine wz_inR (rfl : i3 a2 = i3 a2) (show (0 : Int32) = i3 0 from rfl) (show (3 : Int32) = i3 3 from rfl) (by omega) (by omega) (by omega) (by omega) (by omega) (by omega) (fun h2 => ?_) (fun h2 => ?_)
    · replace hP := zE_p hP h2
      refine wz_i0 (Eq.trans (i3Le (show (2 : Int32) = i3 2 from rfl) (Eq.trans (zm_rd (Z := Z) (ν := ν) (k := 11) (show ((0 : Nat) : Int) = 0 from rfl) (show ((0 : Nat) : Int) = 0 from rfl) (show ((9 : Nat) : Int) = 9 from rfl)) (congrArg i3 ((hF 11 0 9 (by decide)).trans ((show frz 11 0 9 = 0 from by decide))))) (by omega) (by omega) (by omega) (by omega)) (decide_eq_false (by omega))) ?_
      refine wz_inT_y (show (1 : Int32) = i3 1 from rfl) (by omega) (by omega) (by omega) ?_
      refine dc_J (zcons rfl (zcons (zvi (show (22 : Int32) = i3 22 from rfl)) (zcons (zvi (rfl : i3 a1 = i3 a1)) (zcons (zvi (rfl : i3 a2 = i3 a2)) (zcons (zvi (show (0 : Int32) = i3 0 from rfl)) (zcons (zvi (show (0 : Int32) = i3 0 from rfl)) (zcons (zvi (show (0 : Int32) = i3 0 from rfl)) (zcons (zvi (show (0 : Int32) = i3 0 from rfl)) rfl)))))))) (dc_I (ws := [3, 11, 12, 13, 14, 40, 41, 42, 43, 44, 45, 46, 47, 48, 49, 50, 51, 52, 53, 54, 61, 68]) (Z0 := Z) hF hZ zK_r (by decide) (by omega) (by omega) (by omega) (by omega) (by omega) (by omega) (by omega) (fun Z4 hZ4I hZ4F hZ4A hZ4K => ?_))
      refine fw_121 _ _ _ _ ?_
      refine wz_i1 rfl ?_
      refine wz_i0 (i3O (n := 7) (show (0 : Int32) = i3 0 from rfl) (by omega) (by omega) (by omega)) ?_
      refine wz_i0 (Eq.trans (i3To (Eq.trans (zm_rd (Z := Z4) (ν := ν) (k := 68) (show ((0 : Nat) : Int) = 0 from rfl) (show ((0 : Nat) : Int) = 0 from rfl) (show ((0 : Nat) : Int) = 0 from rfl)) (congrArg i3 ((hZ4A.1)))) (by omega) (by omega)) (decide_eq_false (by omega))) ?_
      refine wz_i0 (Eq.trans (i3T (Eq.trans (zm_rd (Z := Z4) (ν := ν) (k := 68) (show ((0 : Nat) : Int) = 0 from rfl) (show ((0 : Nat) : Int) = 0 from rfl) (show ((0 : Nat) : Int) = 0 from rfl)) (congrArg i3 ((hZ4A.1)))) (by omega) (by omega)) (decide_eq_false (by omega))) ?_
      refine wz_i0 (Eq.trans (i3T (Eq.trans (zm_rd (Z := Z4) (ν := ν) (k := 68) (show ((0 : Nat) : Int) = 0 from rfl) (show ((0 : Nat) : Int) = 0 from rfl) (show ((0 : Nat) : Int) = 0 from rfl)) (congrArg i3 ((hZ4A.1)))) (by omega) (by omega)) (decide_eq_false (by omega))) ?_
      refine wz_i0 (Eq.trans (i3T (Eq.trans (zm_rd (Z := Z4) (ν := ν) (k := 68) (show ((0 : Nat) : Int) = 0 from rfl) (show ((0 : Nat) : Int) = 0 from rfl) (show ((0 : Nat) : Int) = 0 from rfl)) (congrArg i3 ((hZ4A.1)))) (by omega) (by omega)) (decide_eq_false (by omega))) ?_
      refine wz_i0 (Eq.trans (i3T (Eq.trans (zm_rd (Z := Z4) (ν := ν) (k := 68) (show ((0 : Nat) : Int) = 0 from rfl) (show ((0 : Nat) : Int) = 0 from rfl) (show ((0 : Nat) : Int) = 0 from rfl)) (congrArg i3 ((hZ4A.1)))) (by omega) (by omega)) (decide_eq_false (by omega))) ?_
      refine wz_i0 (Eq.trans (i3T (Eq.trans (zm_rd (Z := Z4) (ν := ν) (k := 68) (show ((0 : Nat) : Int) = 0 from rfl) (show ((0 : Nat) : Int) = 0 from rfl) (show ((0 : Nat) : Int) = 0 from rfl)) (congrArg i3 ((hZ4A.1)))) (by omega) (by omega)) (decide_eq_false (by omega))) ?_
      refine wz_i0 (Eq.trans (i3T (Eq.trans (zm_rd (Z := Z4) (ν := ν) (k := 68) (show ((0 : Nat) : Int) = 0 from rfl) (show ((0 : Nat) : Int) = 0 from rfl) (show ((0 : Nat) : Int) = 0 from rfl)) (congrArg i3 ((hZ4A.1)))) (by omega) (by omega)) (decide_eq_false (by omega))) ?_
      refine wz_i0 (Eq.trans (i3T (Eq.trans (zm_rd (Z := Z4) (ν := ν) (k := 68) (show ((0 : Nat) : Int) = 0 from rfl) (show ((0 : Nat) : Int) = 0 from rfl) (show ((0 : Nat) : Int) = 0 from rfl)) (congrArg i3 ((hZ4A.1)))) (by omega) (by omega)) (decide_eq_false (by omega))) ?_
      refine wz_i0 (Eq.trans (i3T (Eq.trans (zm_rd (Z := Z4) (ν := ν) (k := 68) (show ((0 : Nat) : Int) = 0 from rfl) (show ((0 : Nat) : Int) = 0 from rfl) (show ((0 : Nat) : Int) = 0 from rfl)) (congrArg i3 ((hZ4A.1)))) (by omega) (by omega)) (decide_eq_false (by omega))) ?_
      refine wz_i0 (Eq.trans (i3T (Eq.trans (zm_rd (Z := Z4) (ν := ν) (k := 68) (show ((0 : Nat) : Int) = 0 from rfl) (show ((0 : Nat) : Int) = 0 from rfl) (show ((0 : Nat) : Int) = 0 from rfl)) (congrArg i3 ((hZ4A.1)))) (by omega) (by omega)) (decide_eq_false (by omega))) ?_
      refine wz_i0 (Eq.trans (i3T (Eq.trans (zm_rd (Z := Z4) (ν := ν) (k := 68) (show ((0 : Nat) : Int) = 0 from rfl) (show ((0 : Nat) : Int) = 0 from rfl) (show ((0 : Nat) : Int) = 0 from rfl)) (congrArg i3 ((hZ4A.1)))) (by omega) (by omega)) (decide_eq_false (by omega))) ?_
      refine wz_i0 (Eq.trans (i3T (Eq.trans (zm_rd (Z := Z4) (ν := ν) (k := 68) (show ((0 : Nat) : Int) = 0 from rfl) (show ((0 : Nat) : Int) = 0 from rfl) (show ((0 : Nat) : Int) = 0 from rfl)) (congrArg i3 ((hZ4A.1)))) (by omega) (by omega)) (decide_eq_false (by omega))) ?_
      refine wz_i0 (Eq.trans (i3T (Eq.trans (zm_rd (Z := Z4) (ν := ν) (k := 68) (show ((0 : Nat) : Int) = 0 from rfl) (show ((0 : Nat) : Int) = 0 from rfl) (show ((0 : Nat) : Int) = 0 from rfl)) (congrArg i3 ((hZ4A.1)))) (by omega) (by omega)) (decide_eq_false (by omega))) ?_
      refine wz_i0 (Eq.trans (i3T (Eq.trans (zm_rd (Z := Z4) (ν := ν) (k := 68) (show ((0 : Nat) : Int) = 0 from rfl) (show ((0 : Nat) : Int) = 0 from rfl) (show ((0 : Nat) : Int) = 0 from rfl)) (congrArg i3 ((hZ4A.1)))) (by omega) (by omega)) (decide_eq_false (by omega))) ?_
      refine wz_i0 (Eq.trans (i3T (Eq.trans (zm_rd (Z := Z4) (ν := ν) (k := 68) (show ((0 : Nat) : Int) = 0 from rfl) (show ((0 : Nat) : Int) = 0 from rfl) (show ((0 : Nat) : Int) = 0 from rfl)) (congrArg i3 ((hZ4A.1)))) (by omega) (by omega)) (decide_eq_false (by omega))) ?_
      refine wz_i0 (Eq.trans (i3T (Eq.trans (zm_rd (Z := Z4) (ν := ν) (k := 68) (show ((0 : Nat) : Int) = 0 from rfl) (show ((0 : Nat) : Int) = 0 from rfl) (show ((0 : Nat) : Int) = 0 from rfl)) (congrArg i3 ((hZ4A.1)))) (by omega) (by omega)) (decide_eq_false (by omega))) ?_
      refine wz_i0 (Eq.trans (i3T (Eq.trans (zm_rd (Z := Z4) (ν := ν) (k := 68) (show ((0 : Nat) : Int) = 0 from rfl) (show ((0 : Nat) : Int) = 0 from rfl) (show ((0 : Nat) : Int) = 0 from rfl)) (congrArg i3 ((hZ4A.1)))) (by omega) (by omega)) (decide_eq_false (by omega))) ?_
      refine wz_i0 (Eq.trans (i3T (Eq.trans (zm_rd (Z := Z4) (ν := ν) (k := 68) (show ((0 : Nat) : Int) = 0 from rfl) (show ((0 : Nat) : Int) = 0 from rfl) (show ((0 : Nat) : Int) = 0 from rfl)) (congrArg i3 ((hZ4A.1)))) (by omega) (by omega)) (decide_eq_false (by omega))) ?_
      refine wz_i0 (Eq.trans (i3T (Eq.trans (zm_rd (Z := Z4) (ν := ν) (k := 68) (show ((0 : Nat) : Int) = 0 from rfl) (show ((0 : Nat) : Int) = 0 from rfl) (show ((0 : Nat) : Int) = 0 from rfl)) (congrArg i3 ((hZ4A.1)))) (by omega) (by omega)) (decide_eq_false (by omega))) ?_
      refine wz_i0 (Eq.trans (i3T (Eq.trans (zm_rd (Z := Z4) (ν := ν) (k := 68) (show ((0 : Nat) : Int) = 0 from rfl) (show ((0 : Nat) : Int) = 0 from rfl) (show ((0 : Nat) : Int) = 0 from rfl)) (congrArg i3 ((hZ4A.1)))) (by omega) (by omega)) (decide_eq_false (by omega))) ?_
      refine wz_i0 (Eq.trans (i3T (Eq.trans (zm_rd (Z := Z4) (ν := ν) (k := 68) (show ((0 : Nat) : Int) = 0 from rfl) (show ((0 : Nat) : Int) = 0 from rfl) (show ((0 : Nat) : Int) = 0 from rfl)) (congrArg i3 ((hZ4A.1)))) (by omega) (by omega)) (decide_eq_false (by omega))) ?_
      refine wz_i0 (Eq.trans (i3T (Eq.trans (zm_rd (Z := Z4) (ν := ν) (k := 68) (show ((0 : Nat) : Int) = 0 from rfl) (show ((0 : Nat) : Int) = 0 from rfl) (show ((0 : Nat) : Int) = 0 from rfl)) (congrArg i3 ((hZ4A.1)))) (by omega) (by omega)) (decide_eq_false (by omega))) ?_
      refine wz_i0 (Eq.trans (i3T (Eq.trans (zm_rd (Z := Z4) (ν := ν) (k := 68) (show ((0 : Nat) : Int) = 0 from rfl) (show ((0 : Nat) : Int) = 0 from rfl) (show ((0 : Nat) : Int) = 0 from rfl)) (congrArg i3 ((hZ4A.1)))) (by omega) (by omega)) (decide_eq_false (by omega))) ?_
      refine wz_i1 (Eq.trans (i3T (Eq.trans (zm_rd (Z := Z4) (ν := ν) (k := 68) (show ((0 : Nat) : Int) = 0 from rfl) (show ((0 : Nat) : Int) = 0 from rfl) (show ((0 : Nat) : Int) = 0 from rfl)) (congrArg i3 ((hZ4A.1)))) (by omega) (by omega)) (decide_eq_true (by omega))) ?_
      refine wz_i1 rfl ?_
      refine wz_i0 (i3O (n := 7) (show (1 : Int32) = i3 1 from rfl) (by omega) (by omega) (by omega)) ?_
      refine wz_i1 rfl ?_
      refine wz_i0 (i3O (n := 7) (show (2 : Int32) = i3 2 from rfl) (by omega) (by omega) (by omega)) ?_
      refine wz_i0 (i3O (n := 2) (Eq.trans (zm_rd (Z := Z4) (ν := ν) (k := 11) (show ((0 : Nat) : Int) = 0 from rfl) (show ((0 : Nat) : Int) = 0 from rfl) (show ((9 : Nat) : Int) = 9 from rfl)) (congrArg i3 ((hZ4F 11 0 9 (by decide)).trans ((show frz 11 0 9 = 0 from by decide))))) (by omega) (by omega) (by omega)) ?_
      obtain ⟨Z5, hZ5⟩ := zx (zu Z4 51 0 0 0 a1)
      have hZ5I := zI_u hZ4I hZ5 (lo := 0) (hi := 18) (by decide) rfl (by omega) ⟨by decide, by decide⟩ (Or.inl (by decide))
      have hZ5K := zK_u hZ4K hZ5 (by decide)
      intro μ9 e9
      replace e9 := e9.trans (zm_wI (Z := Z4) (ν := ν) hZ5 (show ((0 : Nat) : Int) = 0 from rfl) (i3I (y := 0) (Eq.trans (zm_rd (Z := Z4) (ν := ν) (k := 11) (show ((0 : Nat) : Int) = 0 from rfl) (show ((0 : Nat) : Int) = 0 from rfl) (show ((9 : Nat) : Int) = 9 from rfl)) (congrArg i3 ((hZ4F 11 0 9 (by decide)).trans ((show frz 11 0 9 = 0 from by decide))))) (by omega) (by omega) (by omega)) (show ((0 : Nat) : Int) = 0 from rfl) (Eq.trans (zm_rd (Z := Z4) (ν := ν) (k := 68) (show ((0 : Nat) : Int) = 0 from rfl) (show ((0 : Nat) : Int) = 0 from rfl) (show ((1 : Nat) : Int) = 1 from rfl)) (congrArg i3 ((hZ4A.2.1)))))
      subst e9
      obtain ⟨Z6, hZ6⟩ := zx (zu Z5 51 0 0 1 a2)
      have hZ6I := zI_u hZ5I hZ6 (lo := 0) (hi := 3) (by decide) rfl (by omega) ⟨by decide, by decide⟩ (Or.inl (by decide))
      have hZ6K := zK_u hZ5K hZ6 (by decide)
      intro μ9 e9
      replace e9 := e9.trans (zm_wI (Z := Z5) (ν := ν) hZ6 (show ((0 : Nat) : Int) = 0 from rfl) (i3I (y := 0) (Eq.trans (zm_rd (Z := Z4) (ν := ν) (k := 11) (show ((0 : Nat) : Int) = 0 from rfl) (show ((0 : Nat) : Int) = 0 from rfl) (show ((9 : Nat) : Int) = 9 from rfl)) (congrArg i3 ((hZ4F 11 0 9 (by decide)).trans ((show frz 11 0 9 = 0 from by decide))))) (by omega) (by omega) (by omega)) (show ((1 : Nat) : Int) = 1 from rfl) (Eq.trans (zm_rd (Z := Z4) (ν := ν) (k := 68) (show ((0 : Nat) : Int) = 0 from rfl) (show ((0 : Nat) : Int) = 0 from rfl) (show ((2 : Nat) : Int) = 2 from rfl)) (congrArg i3 ((hZ4A.2.2.1)))))
      subst e9
      obtain ⟨Z7, hZ7⟩ := zx (zu Z6 51 0 0 7 (-1))
      have hZ7I := zI_u hZ6I hZ7 (lo := -1) (hi := 671) (by decide) rfl (by omega) ⟨by decide, by decide⟩ (Or.inl (by decide))
      have hZ7K := zK_u hZ6K hZ7 (by decide)
      intro μ9 e9
      replace e9 := e9.trans (zm_wI (Z := Z6) (ν := ν) hZ7 (show ((0 : Nat) : Int) = 0 from rfl) (i3I (y := 0) (Eq.trans (zm_rd (Z := Z4) (ν := ν) (k := 11) (show ((0 : Nat) : Int) = 0 from rfl) (show ((0 : Nat) : Int) = 0 from rfl) (show ((9 : Nat) : Int) = 9 from rfl)) (congrArg i3 ((hZ4F 11 0 9 (by decide)).trans ((show frz 11 0 9 = 0 from by decide))))) (by omega) (by omega) (by omega)) (show ((7 : Nat) : Int) = 7 from rfl) (show (-1 : Int32) = i3 (-1) from rfl))
      subst e9
      obtain ⟨Z8, hZ8⟩ := zx (zu Z7 11 0 0 9 (0 + 1))
      have hZ8I := zI_u hZ7I hZ8 (lo := 0) (hi := 2) (by decide) rfl (by omega) ⟨by decide, by decide⟩ (Or.inl (by decide))
      have hZ8K := zK_u hZ7K hZ8 (by decide)
      intro μ9 e9
      replace e9 := e9.trans (zm_wI (Z := Z7) (ν := ν) hZ8 (show ((0 : Nat) : Int) = 0 from rfl) (show ((0 : Nat) : Int) = 0 from rfl) (show ((9 : Nat) : Int) = 9 from rfl) (i3A (Eq.trans (zm_rd (Z := Z7) (ν := ν) (k := 11) (show ((0 : Nat) : Int) = 0 from rfl) (show ((0 : Nat) : Int) = 0 from rfl) (show ((9 : Nat) : Int) = 9 from rfl)) (congrArg i3 ((zu_ne (k' := 11) (b' := 0) (i' := 0) (j' := 9) hZ7 (fun q => absurd q.1 (by decide))).trans ((zu_ne (k' := 11) (b' := 0) (i' := 0) (j' := 9) hZ6 (fun q => absurd q.1 (by decide))).trans ((zu_ne (k' := 11) (b' := 0) (i' := 0) (j' := 9) hZ5 (fun q => absurd q.1 (by decide))).trans ((hZ4F 11 0 9 (by decide)).trans ((show frz 11 0 9 = 0 from by decide)))))))) (show (1 : Int32) = i3 1 from rfl)))
      subst e9
      exact zlX hP (Eq.trans (zm_rd (Z := Z7) (ν := ν) (k := 11) (show ((0 : Nat) : Int) = 0 from rfl) (show ((0 : Nat) : Int) = 0 from rfl) (show ((9 : Nat) : Int) = 9 from rfl)) (congrArg i3 ((zu_ne (k' := 11) (b' := 0) (i' := 0) (j' := 9) hZ7 (fun q => absurd q.1 (by decide))).trans ((zu_ne (k' := 11) (b' := 0) (i' := 0) (j' := 9) hZ6 (fun q => absurd q.1 (by decide))).trans ((zu_ne (k' := 11) (b' := 0) (i' := 0) (j' := 9) hZ5 (fun q => absurd q.1 (by decide))).trans ((hZ4F 11 0 9 (by decide)).trans ((show frz 11 0 9 = 0 from by decide)))))))) ⟨hZ8I, hZ8K, zN_r⟩
    · replace hP := zE_n hP h2
      exact zlXe (E := 12) hP ⟨hZ, zK_r, zN_k rfl⟩
  · replace hP := zE_n hP h1
    exact zlXe (E := 12) hP ⟨hZ, zK_r, zN_k rfl⟩

/- yX11_found -/
def zg_201 (a1 : Int) (a2 : Int) : Int × Int := (0, 24)
theorem sg_201 {Z : qz_Z} {ν : qz_N} (hZ : zI none Z) (hF : zF Z) {a1 : Int} (ga1 : -2147483648 ≤ a1 ∧ a1 ≤ 2147483647) {a2 : Int} (ga2 : -2147483648 ≤ a2 ∧ a2 ≤ 2147483647) : ∃ (Z1 : qz_Z) (ν1 : qz_N) (v E : Int), (v, E) = zg_201 a1 a2 ∧ qf_201 [.inr (.inr (some (0, 0, 0))), .inl (i3 a1), .inl (i3 a2)] (zm Z ν) = some (zm Z1 ν1, zoX v E) ∧ (fun Z1 ν1 => zI none Z1 ∧ zK [] Z Z1 ∧ zN ν ν1) Z1 ν1 := by
  obtain ⟨P, hP⟩ := zx (zg_201 a1 a2)
  refine zc_X (Q := fun Z1 ν1 => zI none Z1 ∧ zK [] Z Z1 ∧ zN ν ν1) hP (fw_201 (i3 a1) (i3 a2) _ _ ?_)
  replace hP : zE P (zg_201 a1 a2) := hP
  unfold zg_201 at hP
  refine wz_thing_n (rfl : i3 a1 = i3 a1) (i3Mn (show (24 : Int32) = i3 24 from rfl) (Eq.trans (zm_rd (Z := Z) (ν := ν) (k := 11) (show ((0 : Nat) : Int) = 0 from rfl) (show ((0 : Nat) : Int) = 0 from rfl) (show ((11 : Nat) : Int) = 11 from rfl)) (congrArg i3 ((hF 11 0 11 (by decide)).trans ((show frz 11 0 11 = 0 from by decide))))) (by omega) (by omega) (by omega) (by omega)) (by omega) (by omega) (by omega) (by omega) (by omega) ?_
  exact zlXe (E := 23) hP ⟨hZ, zK_r, zN_k rfl⟩

/- yX11_account -/
def zg_185 (a1 : Int) : Int × Int := (if 0 ≤ a1 ∧ a1 ≤ 9 then (0, 0) else (0, 13))
theorem sg_185 {Z : qz_Z} {ν : qz_N} (hZ : zI none Z) (hF : zF Z) {a1 : Int} (ga1 : -2147483648 ≤ a1 ∧ a1 ≤ 2147483647) : ∃ (Z1 : qz_Z) (ν1 : qz_N) (v E : Int), (v, E) = zg_185 a1 ∧ qf_185 [.inr (.inr (some (0, 0, 0))), .inl (i3 a1)] (zm Z ν) = some (zm Z1 ν1, zoX v E) ∧ (fun Z1 ν1 => zI none Z1 ∧ zK [] Z Z1 ∧ zN ν ν1) Z1 ν1 := by
  obtain ⟨P, hP⟩ := zx (zg_185 a1)
  refine zc_X (Q := fun Z1 ν1 => zI none Z1 ∧ zK [] Z Z1 ∧ zN ν ν1) hP (fw_185 (i3 a1) _ _ ?_)
  replace hP : zE P (zg_185 a1) := hP
  unfold zg_185 at hP
  refine wz_inR (rfl : i3 a1 = i3 a1) (show (0 : Int32) = i3 0 from rfl) (show (9 : Int32) = i3 9 from rfl) (by omega) (by omega) (by omega) (by omega) (by omega) (by omega) (fun h1 => ?_) (fun h1 => ?_)
  · replace hP := zE_p hP h1
    refine wz_i0 (i3O (n := 10) (rfl : i3 a1 = i3 a1) (by omega) (by omega) (by omega)) ?_
    exact zlX hP (Eq.trans (zm_rd (Z := Z) (ν := ν) (k := 14) (show ((0 : Nat) : Int) = 0 from rfl) (show ((0 : Nat) : Int) = 0 from rfl) (i3I (y := a1) (rfl : i3 a1 = i3 a1) (by omega) (by omega) (by omega))) (congrArg i3 ((hF 14 0 a1 (by decide)).trans ((show frz 14 0 a1 = 0 from rfl))))) ⟨hZ, zK_r, zN_r⟩
  · replace hP := zE_n hP h1
    exact zlXe (E := 12) hP ⟨hZ, zK_r, zN_k rfl⟩

/- yX11_quarrel -/
def zg_231 (a1 : Int) (a2 : Int) : Int × Int := (0, 24)
theorem sg_231 {Z : qz_Z} {ν : qz_N} (hZ : zI none Z) (hF : zF Z) {a1 : Int} (ga1 : -2147483648 ≤ a1 ∧ a1 ≤ 2147483647) {a2 : Int} (ga2 : -2147483648 ≤ a2 ∧ a2 ≤ 2147483647) : ∃ (Z1 : qz_Z) (ν1 : qz_N) (v E : Int), (v, E) = zg_231 a1 a2 ∧ qf_231 [.inr (.inr (some (0, 0, 0))), .inl (i3 a1), .inl (i3 a2)] (zm Z ν) = some (zm Z1 ν1, zoX v E) ∧ (fun Z1 ν1 => zI none Z1 ∧ zK [] Z Z1 ∧ zN ν ν1) Z1 ν1 := by
  obtain ⟨P, hP⟩ := zx (zg_231 a1 a2)
  refine zc_X (Q := fun Z1 ν1 => zI none Z1 ∧ zK [] Z Z1 ∧ zN ν ν1) hP (fw_231 (i3 a1) (i3 a2) _ _ ?_)
  replace hP : zE P (zg_231 a1 a2) := hP
  unfold zg_231 at hP
  refine wz_thing_n (rfl : i3 a1 = i3 a1) (Eq.trans (zm_rd (Z := Z) (ν := ν) (k := 11) (show ((0 : Nat) : Int) = 0 from rfl) (show ((0 : Nat) : Int) = 0 from rfl) (show ((6 : Nat) : Int) = 6 from rfl)) (congrArg i3 ((hF 11 0 6 (by decide)).trans ((show frz 11 0 6 = 0 from by decide))))) (by omega) (by omega) (by omega) (by omega) (by omega) ?_
  exact zlXe (E := 23) hP ⟨hZ, zK_r, zN_k rfl⟩

/- yX11_sign -/
def zg_242 (a1 : Int) : Int × Int := (if 32 ≤ a1 ∧ a1 ≤ 126 then ((0 + 1), 0) else (0, 13))
theorem sg_242 {Z : qz_Z} {ν : qz_N} (hZ : zI none Z) (hF : zF Z) {a1 : Int} (ga1 : -2147483648 ≤ a1 ∧ a1 ≤ 2147483647) : ∃ (Z1 : qz_Z) (ν1 : qz_N) (v E : Int), (v, E) = zg_242 a1 ∧ qf_242 [.inr (.inr (some (0, 0, 0))), .inl (i3 a1)] (zm Z ν) = some (zm Z1 ν1, zoX v E) ∧ (fun Z1 ν1 => zI none Z1 ∧ zK [4, 66] Z Z1 ∧ zN ν ν1) Z1 ν1 := by
  obtain ⟨P, hP⟩ := zx (zg_242 a1)
  refine zc_X (Q := fun Z1 ν1 => zI none Z1 ∧ zK [4, 66] Z Z1 ∧ zN ν ν1) hP (fw_242 (i3 a1) _ _ ?_)
  replace hP : zE P (zg_242 a1) := hP
  unfold zg_242 at hP
  refine wz_inR (rfl : i3 a1 = i3 a1) (show (32 : Int32) = i3 32 from rfl) (show (126 : Int32) = i3 126 from rfl) (by omega) (by omega) (by omega) (by omega) (by omega) (by omega) (fun h1 => ?_) (fun h1 => ?_)
  · replace hP := zE_p hP h1
    refine wz_i0 (Eq.trans (i3Le (show (120 : Int32) = i3 120 from rfl) (Eq.trans (zm_rd (Z := Z) (ν := ν) (k := 4) (show ((0 : Nat) : Int) = 0 from rfl) (show ((0 : Nat) : Int) = 0 from rfl) (show ((1 : Nat) : Int) = 1 from rfl)) (congrArg i3 ((hF 4 0 1 (by decide)).trans ((show frz 4 0 1 = 0 from by decide))))) (by omega) (by omega) (by omega) (by omega)) (decide_eq_false (by omega))) ?_
    refine wz_inT_y (show (1 : Int32) = i3 1 from rfl) (by omega) (by omega) (by omega) ?_
    refine wz_i0 (i3O (n := 120) (Eq.trans (zm_rd (Z := Z) (ν := ν) (k := 4) (show ((0 : Nat) : Int) = 0 from rfl) (show ((0 : Nat) : Int) = 0 from rfl) (show ((1 : Nat) : Int) = 1 from rfl)) (congrArg i3 ((hF 4 0 1 (by decide)).trans ((show frz 4 0 1 = 0 from by decide))))) (by omega) (by omega) (by omega)) ?_
    obtain ⟨Z3, hZ3⟩ := zx (zu Z 66 0 0 0 a1)
    have hZ3I := zI_u hZ hZ3 (lo := -2147483648) (hi := 2147483647) (by decide) rfl (by omega) ⟨by decide, by decide⟩ (Or.inl (by decide))
    have hZ3K : zK [4, 66] Z Z3 := zK_u zK_r hZ3 (by decide)
    intro μ9 e9
    replace e9 := e9.trans (zm_wI (Z := Z) (ν := ν) hZ3 (show ((0 : Nat) : Int) = 0 from rfl) (show ((0 : Nat) : Int) = 0 from rfl) (i3I (y := 0) (Eq.trans (zm_rd (Z := Z) (ν := ν) (k := 4) (show ((0 : Nat) : Int) = 0 from rfl) (show ((0 : Nat) : Int) = 0 from rfl) (show ((1 : Nat) : Int) = 1 from rfl)) (congrArg i3 ((hF 4 0 1 (by decide)).trans ((show frz 4 0 1 = 0 from by decide))))) (by omega) (by omega) (by omega)) (rfl : i3 a1 = i3 a1))
    subst e9
    obtain ⟨Z4, hZ4⟩ := zx (zu Z3 4 0 0 1 (0 + 1))
    have hZ4I := zI_u hZ3I hZ4 (lo := -2147483648) (hi := 2147483647) (by decide) rfl (by omega) ⟨by decide, by decide⟩ (Or.inl (by decide))
    have hZ4K := zK_u hZ3K hZ4 (by decide)
    intro μ9 e9
    replace e9 := e9.trans (zm_wI (Z := Z3) (ν := ν) hZ4 (show ((0 : Nat) : Int) = 0 from rfl) (show ((0 : Nat) : Int) = 0 from rfl) (show ((1 : Nat) : Int) = 1 from rfl) (i3A (Eq.trans (zm_rd (Z := Z3) (ν := ν) (k := 4) (show ((0 : Nat) : Int) = 0 from rfl) (show ((0 : Nat) : Int) = 0 from rfl) (show ((1 : Nat) : Int) = 1 from rfl)) (congrArg i3 ((zu_ne (k' := 4) (b' := 0) (i' := 0) (j' := 1) hZ3 (fun q => absurd q.1 (by decide))).trans ((hF 4 0 1 (by decide)).trans ((show frz 4 0 1 = 0 from by decide)))))) (show (1 : Int32) = i3 1 from rfl)))
    subst e9
    exact zlX hP (Eq.trans (zm_rd (Z := Z4) (ν := ν) (k := 4) (show ((0 : Nat) : Int) = 0 from rfl) (show ((0 : Nat) : Int) = 0 from rfl) (show ((1 : Nat) : Int) = 1 from rfl)) (congrArg i3 (zu_at hZ4))) ⟨hZ4I, hZ4K, zN_r⟩
  · replace hP := zE_n hP h1
    exact zlXe (E := 12) hP ⟨hZ, zK_r, zN_k rfl⟩

/- yX11_again -/
def zg_186 (a1 : Int) : Int × Int := (if 0 ≤ a1 ∧ a1 ≤ 1 then (0, 15) else (0, 13))
theorem sg_186 {Z : qz_Z} {ν : qz_N} (hZ : zI none Z) (hF : zF Z) {a1 : Int} (ga1 : -2147483648 ≤ a1 ∧ a1 ≤ 2147483647) : ∃ (Z1 : qz_Z) (ν1 : qz_N) (v E : Int), (v, E) = zg_186 a1 ∧ qf_186 [.inr (.inr (some (0, 0, 0))), .inl (i3 a1)] (zm Z ν) = some (zm Z1 ν1, zoX v E) ∧ (fun Z1 ν1 => zI none Z1 ∧ zK [] Z Z1 ∧ zN ν ν1) Z1 ν1 := by
  obtain ⟨P, hP⟩ := zx (zg_186 a1)
  refine zc_X (Q := fun Z1 ν1 => zI none Z1 ∧ zK [] Z Z1 ∧ zN ν ν1) hP (fw_186 (i3 a1) _ _ ?_)
  replace hP : zE P (zg_186 a1) := hP
  unfold zg_186 at hP
  refine wz_inR (rfl : i3 a1 = i3 a1) (show (0 : Int32) = i3 0 from rfl) (show (1 : Int32) = i3 1 from rfl) (by omega) (by omega) (by omega) (by omega) (by omega) (by omega) (fun h1 => ?_) (fun h1 => ?_)
  · replace hP := zE_p hP h1
    refine wz_i0 (i3O (n := 2) (rfl : i3 a1 = i3 a1) (by omega) (by omega) (by omega)) ?_
    refine wz_inT_n (Eq.trans (zm_rd (Z := Z) (ν := ν) (k := 65) (show ((0 : Nat) : Int) = 0 from rfl) (show ((0 : Nat) : Int) = 0 from rfl) (i3I (y := a1) (rfl : i3 a1 = i3 a1) (by omega) (by omega) (by omega))) (congrArg i3 ((hF 65 0 a1 (by decide)).trans ((show frz 65 0 a1 = 0 from rfl))))) (by omega) (by omega) (by omega) ?_
    exact zlXe (E := 14) hP ⟨hZ, zK_r, zN_k rfl⟩
  · replace hP := zE_n hP h1
    exact zlXe (E := 12) hP ⟨hZ, zK_r, zN_k rfl⟩
