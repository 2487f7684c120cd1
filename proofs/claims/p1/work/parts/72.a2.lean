/-! the face at a new object, 2 (printed by api.py) -/
/- yX11_grower -/
def zg_204 (a1 : Int) (a2 : Int) : Int × Int := (if 0 ≤ a1 ∧ a1 ≤ 25 then (if 0 ≤ a2 ∧ a2 ≤ 9 then (0, 0) else (0, 13)) else (0, 13))
theorem sg_204 {Z : qz_Z} {ν : qz_N} (hZ : zI none Z) (hF : zF Z) {a1 : Int} (ga1 : -2147483648 ≤ a1 ∧ a1 ≤ 2147483647) {a2 : Int} (ga2 : -2147483648 ≤ a2 ∧ a2 ≤ 2147483647) : ∃ (Z1 : qz_Z) (ν1 : qz_N) (v E : Int), (v, E) = zg_204 a1 a2 ∧ qf_204 [.inr (.inr (some (0, 0, 0))), .inl (i3 a1), .inl (i3 a2)] (zm Z ν) = some (zm Z1 ν1, zoX v E) ∧ (fun Z1 ν1 => zI none Z1 ∧ zK [3, 11, 12, 13, 14, 40, 41, 42, 43, 44, 45, 46, 47, 48, 49, 50, 51, 52, 53, 54, 61, 68] Z Z1 ∧ zN ν ν1) Z1 ν1 := by
  obtain ⟨P, hP⟩ := zx (zg_204 a1 a2)
  refine zc_X (Q := fun Z1 ν1 => zI none Z1 ∧ zK [3, 11, 12, 13, 14, 40, 41, 42, 43, 44, 45, 46, 47, 48, 49, 50, 51, 52, 53, 54, 61, 68] Z Z1 ∧ zN ν ν1) hP (fw_204 (i3 a1) (i3 a2) _ _ ?_)
  replace hP : zE P (zg_204 a1 a2) := hP
  unfold zg_204 at hP
  refine wz_inR (rfl : i3 a1 = i3 a1) (show (0 : Int32) = i3 0 from rfl) (show (25 : Int32) = i3 25 from rfl) (by omega) (by omega) (by omega) (by omega) (by omega) (by omega) (fun h1 => ?_) (fun h1 => ?_)
  · replace hP := zE_p hP h1
    refine wz_inR (rfl : i3 a2 = i3 a2) (show (0 : Int32) = i3 0 from rfl) (show (9 : Int32) = i3 9 from rfl) (by omega) (by omega) (by omega) (by omega) (by omega) (by omega) (fun h2 => ?_) (fun h2 => ?_)
    · replace hP := zE_p hP h2
      refine wz_i0 (Eq.trans (i3Le (show (6 : Int32) = i3 6 from rfl) (Eq.trans (zm_rd (Z := Z) (ν := ν) (k := 11) (show ((0 : Nat) : Int) = 0 from rfl) (show ((0 : Nat) : Int) = 0 from rfl) (show ((1 : Nat) : Int) = 1 from rfl)) (congrArg i3 ((hF 11 0 1 (by decide)).trans ((show frz 11 0 1 = 0 from by decide))))) (by omega) (by omega) (by omega) (by omega)) (decide_eq_false (by omega))) ?_
      refine wz_inT_y (show (1 : Int32) = i3 1 from rfl) (by omega) (by omega) (by omega) ?_
      refine dc_J (zcons rfl (zcons (zvi (show (1 : Int32) = i3 1 from rfl)) (zcons (zvi (rfl : i3 a1 = i3 a1)) (zcons (zvi (rfl : i3 a2 = i3 a2)) (zcons (zvi (show (0 : Int32) = i3 0 from rfl)) (zcons (zvi (show (0 : Int32) = i3 0 from rfl)) (zcons (zvi (show (0 : Int32) = i3 0 from rfl)) (zcons (zvi (show (0 : Int32) = i3 0 from rfl)) rfl)))))))) (dc_I (ws := [3, 11, 12, 13, 14, 40, 41, 42, 43, 44, 45, 46, 47, 48, 49, 50, 51, 52, 53, 54, 61, 68]) (Z0 := Z) hF hZ zK_r (by decide) (by omega) (by omega) (by omega) (by omega) (by omega) (by omega) (by omega) (fun Z4 hZ4I hZ4F hZ4A hZ4K => ?_))
      refine fw_121 _ _ _ _ ?_
      refine wz_i1 rfl ?_
      refine wz_i0 (i3O (n := 7) (show (0 : Int32) = i3 0 from rfl) (by omega) (by omega) (by omega)) ?_
      refine wz_i0 (Eq.trans (i3To (Eq.trans (zm_rd (Z := Z4) (ν := ν) (k := 68) (show ((0 : Nat) : Int) = 0 from rfl) (show ((0 : Nat) : Int) = 0 from rfl) (show ((0 : Nat) : Int) = 0 from rfl)) (congrArg i3 ((hZ4A.1)))) (by omega) (by omega)) (decide_eq_false (by omega))) ?_
      refine wz_i0 (Eq.trans (i3T (Eq.trans (zm_rd (Z := Z4) (ν := ν) (k := 68) (show ((0 : Nat) : Int) = 0 from rfl) (show ((0 : Nat) : Int) = 0 from rfl) (show ((0 : Nat) : Int) = 0 from rfl)) (congrArg i3 ((hZ4A.1)))) (by omega) (by omega)) (decide_eq_false (by omega))) ?_
      refine wz_i1 (Eq.trans (i3T (Eq.trans (zm_rd (Z := Z4) (ν := ν) (k := 68) (show ((0 : Nat) : Int) = 0 from rfl) (show ((0 : Nat) : Int) = 0 from rfl) (show ((0 : Nat) : Int) = 0 from rfl)) (congrArg i3 ((hZ4A.1)))) (by omega) (by omega)) (decide_eq_true (by omega))) ?_
      refine wz_i1 rfl ?_
      refine wz_i0 (i3O (n := 7) (show (1 : Int32) = i3 1 from rfl) (by omega) (by omega) (by omega)) ?_
      refine wz_i1 rfl ?_
      refine wz_i0 (i3O (n := 7) (show (2 : Int32) = i3 2 from rfl) (by omega) (by omega) (by omega)) ?_
      refine wz_i0 (i3O (n := 6) (Eq.trans (zm_rd (Z := Z4) (ν := ν) (k := 11) (show ((0 : Nat) : Int) = 0 from rfl) (show ((0 : Nat) : Int) = 0 from rfl) (show ((1 : Nat) : Int) = 1 from rfl)) (congrArg i3 ((hZ4F 11 0 1 (by decide)).trans ((show frz 11 0 1 = 0 from by decide))))) (by omega) (by omega) (by omega)) ?_
      obtain ⟨Z5, hZ5⟩ := zx (zu Z4 42 0 0 0 a1)
      have hZ5I := zI_u hZ4I hZ5 (lo := 0) (hi := 25) (by decide) rfl (by omega) ⟨by decide, by decide⟩ (Or.inl (by decide))
      have hZ5K := zK_u hZ4K hZ5 (by decide)
      intro μ9 e9
      replace e9 := e9.trans (zm_wI (Z := Z4) (ν := ν) hZ5 (show ((0 : Nat) : Int) = 0 from rfl) (i3I (y := 0) (Eq.trans (zm_rd (Z := Z4) (ν := ν) (k := 11) (show ((0 : Nat) : Int) = 0 from rfl) (show ((0 : Nat) : Int) = 0 from rfl) (show ((1 : Nat) : Int) = 1 from rfl)) (congrArg i3 ((hZ4F 11 0 1 (by decide)).trans ((show frz 11 0 1 = 0 from by decide))))) (by omega) (by omega) (by omega)) (show ((0 : Nat) : Int) = 0 from rfl) (Eq.trans (zm_rd (Z := Z4) (ν := ν) (k := 68) (show ((0 : Nat) : Int) = 0 from rfl) (show ((0 : Nat) : Int) = 0 from rfl) (show ((1 : Nat) : Int) = 1 from rfl)) (congrArg i3 ((hZ4A.2.1)))))
      subst e9
      obtain ⟨Z6, hZ6⟩ := zx (zu Z5 42 0 0 1 a2)
      have hZ6I := zI_u hZ5I hZ6 (lo := 0) (hi := 9) (by decide) rfl (by omega) ⟨by decide, by decide⟩ (Or.inl (by decide))
      have hZ6K := zK_u hZ5K hZ6 (by decide)
      intro μ9 e9
      replace e9 := e9.trans (zm_wI (Z := Z5) (ν := ν) hZ6 (show ((0 : Nat) : Int) = 0 from rfl) (i3I (y := 0) (Eq.trans (zm_rd (Z := Z4) (ν := ν) (k := 11) (show ((0 : Nat) : Int) = 0 from rfl) (show ((0 : Nat) : Int) = 0 from rfl) (show ((1 : Nat) : Int) = 1 from rfl)) (congrArg i3 ((hZ4F 11 0 1 (by decide)).trans ((show frz 11 0 1 = 0 from by decide))))) (by omega) (by omega) (by omega)) (show ((1 : Nat) : Int) = 1 from rfl) (Eq.trans (zm_rd (Z := Z4) (ν := ν) (k := 68) (show ((0 : Nat) : Int) = 0 from rfl) (show ((0 : Nat) : Int) = 0 from rfl) (show ((2 : Nat) : Int) = 2 from rfl)) (congrArg i3 ((hZ4A.2.2.1)))))
      subst e9
      obtain ⟨Z7, hZ7⟩ := zx (zu Z6 11 0 0 1 (0 + 1))
      have hZ7I := zI_u hZ6I hZ7 (lo := 0) (hi := 6) (by decide) rfl (by omega) ⟨by decide, by decide⟩ (Or.inl (by decide))
      have hZ7K := zK_u hZ6K hZ7 (by decide)
      intro μ9 e9
      replace e9 := e9.trans (zm_wI (Z := Z6) (ν := ν) hZ7 (show ((0 : Nat) : Int) = 0 from rfl) (show ((0 : Nat) : Int) = 0 from rfl) (show ((1 : Nat) : Int) = 1 from rfl) (i3A (Eq.trans (zm_rd (Z := Z6) (ν := ν) (k := 11) (show ((0 : Nat) : Int) = 0 from rfl) (show ((0 : Nat) : Int) = 0 from rfl) (show ((1 : Nat) : Int) = 1 from rfl)) (congrArg i3 ((zu_ne (k' := 11) (b' := 0) (i' := 0) (j' := 1) hZ6 (fun q => absurd q.1 (by decide))).trans ((zu_ne (k' := 11) (b' := 0) (i' := 0) (j' := 1) hZ5 (fun q => absurd q.1 (by decide))).trans ((hZ4F 11 0 1 (by decide)).trans ((show frz 11 0 1 = 0 from by decide))))))) (show (1 : Int32) = i3 1 from rfl)))
      subst e9
      exact zlX hP (Eq.trans (zm_rd (Z := Z6) (ν := ν) (k := 11) (show ((0 : Nat) : Int) = 0 from rfl) (show ((0 : Nat) : Int) = 0 from rfl) (show ((1 : Nat) : Int) = 1 from rfl)) (congrArg i3 ((zu_ne (k' := 11) (b' := 0) (i' := 0) (j' := 1) hZ6 (fun q => absurd q.1 (by decide))).trans ((zu_ne (k' := 11) (b' := 0) (i' := 0) (j' := 1) hZ5 (fun q => absurd q.1 (by decide))).trans ((hZ4F 11 0 1 (by decide)).trans ((show frz 11 0 1 = 0 from by decide))))))) ⟨hZ7I, hZ7K, zN_r⟩
    · replace hP := zE_n hP h2
      exact zlXe (E := 12) hP ⟨hZ, zK_r, zN_k rfl⟩
  · replace hP := zE_n hP h1
    exact zlXe (E := 12) hP ⟨hZ, zK_r, zN_k rfl⟩

/- yX11_grown -/
def zg_205 (a1 : Int) (a2 : Int) : Int × Int := (0, 24)
theorem sg_205 {Z : qz_Z} {ν : qz_N} (hZ : zI none Z) (hF : zF Z) {a1 : Int} (ga1 : -2147483648 ≤ a1 ∧ a1 ≤ 2147483647) {a2 : Int} (ga2 : -2147483648 ≤ a2 ∧ a2 ≤ 2147483647) : ∃ (Z1 : qz_Z) (ν1 : qz_N) (v E : Int), (v, E) = zg_205 a1 a2 ∧ qf_205 [.inr (.inr (some (0, 0, 0))), .inl (i3 a1), .inl (i3 a2)] (zm Z ν) = some (zm Z1 ν1, zoX v E) ∧ (fun Z1 ν1 => zI none Z1 ∧ zK [] Z Z1 ∧ zN ν ν1) Z1 ν1 := by
  obtain ⟨P, hP⟩ := zx (zg_205 a1 a2)
  refine zc_X (Q := fun Z1 ν1 => zI none Z1 ∧ zK [] Z Z1 ∧ zN ν ν1) hP (fw_205 (i3 a1) (i3 a2) _ _ ?_)
  replace hP : zE P (zg_205 a1 a2) := hP
  unfold zg_205 at hP
  refine wz_thing_n (rfl : i3 a1 = i3 a1) (Eq.trans (zm_rd (Z := Z) (ν := ν) (k := 11) (show ((0 : Nat) : Int) = 0 from rfl) (show ((0 : Nat) : Int) = 0 from rfl) (show ((1 : Nat) : Int) = 1 from rfl)) (congrArg i3 ((hF 11 0 1 (by decide)).trans ((show frz 11 0 1 = 0 from by decide))))) (by omega) (by omega) (by omega) (by omega) (by omega) ?_
  exact zlXe (E := 23) hP ⟨hZ, zK_r, zN_k rfl⟩

/- yX11_gas -/
def zg_202 (a1 : Int) (a2 : Int) : Int × Int := (0, 24)
theorem sg_202 {Z : qz_Z} {ν : qz_N} (hZ : zI none Z) (hF : zF Z) {a1 : Int} (ga1 : -2147483648 ≤ a1 ∧ a1 ≤ 2147483647) {a2 : Int} (ga2 : -2147483648 ≤ a2 ∧ a2 ≤ 2147483647) : ∃ (Z1 : qz_Z) (ν1 : qz_N) (v E : Int), (v, E) = zg_202 a1 a2 ∧ qf_202 [.inr (.inr (some (0, 0, 0))), .inl (i3 a1), .inl (i3 a2)] (zm Z ν) = some (zm Z1 ν1, zoX v E) ∧ (fun Z1 ν1 => zI none Z1 ∧ zK [] Z Z1 ∧ zN ν ν1) Z1 ν1 := by
  obtain ⟨P, hP⟩ := zx (zg_202 a1 a2)
  refine zc_X (Q := fun Z1 ν1 => zI none Z1 ∧ zK [] Z Z1 ∧ zN ν ν1) hP (fw_202 (i3 a1) (i3 a2) _ _ ?_)
  replace hP : zE P (zg_202 a1 a2) := hP
  unfold zg_202 at hP
  refine wz_thing_n (rfl : i3 a1 = i3 a1) (Eq.trans (zm_rd (Z := Z) (ν := ν) (k := 11) (show ((0 : Nat) : Int) = 0 from rfl) (show ((0 : Nat) : Int) = 0 from rfl) (show ((2 : Nat) : Int) = 2 from rfl)) (congrArg i3 ((hF 11 0 2 (by decide)).trans ((show frz 11 0 2 = 0 from by decide))))) (by omega) (by omega) (by omega) (by omega) (by omega) ?_
  exact zlXe (E := 23) hP ⟨hZ, zK_r, zN_k rfl⟩

/- yX11_dump -/
def zg_198 (a1 : Int) : Int × Int := (if a1 < 0 then (0, 24) else (0, 24))
theorem sg_198 {Z : qz_Z} {ν : qz_N} (hZ : zI none Z) (hF : zF Z) {a1 : Int} (ga1 : -2147483648 ≤ a1 ∧ a1 ≤ 2147483647) : ∃ (Z1 : qz_Z) (ν1 : qz_N) (v E : Int), (v, E) = zg_198 a1 ∧ qf_198 [.inr (.inr (some (0, 0, 0))), .inl (i3 a1)] (zm Z ν) = some (zm Z1 ν1, zoX v E) ∧ (fun Z1 ν1 => zI none Z1 ∧ zK [] Z Z1 ∧ zN ν ν1) Z1 ν1 := by
  obtain ⟨P, hP⟩ := zx (zg_198 a1)
  refine zc_X (Q := fun Z1 ν1 => zI none Z1 ∧ zK [] Z Z1 ∧ zN ν ν1) hP (fw_198 (i3 a1) _ _ ?_)
  replace hP : zE P (zg_198 a1) := hP
  unfold zg_198 at hP
  refine fw_165 _ _ _ _ ?_
  refine wz_br (i3L (rfl : i3 a1 = i3 a1) (show (0 : Int32) = i3 0 from rfl) (by omega) (by omega) (by omega) (by omega)) (fun h1 => ?_) (fun h1 => ?_)
  · replace hP := zE_p hP h1
    refine wz_i0 (Eq.trans (i3NE (show (1 : Int32) = i3 1 from rfl) (show (1 : Int32) = i3 1 from rfl) (by omega) (by omega) (by omega) (by omega)) (decide_eq_false (by omega))) ?_
    exact zlXe (E := 23) hP ⟨hZ, zK_r, zN_k rfl⟩
  · replace hP := zE_n hP h1
    refine wz_i0 (Eq.trans (i3L (rfl : i3 a1 = i3 a1) (Eq.trans (zm_rd (Z := Z) (ν := ν) (k := 11) (show ((0 : Nat) : Int) = 0 from rfl) (show ((0 : Nat) : Int) = 0 from rfl) (show ((3 : Nat) : Int) = 3 from rfl)) (congrArg i3 ((hF 11 0 3 (by decide)).trans ((show frz 11 0 3 = 0 from by decide))))) (by omega) (by omega) (by omega) (by omega)) (decide_eq_false (by omega))) ?_
    refine wz_i0 (Eq.trans (i3NE (show (1 : Int32) = i3 1 from rfl) (show (1 : Int32) = i3 1 from rfl) (by omega) (by omega) (by omega) (by omega)) (decide_eq_false (by omega))) ?_
    exact zlXe (E := 23) hP ⟨hZ, zK_r, zN_k rfl⟩

/- yX11_ripe -/
def zg_235 (a1 : Int) (a2 : Int) (a3 : Int) : Int × Int := (0, 24)
theorem sg_235 {Z : qz_Z} {ν : qz_N} (hZ : zI none Z) (hF : zF Z) {a1 : Int} (ga1 : -2147483648 ≤ a1 ∧ a1 ≤ 2147483647) {a2 : Int} (ga2 : -2147483648 ≤ a2 ∧ a2 ≤ 2147483647) {a3 : Int} (ga3 : -2147483648 ≤ a3 ∧ a3 ≤ 2147483647) : ∃ (Z1 : qz_Z) (ν1 : qz_N) (v E : Int), (v, E) = zg_235 a1 a2 a3 ∧ qf_235 [.inr (.inr (some (0, 0, 0))), .inl (i3 a1), .inl (i3 a2), .inl (i3 a3)] (zm Z ν) = some (zm Z1 ν1, zoX v E) ∧ (fun Z1 ν1 => zI none Z1 ∧ zK [] Z Z1 ∧ zN ν ν1) Z1 ν1 := by
  obtain ⟨P, hP⟩ := zx (zg_235 a1 a2 a3)
  refine zc_X (Q := fun Z1 ν1 => zI none Z1 ∧ zK [] Z Z1 ∧ zN ν ν1) hP (fw_235 (i3 a1) (i3 a2) (i3 a3) _ _ ?_)
  replace hP : zE P (zg_235 a1 a2 a3) := hP
  unfold zg_235 at hP
  refine wz_thing_n (rfl : i3 a1 = i3 a1) (Eq.trans (zm_rd (Z := Z) (ν := ν) (k := 11) (show ((0 : Nat) : Int) = 0 from rfl) (show ((0 : Nat) : Int) = 0 from rfl) (show ((3 : Nat) : Int) = 3 from rfl)) (congrArg i3 ((hF 11 0 3 (by decide)).trans ((show frz 11 0 3 = 0 from by decide))))) (by omega) (by omega) (by omega) (by omega) (by omega) ?_
  exact zlXe (E := 23) hP ⟨hZ, zK_r, zN_k rfl⟩

/- yX11_cancel -/
def zg_192 (a1 : Int) : Int × Int := (if a1 < 0 then (0, 24) else (0, 24))
theorem sg_192 {Z : qz_Z} {ν : qz_N} (hZ : zI none Z) (hF : zF Z) {a1 : Int} (ga1 : -2147483648 ≤ a1 ∧ a1 ≤ 2147483647) : ∃ (Z1 : qz_Z) (ν1 : qz_N) (v E : Int), (v, E) = zg_192 a1 ∧ qf_192 [.inr (.inr (some (0, 0, 0))), .inl (i3 a1)] (zm Z ν) = some (zm Z1 ν1, zoX v E) ∧ (fun Z1 ν1 => zI none Z1 ∧ zK [] Z Z1 ∧ zN ν ν1) Z1 ν1 := by
  obtain ⟨P, hP⟩ := zx (zg_192 a1)
  refine zc_X (Q := fun Z1 ν1 => zI none Z1 ∧ zK [] Z Z1 ∧ zN ν ν1) hP (fw_192 (i3 a1) _ _ ?_)
  replace hP : zE P (zg_192 a1) := hP
  unfold zg_192 at hP
  refine wz_br (i3L (rfl : i3 a1 = i3 a1) (show (0 : Int32) = i3 0 from rfl) (by omega) (by omega) (by omega) (by omega)) (fun h1 => ?_) (fun h1 => ?_)
  · replace hP := zE_p hP h1
    exact zlXe (E := 23) hP ⟨hZ, zK_r, zN_k rfl⟩
  · replace hP := zE_n hP h1
    refine wz_i0 (Eq.trans (i3L (rfl : i3 a1 = i3 a1) (Eq.trans (zm_rd (Z := Z) (ν := ν) (k := 11) (show ((0 : Nat) : Int) = 0 from rfl) (show ((0 : Nat) : Int) = 0 from rfl) (show ((5 : Nat) : Int) = 5 from rfl)) (congrArg i3 ((hF 11 0 5 (by decide)).trans ((show frz 11 0 5 = 0 from by decide))))) (by omega) (by omega) (by omega) (by omega)) (decide_eq_false (by omega))) ?_
    exact zlXe (E := 23) hP ⟨hZ, zK_r, zN_k rfl⟩

/- yX11_ordered -/
def zg_221 (a1 : Int) (a2 : Int) : Int × Int := (0, 24)
theorem sg_221 {Z : qz_Z} {ν : qz_N} (hZ : zI none Z) (hF : zF Z) {a1 : Int} (ga1 : -2147483648 ≤ a1 ∧ a1 ≤ 2147483647) {a2 : Int} (ga2 : -2147483648 ≤ a2 ∧ a2 ≤ 2147483647) : ∃ (Z1 : qz_Z) (ν1 : qz_N) (v E : Int), (v, E) = zg_221 a1 a2 ∧ qf_221 [.inr (.inr (some (0, 0, 0))), .inl (i3 a1), .inl (i3 a2)] (zm Z ν) = some (zm Z1 ν1, zoX v E) ∧ (fun Z1 ν1 => zI none Z1 ∧ zK [] Z Z1 ∧ zN ν ν1) Z1 ν1 := by
  obtain ⟨P, hP⟩ := zx (zg_221 a1 a2)
  refine zc_X (Q := fun Z1 ν1 => zI none Z1 ∧ zK [] Z Z1 ∧ zN ν ν1) hP (fw_221 (i3 a1) (i3 a2) _ _ ?_)
  replace hP : zE P (zg_221 a1 a2) := hP
  unfold zg_221 at hP
  refine wz_thing_n (rfl : i3 a1 = i3 a1) (Eq.trans (zm_rd (Z := Z) (ν := ν) (k := 11) (show ((0 : Nat) : Int) = 0 from rfl) (show ((0 : Nat) : Int) = 0 from rfl) (show ((5 : Nat) : Int) = 5 from rfl)) (congrArg i3 ((hF 11 0 5 (by decide)).trans ((show frz 11 0 5 = 0 from by decide))))) (by omega) (by omega) (by omega) (by omega) (by omega) ?_
  exact zlXe (E := 23) hP ⟨hZ, zK_r, zN_k rfl⟩

/- yX11_queue -/
def zg_233 (a1 : Int) (a2 : Int) (a3 : Int) (a4 : Int) : Int × Int := (if a1 < 0 then (0, 24) else (0, 24))
theorem sg_233 {Z : qz_Z} {ν : qz_N} (hZ : zI none Z) (hF : zF Z) {a1 : Int} (ga1 : -2147483648 ≤ a1 ∧ a1 ≤ 2147483647) {a2 : Int} (ga2 : -2147483648 ≤ a2 ∧ a2 ≤ 2147483647) {a3 : Int} (ga3 : -2147483648 ≤ a3 ∧ a3 ≤ 2147483647) {a4 : Int} (ga4 : -2147483648 ≤ a4 ∧ a4 ≤ 2147483647) : ∃ (Z1 : qz_Z) (ν1 : qz_N) (v E : Int), (v, E) = zg_233 a1 a2 a3 a4 ∧ qf_233 [.inr (.inr (some (0, 0, 0))), .inl (i3 a1), .inl (i3 a2), .inl (i3 a3), .inl (i3 a4)] (zm Z ν) = some (zm Z1 ν1, zoX v E) ∧ (fun Z1 ν1 => zI none Z1 ∧ zK [] Z Z1 ∧ zN ν ν1) Z1 ν1 := by
  obtain ⟨P, hP⟩ := zx (zg_233 a1 a2 a3 a4)
  refine zc_X (Q := fun Z1 ν1 => zI none Z1 ∧ zK [] Z Z1 ∧ zN ν ν1) hP (fw_233 (i3 a1) (i3 a2) (i3 a3) (i3 a4) _ _ ?_)
  replace hP : zE P (zg_233 a1 a2 a3 a4) := hP
  unfold zg_233 at hP
  refine fw_71 _ _ _ _ _ _ _ ?_
  refine wz_br (i3L (rfl : i3 a1 = i3 a1) (show (0 : Int32) = i3 0 from rfl) (by omega) (by omega) (by omega) (by omega)) (fun h1 => ?_) (fun h1 => ?_)
  · replace hP := zE_p hP h1
    refine wz_i0 (Eq.trans (i3NE (show (1 : Int32) = i3 1 from rfl) (show (1 : Int32) = i3 1 from rfl) (by omega) (by omega) (by omega) (by omega)) (decide_eq_false (by omega))) ?_
    exact zlXe (E := 23) hP ⟨hZ, zK_r, zN_k rfl⟩
  · replace hP := zE_n hP h1
    refine wz_i1 (Eq.trans (i3Le (Eq.trans (zm_rd (Z := Z) (ν := ν) (k := 11) (show ((0 : Nat) : Int) = 0 from rfl) (show ((0 : Nat) : Int) = 0 from rfl) (show ((7 : Nat) : Int) = 7 from rfl)) (congrArg i3 ((hF 11 0 7 (by decide)).trans ((show frz 11 0 7 = 0 from by decide))))) (rfl : i3 a1 = i3 a1) (by omega) (by omega) (by omega) (by omega)) (decide_eq_true (by omega))) ?_
    refine wz_i0 (Eq.trans (i3NE (show (1 : Int32) = i3 1 from rfl) (show (1 : Int32) = i3 1 from rfl) (by omega) (by omega) (by omega) (by omega)) (decide_eq_false (by omega))) ?_
    exact zlXe (E := 23) hP ⟨hZ, zK_r, zN_k rfl⟩

/- yX11_lot -/
def zg_217 (a1 : Int) (a2 : Int) (a3 : Int) : Int × Int := (0, 24)
theorem sg_217 {Z : qz_Z} {ν : qz_N} (hZ : zI none Z) (hF : zF Z) {a1 : Int} (ga1 : -2147483648 ≤ a1 ∧ a1 ≤ 2147483647) {a2 : Int} (ga2 : -2147483648 ≤ a2 ∧ a2 ≤ 2147483647) {a3 : Int} (ga3 : -2147483648 ≤ a3 ∧ a3 ≤ 2147483647) : ∃ (Z1 : qz_Z) (ν1 : qz_N) (v E : Int), (v, E) = zg_217 a1 a2 a3 ∧ qf_217 [.inr (.inr (some (0, 0, 0))), .inl (i3 a1), .inl (i3 a2), .inl (i3 a3)] (zm Z ν) = some (zm Z1 ν1, zoX v E) ∧ (fun Z1 ν1 => zI none Z1 ∧ zK [] Z Z1 ∧ zN ν ν1) Z1 ν1 := by
  obtain ⟨P, hP⟩ := zx (zg_217 a1 a2 a3)
  refine zc_X (Q := fun Z1 ν1 => zI none Z1 ∧ zK [] Z Z1 ∧ zN ν ν1) hP (fw_217 (i3 a1) (i3 a2) (i3 a3) _ _ ?_)
  replace hP : zE P (zg_217 a1 a2 a3) := hP
  unfold zg_217 at hP
  refine wz_thing_n (rfl : i3 a1 = i3 a1) (Eq.trans (zm_rd (Z := Z) (ν := ν) (k := 11) (show ((0 : Nat) : Int) = 0 from rfl) (show ((0 : Nat) : Int) = 0 from rfl) (show ((7 : Nat) : Int) = 7 from rfl)) (congrArg i3 ((hF 11 0 7 (by decide)).trans ((show frz 11 0 7 = 0 from by decide))))) (by omega) (by omega) (by omega) (by omega) (by omega) ?_
  exact zlXe (E := 23) hP ⟨hZ, zK_r, zN_k rfl⟩

/- yX11_bestStart -/
def zg_189 (a1 : Int) (a2 : Int) (a3 : Int) (a4 : Int) : Int × Int := (0, 24)
theorem sg_189 {Z : qz_Z} {ν : qz_N} (hZ : zI none Z) (hF : zF Z) {a1 : Int} (ga1 : -2147483648 ≤ a1 ∧ a1 ≤ 2147483647) {a2 : Int} (ga2 : -2147483648 ≤ a2 ∧ a2 ≤ 2147483647) {a3 : Int} (ga3 : -2147483648 ≤ a3 ∧ a3 ≤ 2147483647) {a4 : Int} (ga4 : -2147483648 ≤ a4 ∧ a4 ≤ 2147483647) : ∃ (Z1 : qz_Z) (ν1 : qz_N) (v E : Int), (v, E) = zg_189 a1 a2 a3 a4 ∧ qf_189 [.inr (.inr (some (0, 0, 0))), .inl (i3 a1), .inl (i3 a2), .inl (i3 a3), .inl (i3 a4)] (zm Z ν) = some (zm Z1 ν1, zoX v E) ∧ (fun Z1 ν1 => zI none Z1 ∧ zK [] Z Z1 ∧ zN ν ν1) Z1 ν1 := by
  obtain ⟨P, hP⟩ := zx (zg_189 a1 a2 a3 a4)
  refine zc_X (Q := fun Z1 ν1 => zI none Z1 ∧ zK [] Z Z1 ∧ zN ν ν1) hP (fw_189 (i3 a1) (i3 a2) (i3 a3) (i3 a4) _ _ ?_)
  replace hP : zE P (zg_189 a1 a2 a3 a4) := hP
  unfold zg_189 at hP
  refine wz_thing_n (rfl : i3 a1 = i3 a1) (Eq.trans (zm_rd (Z := Z) (ν := ν) (k := 11) (show ((0 : Nat) : Int) = 0 from rfl) (show ((0 : Nat) : Int) = 0 from rfl) (show ((7 : Nat) : Int) = 7 from rfl)) (congrArg i3 ((hF 11 0 7 (by decide)).trans ((show frz 11 0 7 = 0 from by decide))))) (by omega) (by omega) (by omega) (by omega) (by omega) ?_
  exact zlXe (E := 23) hP ⟨hZ, zK_r, zN_k rfl⟩

/- yX11_truck -/
def zg_251 (a1 : Int) (a2 : Int) : Int × Int := (if 10 ≤ a1 ∧ a1 ≤ 99 then (if 0 ≤ a2 ∧ a2 ≤ 40 then (0, 0) else (0, 13)) else (0, 13))
theorem sg_251 {Z : qz_Z} {ν : qz_N} (hZ : zI none Z) (hF : zF Z) {a1 : Int} (ga1 : -2147483648 ≤ a1 ∧ a1 ≤ 2147483647) {a2 : Int} (ga2 : -2147483648 ≤ a2 ∧ a2 ≤ 2147483647) : ∃ (Z1 : qz_Z) (ν1 : qz_N) (v E : Int), (v, E) = zg_251 a1 a2 ∧ qf_251 [.inr (.inr (some (0, 0, 0))), .inl (i3 a1), .inl (i3 a2)] (zm Z ν) = some (zm Z1 ν1, zoX v E) ∧ (fun Z1 ν1 => zI none Z1 ∧ zK [3, 11, 12, 13, 14, 40, 41, 42, 43, 44, 45, 46, 47, 48, 49, 50, 51, 52, 53, 54, 61, 68] Z Z1 ∧ zN ν ν1) Z1 ν1 := by
  obtain ⟨P, hP⟩ := zx (zg_251 a1 a2)
  refine zc_X (Q := fun Z1 ν1 => zI none Z1 ∧ zK [3, 11, 12, 13, 14, 40, 41, 42, 43, 44, 45, 46, 47, 48, 49, 50, 51, 52, 53, 54, 61, 68] Z Z1 ∧ zN ν ν1) hP (fw_251 (i3 a1) (i3 a2) _ _ ?_)
  replace hP : zE P (zg_251 a1 a2) := hP
  unfold zg_251 at hP
  refine wz_inR (rfl : i3 a1 = i3 a1) (show (10 : Int32) = i3 10 from rfl) (show (99 : Int32) = i3 99 from rfl) (by omega) (by omega) (by omega) (by omega) (by omega) (by omega) (fun h1 => ?_) (fun h1 => ?_)
  · replace hP := zE_p hP h1
    refine wz_inR (rfl : i3 a2 = i3 a2) (show (0 : Int32) = i3 0 from rfl) (show (40 : Int32) = i3 40 from rfl) (by omega) (by omega) (by omega) (by omega) (by omega) (by omega) (fun h2 => ?_) (fun h2 => ?_)
    · replace hP := zE_p hP h2
      refine wz_i0 (Eq.trans (i3Le (show (4 : Int32) = i3 4 from rfl) (Eq.trans (zm_rd (Z := Z) (ν := ν) (k := 11) (show ((0 : Nat) : Int) = 0 from rfl) (show ((0 : Nat) : Int) = 0 from rfl) (show ((8 : Nat) : Int) = 8 from rfl)) (congrArg i3 ((hF 11 0 8 (by decide)).trans ((show frz 11 0 8 = 0 from by decide))))) (by omega) (by omega) (by omega) (by omega)) (decide_eq_false (by omega))) ?_
      refine wz_inT_y (show (1 : Int32) = i3 1 from rfl) (by omega) (by omega) (by omega) ?_
      refine dc_J (zcons rfl (zcons (zvi (show (19 : Int32) = i3 19 from rfl)) (zcons (zvi (rfl : i3 a1 = i3 a1)) (zcons (zvi (rfl : i3 a2 = i3 a2)) (zcons (zvi (show (0 : Int32) = i3 0 from rfl)) (zcons (zvi (show (0 : Int32) = i3 0 from rfl)) (zcons (zvi (show (0 : Int32) = i3 0 from rfl)) (zcons (zvi (show (0 : Int32) = i3 0 from rfl)) rfl)))))))) (dc_I (ws := [3, 11, 12, 13, 14, 40, 41, 42, 43, 44, 45, 46, 47, 48, 49, 50, 51, 52, 53, 54, 61, 68]) (Z0 := Z) hF hZ zK_r (by decide) (by omega) (by omega) (by omega) (by omega) (by omega) (by omega) (by omega) (fun Z4 hZ4I hZ4F hZ4A hZ4K => ?_))
      refine fw_121 _ _ _ _ ?_
      refine wz_i1 rfl ?_
      refine wz_i0 (i3O (n := 7) (show (0 : Int32) = i3 0 from rfl) (by omega) (by omega) (by omega)) ?_
      refine wz_i0 (Eq.trans (i3To (Eq.trans (zm_rd (Z := Z4) (ν := ν) (k := 68) (show ((0 : Nat) : Int) = 0 from rfl) (show ((0 : Nat) : Int) = 0 from rfl) (show ((0 : Nat) : Int) = 0 from rfl)) (congrArg i3 ((hZ4A.1)))) (by omega) (by omega)) (decide_eq_false (by omega))) ?_
      refine wz_i0 (Eq.trans (i3T (Eq.trans (zm_rd (Z := Z4) (ν := ν) (k := 68) (show ((0 : Nat) : Int) = 0 from rfl) (show ((0 : Nat) : Int) = 0 from rfl) (show ((0 : Nat) : Int) = 0 from rfl)) (congrArg i3 ((hZ4A.1)))) (by omega) (by omega)) (decide_eq_false (by omega))) ?_
      refine wz_i0 (Eq.trans (i3T (Eq.trans (zm_rd (Z := Z4) (ν := ν) (k := 68) (show ((0 : Nat) : Int) = 0 from rfl) (show ((0 : Nat) : Int) = 0 from rfl) (show ((0 : Nat) : Int) = 0 from rfl)) (congrArg i3 ((hZ4A.1)))) (by omega) (by omega)) (decide_eq_false (by omega))) ?_
      refine wz_i0 (Eq.trans (i3T (Eq.trans (zm_rd (Z := Z4) (ν := ν) (k := 68) (show ((0 : Nat) : Int) = 0 from rfl) (show ((0 : Nat) : Int) = 0 from rfl) (show ((0 : Nat) : Int) = 0 from rfl)) (congrArg i3 ((hZ4A.1)))) (by omega) (by omega)) (decide_eq_false (by omega))) ?_
      refine wz_i0 (Eq.trans (i3T (Eq.trans (zm_rd (Z := Z4) (ν := ν) (k := 68) (show ((0 : Nat) : Int) = 0 from rfl) (show ((0 : Nat) : Int) = 0 from rfl) (show ((0 : Nat) : Int) = 0 from rfl)) (congrArg i3 ((hZ4A.1)))) (by omega) (by omega)) (decide_eq_false (by omega))) ?_
      refine wz_i0 (Eq.trans (i3T (Eq.trans (zm_rd (Z := Z4) (ν := ν) (k := 68) (show ((0 : Nat) : Int) = 0 from rfl) (show ((0 : Nat) : Int) = 0 from rfl) (show ((0 : Nat) : Int) = 0 from rfl)) (congrArg i3 ((hZ4A.1)))) (by omega) (by omega)) (decide_eq_false (by omega))) ?_
      refine wz_i0 (Eq.trans (i3T (Eq.trans (zm_rd (Z := Z4) (ν := ν) (k := 68) (show ((0 : Nat) : Int) = 0 from rfl) (show ((0 : Nat) : Int) = 0 from rfl) (show ((0 : Nat) : Int) = 0 from rfl)) (congrArg i3 ((hZ4A.1)))) (by omega) (by omega)) (decide_eq_false (by omega))) ?_
      refine wz_i0 (Eq.trans (i3T (Eq.trans (zm_rd (Z := Z4) (ν := ν) (k := 68) (show ((0 : Nat) : Int) = 0 from rfl) (show ((0 : Nat) : Int) = 0 from rfl) (show ((0 : Nat) : Int) = 0 from rfl)) (congrArg i3 ((hZ4A.1)))) (by omega) (by omega)) (decide_eq_false (by omega))) ?_
      refine wz_i0 (Eq.trans (i3T (Eq.trans (zm_rd (Z := Z4) (ν := ν) (k := 68) (show ((0 : Nat) : Int) = 0 from rfl) (show ((0 : Nat) : Int) = 0 from rfl) (show ((0 : Nat) : Int) = 0 from rfl)) (congrArg i3 ((hZ4A.1)))) (by omega) (by omega)) (decide_eq_false (by omega))) ?_
      refine wz_i0 (Eq.trans (i3T (Eq.trans (zm_rd (Z := Z4) (ν := ν) (k := 68) (show ((0 : Nat) : Int) = 0 from rfl) (show ((0 : Nat) : Int) = 0 from rfl) (show ((0 : Nat) : Int) = 0 from rfl)) (congrArg i3 ((hZ4A.1)))) (by omega) (by omega)) (decide_eq_false (by omega))) ?_
      refine wz_i0 (Eq.trans (i3T (Eq.trans (zm_rd (Z := Z4) (ν := ν) (k := 68) (show ((0 : Nat) : Int) = 0 from rfl) (show ((0 : Nat) : Int) = 0 from rfl) (show ((0 : Nat) : Int) = 0 from rfl)) (congrArg i3 ((hZ4A.1)))) (by omega) (by omega)) (decide_eq_false (by omega))) ?_
      refine wz_i0 (Eq.trans (i3T (Eq.trans (zm_rd (Z := Z4) (ν := ν) (k := 68) (show ((0 : Nat) : Int) = 0 from rfl) (show ((0 : Nat) : Int) = 0 from rfl) (show ((0 : Nat) : Int) = 0 from rfl)) (congrArg i3 ((hZ4A.1)))) (by omega) (by omega)) (decide_eq_false (by omega))) ?_
      refine wz_i0 (Eq.trans (i3T (Eq.trans (zm_rd (Z := Z4) (ν := ν) (k := 68) (show ((0 : Nat) : Int) = 0 from rfl) (show ((0 : Nat) : Int) = 0 from rfl) (show ((0 : Nat) : Int) = 0 from rfl)) (congrArg i3 ((hZ4A.1)))) (by omega) (by omega)) (decide_eq_false (by omega))) ?_
      refine wz_i0 (Eq.trans (i3T (Eq.trans (zm_rd (Z := Z4) (ν := ν) (k := 68) (show ((0 : Nat) : Int) = 0 from rfl) (show ((0 : Nat) : Int) = 0 from rfl) (show ((0 : Nat) : Int) = 0 from rfl)) (congrArg i3 ((hZ4A.1)))) (by omega) (by omega)) (decide_eq_false (by omega))) ?_
      refine wz_i0 (Eq.trans (i3T (Eq.trans (zm_rd (Z := Z4) (ν := ν) (k := 68) (show ((0 : Nat) : Int) = 0 from rfl) (show ((0 : Nat) : Int) = 0 from rfl) (show ((0 : Nat) : Int) = 0 from rfl)) (congrArg i3 ((hZ4A.1)))) (by omega) (by omega)) (decide_eq_false (by omega))) ?_
      refine wz_i0 (Eq.trans (i3T (Eq.trans (zm_rd (Z := Z4) (ν := ν) (k := 68) (show ((0 : Nat) : Int) = 0 from rfl) (show ((0 : Nat) : Int) = 0 from rfl) (show ((0 : Nat) : Int) = 0 from rfl)) (congrArg i3 ((hZ4A.1)))) (by omega) (by omega)) (decide_eq_false (by omega))) ?_
      refine wz_i0 (Eq.trans (i3T (Eq.trans (zm_rd (Z := Z4) (ν := ν) (k := 68) (show ((0 : Nat) : Int) = 0 from rfl) (show ((0 : Nat) : Int) = 0 from rfl) (show ((0 : Nat) : Int) = 0 from rfl)) (congrArg i3 ((hZ4A.1)))) (by omega) (by omega)) (decide_eq_false (by omega))) ?_
      refine wz_i0 (Eq.trans (i3T (Eq.trans (zm_rd (Z := Z4) (ν := ν) (k := 68) (show ((0 : Nat) : Int) = 0 from rfl) (show ((0 : Nat) : Int) = 0 from rfl) (show ((0 : Nat) : Int) = 0 from rfl)) (congrArg i3 ((hZ4A.1)))) (by omega) (by omega)) (decide_eq_false (by omega))) ?_
      refine wz_i0 (Eq.trans (i3T (Eq.trans (zm_rd (Z := Z4) (ν := ν) (k := 68) (show ((0 : Nat) : Int) = 0 from rfl) (show ((0 : Nat) : Int) = 0 from rfl) (show ((0 : Nat) : Int) = 0 from rfl)) (congrArg i3 ((hZ4A.1)))) (by omega) (by omega)) (decide_eq_false (by omega))) ?_
      refine wz_i0 (Eq.trans (i3T (Eq.trans (zm_rd (Z := Z4) (ν := ν) (k := 68) (show ((0 : Nat) : Int) = 0 from rfl) (show ((0 : Nat) : Int) = 0 from rfl) (show ((0 : Nat) : Int) = 0 from rfl)) (congrArg i3 ((hZ4A.1)))) (by omega) (by omega)) (decide_eq_false (by omega))) ?_
      refine wz_i1 (Eq.trans (i3T (Eq.trans (zm_rd (Z := Z4) (ν := ν) (k := 68) (show ((0 : Nat) : Int) = 0 from rfl) (show ((0 : Nat) : Int) = 0 from rfl) (show ((0 : Nat) : Int) = 0 from rfl)) (congrArg i3 ((hZ4A.1)))) (by omega) (by omega)) (decide_eq_true (by omega))) ?_
      refine wz_i1 rfl ?_
      refine wz_i0 (i3O (n := 7) (show (1 : Int32) = i3 1 from rfl) (by omega) (by omega) (by omega)) ?_
      refine wz_i1 rfl ?_
      refine wz_i0 (i3O (n := 7) (show (2 : Int32) = i3 2 from rfl) (by omega) (by omega) (by omega)) ?_
      refine wz_i0 (i3O (n := 4) (Eq.trans (zm_rd (Z := Z4) (ν := ν) (k := 11) (show ((0 : Nat) : Int) = 0 from rfl) (show ((0 : Nat) : Int) = 0 from rfl) (show ((8 : Nat) : Int) = 8 from rfl)) (congrArg i3 ((hZ4F 11 0 8 (by decide)).trans ((show frz 11 0 8 = 0 from by decide))))) (by omega) (by omega) (by omega)) ?_
      obtain ⟨Z5, hZ5⟩ := zx (zu Z4 50 0 0 0 a1)
      have hZ5I := zI_u hZ4I hZ5 (lo := 0) (hi := 99) (by decide) rfl (by omega) ⟨by decide, by decide⟩ (Or.inl (by decide))
      have hZ5K := zK_u hZ4K hZ5 (by decide)
      intro μ9 e9
      replace e9 := e9.trans (zm_wI (Z := Z4) (ν := ν) hZ5 (show ((0 : Nat) : Int) = 0 from rfl) (i3I (y := 0) (Eq.trans (zm_rd (Z := Z4) (ν := ν) (k := 11) (show ((0 : Nat) : Int) = 0 from rfl) (show ((0 : Nat) : Int) = 0 from rfl) (show ((8 : Nat) : Int) = 8 from rfl)) (congrArg i3 ((hZ4F 11 0 8 (by decide)).trans ((show frz 11 0 8 = 0 from by decide))))) (by omega) (by omega) (by omega)) (show ((0 : Nat) : Int) = 0 from rfl) (Eq.trans (zm_rd (Z := Z4) (ν := ν) (k := 68) (show ((0 : Nat) : Int) = 0 from rfl) (show ((0 : Nat) : Int) = 0 from rfl) (show ((1 : Nat) : Int) = 1 from rfl)) (congrArg i3 ((hZ4A.2.1)))))
      subst e9
      obtain ⟨Z6, hZ6⟩ := zx (zu Z5 50 0 0 1 a2)
      have hZ6I := zI_u hZ5I hZ6 (lo := 0) (hi := 40) (by decide) rfl (by omega) ⟨by decide, by decide⟩ (Or.inl (by decide))
      have hZ6K := zK_u hZ5K hZ6 (by decide)
      intro μ9 e9
      replace e9 := e9.trans (zm_wI (Z := Z5) (ν := ν) hZ6 (show ((0 : Nat) : Int) = 0 from rfl) (i3I (y := 0) (Eq.trans (zm_rd (Z := Z4) (ν := ν) (k := 11) (show ((0 : Nat) : Int) = 0 from rfl) (show ((0 : Nat) : Int) = 0 from rfl) (show ((8 : Nat) : Int) = 8 from rfl)) (congrArg i3 ((hZ4F 11 0 8 (by decide)).trans ((show frz 11 0 8 = 0 from by decide))))) (by omega) (by omega) (by omega)) (show ((1 : Nat) : Int) = 1 from rfl) (Eq.trans (zm_rd (Z := Z4) (ν := ν) (k := 68) (show ((0 : Nat) : Int) = 0 from rfl) (show ((0 : Nat) : Int) = 0 from rfl) (show ((2 : Nat) : Int) = 2 from rfl)) (congrArg i3 ((hZ4A.2.2.1)))))
      subst e9
      obtain ⟨Z7, hZ7⟩ := zx (zu Z6 50 0 0 3 (-1))
      have hZ7I := zI_u hZ6I hZ7 (lo := -1) (hi := 671) (by decide) rfl (by omega) ⟨by decide, by decide⟩ (Or.inl (by decide))
      have hZ7K := zK_u hZ6K hZ7 (by decide)
      intro μ9 e9
      replace e9 := e9.trans (zm_wI (Z := Z6) (ν := ν) hZ7 (show ((0 : Nat) : Int) = 0 from rfl) (i3I (y := 0) (Eq.trans (zm_rd (Z := Z4) (ν := ν) (k := 11) (show ((0 : Nat) : Int) = 0 from rfl) (show ((0 : Nat) : Int) = 0 from rfl) (show ((8 : Nat) : Int) = 8 from rfl)) (congrArg i3 ((hZ4F 11 0 8 (by decide)).trans ((show frz 11 0 8 = 0 from by decide))))) (by omega) (by omega) (by omega)) (show ((3 : Nat) : Int) = 3 from rfl) (show (-1 : Int32) = i3 (-1) from rfl))
      subst e9
      obtain ⟨Z8, hZ8⟩ := zx (zu Z7 50 0 0 7 (-1))
      have hZ8I := zI_u hZ7I hZ8 (lo := -1) (hi := 671) (by decide) rfl (by omega) ⟨by decide, by decide⟩ (Or.inl (by decide))
      have hZ8K := zK_u hZ7K hZ8 (by decide)
      intro μ9 e9
      replace e9 := e9.trans (zm_wI (Z := Z7) (ν := ν) hZ8 (show ((0 : Nat) : Int) = 0 from rfl) (i3I (y := 0) (Eq.trans (zm_rd (Z := Z4) (ν := ν) (k := 11) (show ((0 : Nat) : Int) = 0 from rfl) (show ((0 : Nat) : Int) = 0 from rfl) (show ((8 : Nat) : Int) = 8 from rfl)) (congrArg i3 ((hZ4F 11 0 8 (by decide)).trans ((show frz 11 0 8 = 0 from by decide))))) (by omega) (by omega) (by omega)) (show ((7 : Nat) : Int) = 7 from rfl) (show (-1 : Int32) = i3 (-1) from rfl))
      subst e9
      obtain ⟨Z9, hZ9⟩ := zx (zu Z8 50 0 0 8 (-1))
      have hZ9I := zI_u hZ8I hZ9 (lo := -1) (hi := 743) (by decide) rfl (by omega) ⟨by decide, by decide⟩ (Or.inl (by decide))
      have hZ9K := zK_u hZ8K hZ9 (by decide)
      intro μ9 e9
      replace e9 := e9.trans (zm_wI (Z := Z8) (ν := ν) hZ9 (show ((0 : Nat) : Int) = 0 from rfl) (i3I (y := 0) (Eq.trans (zm_rd (Z := Z4) (ν := ν) (k := 11) (show ((0 : Nat) : Int) = 0 from rfl) (show ((0 : Nat) : Int) = 0 from rfl) (show ((8 : Nat) : Int) = 8 from rfl)) (congrArg i3 ((hZ4F 11 0 8 (by decide)).trans ((show frz 11 0 8 = 0 from by decide))))) (by omega) (by omega) (by omega)) (show ((8 : Nat) : Int) = 8 from rfl) (show (-1 : Int32) = i3 (-1) from rfl))
      subst e9
      obtain ⟨Z10, hZ10⟩ := zx (zu Z9 11 0 0 8 (0 + 1))
      have hZ10I := zI_u hZ9I hZ10 (lo := 0) (hi := 4) (by decide) rfl (by omega) ⟨by decide, by decide⟩ (Or.inl (by decide))
      have hZ10K := zK_u hZ9K hZ10 (by decide)
      intro μ9 e9
      replace e9 := e9.trans (zm_wI (Z := Z9) (ν := ν) hZ10 (show ((0 : Nat) : Int) = 0 from rfl) (show ((0 : Nat) : Int) = 0 from rfl) (show ((8 : Nat) : Int) = 8 from rfl) (i3A (Eq.trans (zm_rd (Z := Z9) (ν := ν) (k := 11) (show ((0 : Nat) : Int) = 0 from rfl) (show ((0 : Nat) : Int) = 0 from rfl) (show ((8 : Nat) : Int) = 8 from rfl)) (congrArg i3 ((zu_ne (k' := 11) (b' := 0) (i' := 0) (j' := 8) hZ9 (fun q => absurd q.1 (by decide))).trans ((zu_ne (k' := 11) (b' := 0) (i' := 0) (j' := 8) hZ8 (fun q => absurd q.1 (by decide))).trans ((zu_ne (k' := 11) (b' := 0) (i' := 0) (j' := 8) hZ7 (fun q => absurd q.1 (by decide))).trans ((zu_ne (k' := 11) (b' := 0) (i' := 0) (j' := 8) hZ6 (fun q => absurd q.1 (by decide))).trans ((zu_ne (k' := 11) (b' := 0) (i' := 0) (j' := 8) hZ5 (fun q => absurd q.1 (by decide))).trans ((hZ4F 11 0 8 (by decide)).trans ((show frz 11 0 8 = 0 from by decide)))))))))) (show (1 : Int32) = i3 1 from rfl)))
      subst e9
      exact zlX hP (Eq.trans (zm_rd (Z := Z9) (ν := ν) (k := 11) (show ((0 : Nat) : Int) = 0 from rfl) (show ((0 : Nat) : Int) = 0 from rfl) (show ((8 : Nat) : Int) = 8 from rfl)) (congrArg i3 ((zu_ne (k' := 11) (b' := 0) (i' := 0) (j' := 8) hZ9 (fun q => absurd q.1 (by decide))).trans ((zu_ne (k' := 11) (b' := 0) (i' := 0) (j' := 8) hZ8 (fun q => absurd q.1 (by decide))).trans ((zu_ne (k' := 11) (b' := 0) (i' := 0) (j' := 8) hZ7 (fun q => absurd q.1 (by decide))).trans ((zu_ne (k' := 11) (b' := 0) (i' := 0) (j' := 8) hZ6 (fun q => absurd q.1 (by decide))).trans ((zu_ne (k' := 11) (b' := 0) (i' := 0) (j' := 8) hZ5 (fun q => absurd q.1 (by decide))).trans ((hZ4F 11 0 8 (by decide)).trans ((show frz 11 0 8 = 0 from by decide)))))))))) ⟨hZ10I, hZ10K, zN_r⟩
    · replace hP := zE_n hP h2
      exact zlXe (E := 12) hP ⟨hZ, zK_r, zN_k rfl⟩
  · replace hP := zE_n hP h1
    exact zlXe (E := 12) hP ⟨hZ, zK_r, zN_k rfl⟩

/- yX11_haul -/
def zg_207 (a1 : Int) (a2 : Int) : Int × Int := (0, 24)
theorem sg_207 {Z : qz_Z} {ν : qz_N} (hZ : zI none Z) (hF : zF Z) {a1 : Int} (ga1 : -2147483648 ≤ a1 ∧ a1 ≤ 2147483647) {a2 : Int} (ga2 : -2147483648 ≤ a2 ∧ a2 ≤ 2147483647) : ∃ (Z1 : qz_Z) (ν1 : qz_N) (v E : Int), (v, E) = zg_207 a1 a2 ∧ qf_207 [.inr (.inr (some (0, 0, 0))), .inl (i3 a1), .inl (i3 a2)] (zm Z ν) = some (zm Z1 ν1, zoX v E) ∧ (fun Z1 ν1 => zI none Z1 ∧ zK [] Z Z1 ∧ zN ν ν1) Z1 ν1 := by
  obtain ⟨P, hP⟩ := zx (zg_207 a1 a2)
  refine zc_X (Q := fun Z1 ν1 => zI none Z1 ∧ zK [] Z Z1 ∧ zN ν ν1) hP (fw_207 (i3 a1) (i3 a2) _ _ ?_)
  replace hP : zE P (zg_207 a1 a2) := hP
  unfold zg_207 at hP
  refine wz_thing_n (rfl : i3 a1 = i3 a1) (Eq.trans (zm_rd (Z := Z) (ν := ν) (k := 11) (show ((0 : Nat) : Int) = 0 from rfl) (show ((0 : Nat) : Int) = 0 from rfl) (show ((8 : Nat) : Int) = 8 from rfl)) (congrArg i3 ((hF 11 0 8 (by decide)).trans ((show frz 11 0 8 = 0 from by decide))))) (by omega) (by omega) (by omega) (by omega) (by omega) ?_
  exact zlXe (E := 23) hP ⟨hZ, zK_r, zN_k rfl⟩

/- yX11_fewest -/
def zg_200 (a1 : Int) (a2 : Int) : Int × Int := (if 0 ≤ a2 ∧ a2 < 6 then (if 10 ≤ a1 ∧ a1 ≤ 99 then ((a1 / 1000), 0) else (0, 13)) else (0, 24))
theorem sg_200 {Z : qz_Z} {ν : qz_N} (hZ : zI none Z) (hF : zF Z) {a1 : Int} (ga1 : -2147483648 ≤ a1 ∧ a1 ≤ 2147483647) {a2 : Int} (ga2 : -2147483648 ≤ a2 ∧ a2 ≤ 2147483647) : ∃ (Z1 : qz_Z) (ν1 : qz_N) (v E : Int), (v, E) = zg_200 a1 a2 ∧ qf_200 [.inr (.inr (some (0, 0, 0))), .inl (i3 a1), .inl (i3 a2)] (zm Z ν) = some (zm Z1 ν1, zoX v E) ∧ (fun Z1 ν1 => zI none Z1 ∧ zK [70] Z Z1 ∧ zN ν ν1) Z1 ν1 := by
  obtain ⟨P, hP⟩ := zx (zg_200 a1 a2)
  refine zc_X (Q := fun Z1 ν1 => zI none Z1 ∧ zK [70] Z Z1 ∧ zN ν ν1) hP (fw_200 (i3 a1) (i3 a2) _ _ ?_)
  replace hP : zE P (zg_200 a1 a2) := hP
  unfold zg_200 at hP
  refine wz_thing (rfl : i3 a2 = i3 a2) (show (6 : Int32) = i3 6 from rfl) (by omega) (by omega) (by omega) (by omega) (fun h1 => ?_) (fun h1 => ?_)
  · replace hP := zE_p hP h1
    refine wz_inR (rfl : i3 a1 = i3 a1) (show (10 : Int32) = i3 10 from rfl) (show (99 : Int32) = i3 99 from rfl) (by omega) (by omega) (by omega) (by omega) (by omega) (by omega) (fun h2 => ?_) (fun h2 => ?_)
    · replace hP := zE_p hP h2
      refine fw_54 _ _ _ _ ?_
      refine wz_l0 sb_54_1 (fb_54_1 _ (i3 a2) (i3 0) (i3 0) _ _ _ _ (zconso rfl (zconso (zvo (rfl : i3 a2 = i3 a2)) (zconso rfl (zconso (zvo (show (0 : Int32) = i3 0 from rfl)) (zconso (zvo (show (0 : Int32) = i3 0 from rfl)) (zconso rfl rfl)))))) ?_)
      refine wz_i1 (Eq.trans (i3Le (Eq.trans (zm_rd (Z := Z) (ν := ν) (k := 11) (show ((0 : Nat) : Int) = 0 from rfl) (show ((0 : Nat) : Int) = 0 from rfl) (show ((6 : Nat) : Int) = 6 from rfl)) (congrArg i3 ((hF 11 0 6 (by decide)).trans ((show frz 11 0 6 = 0 from by decide))))) (rfl : i3 0 = i3 0) (by omega) (by omega) (by omega) (by omega)) (decide_eq_true (by omega))) ?_
      refine wz_lk0 (wz_sk0 ?_)
      refine fc_54_2 (i3 0) _ _ _ _ (zconso rfl (zconso rfl (zconso rfl (zconso (zvo (rfl : i3 0 = i3 0)) (zconso rfl (zconso rfl rfl)))))) ?_
      refine wz_i0 (Eq.trans (i3L (show (10 : Int32) = i3 10 from rfl) (rfl : i3 0 = i3 0) (by omega) (by omega) (by omega) (by omega)) (decide_eq_false (by omega))) ?_
      refine fw_46 _ _ _ ?_
      refine wz_l0 sb_46_1 (fb_46_1 (i3 0) (i3 0) (i3 0) _ _ _ _ (zconso rfl (zconso (zvo (rfl : i3 0 = i3 0)) (zconso (zvo (show (0 : Int32) = i3 0 from rfl)) (zconso (zvo (show (0 : Int32) = i3 0 from rfl)) rfl)))) ?_)
      refine wz_i1 (Eq.trans (i3Le (rfl : i3 0 = i3 0) (rfl : i3 0 = i3 0) (by omega) (by omega) (by omega) (by omega)) (decide_eq_true (by omega))) ?_
      refine wz_lk0 (wz_sk0 ?_)
      refine fc_46_2 (i3 0) _ _ _ _ (zconso rfl (zconso rfl (zconso (zvo (rfl : i3 0 = i3 0)) (zconso rfl rfl)))) ?_
      refine wz_i0 (Eq.trans (i3L (rfl : i3 a1 = i3 a1) (rfl : i3 0 = i3 0) (by omega) (by omega) (by omega) (by omega)) (decide_eq_false (by omega))) ?_
      refine wz_inT_y (show (1 : Int32) = i3 1 from rfl) (by omega) (by omega) (by omega) ?_
      refine fw_44 _ _ _ _ ?_
      obtain ⟨Z4, hZ4⟩ := zx (zu Z 70 0 0 0 a1)
      have hZ4I := zI_u hZ hZ4 (lo := -2147483648) (hi := 2147483647) (by decide) rfl (by omega) ⟨by decide, by decide⟩ (Or.inl (by decide))
      have hZ4K : zK [70] Z Z4 := zK_u zK_r hZ4 (by decide)
      intro μ9 e9
      replace e9 := e9.trans (zm_wI (Z := Z) (ν := ν) hZ4 (show ((0 : Nat) : Int) = 0 from rfl) (show ((0 : Nat) : Int) = 0 from rfl) (show ((0 : Nat) : Int) = 0 from rfl) (rfl : i3 a1 = i3 a1))
      subst e9
      refine wz_l0 sb_44_3 (fb_44_3 (i3 0) (i3 a1) (i3 1) _ _ _ _ (zconso rfl (zconso (zvo (rfl : i3 0 = i3 0)) (zconso (zvo (rfl : i3 a1 = i3 a1)) (zconso rfl (zconso (zvo (show (1 : Int32) = i3 1 from rfl)) (zconso rfl (zconso rfl (zconso rfl (zconso rfl rfl))))))))) ?_)
      refine wz_i1 (Eq.trans (i3Le (Eq.trans (i3Z (fun x y => x <<< (y &&& 31)) (show (1 : Int32) = i3 1 from rfl) (rfl : i3 0 = i3 0)) (show i3 (z2 (fun x y => x <<< (y &&& 31)) 1 0) = i3 1 from by decide +kernel)) (rfl : i3 1 = i3 1) (by omega) (by omega) (by omega) (by omega)) (decide_eq_true (by omega))) ?_
      refine wz_lk0 (wz_sk0 ?_)
      refine fc_44_4 (i3 0) _ _ _ _ (zconso rfl (zconso (zvo (rfl : i3 0 = i3 0)) (zconso rfl (zconso rfl (zconso rfl (zconso rfl (zconso rfl (zconso rfl (zconso rfl rfl))))))))) ?_
      refine wz_i0 (i3O (n := 1024) (i3S (Eq.trans (i3Z (fun x y => x <<< (y &&& 31)) (show (1 : Int32) = i3 1 from rfl) (rfl : i3 0 = i3 0)) (show i3 (z2 (fun x y => x <<< (y &&& 31)) 1 0) = i3 1 from by decide +kernel)) (show (1 : Int32) = i3 1 from rfl)) (by omega) (by omega) (by omega)) ?_
      exact zlX hP (i3D (Eq.trans (zm_rd (Z := Z4) (ν := ν) (k := 70) (show ((0 : Nat) : Int) = 0 from rfl) (show ((0 : Nat) : Int) = 0 from rfl) (i3I (y := 0) (i3S (Eq.trans (i3Z (fun x y => x <<< (y &&& 31)) (show (1 : Int32) = i3 1 from rfl) (rfl : i3 0 = i3 0)) (show i3 (z2 (fun x y => x <<< (y &&& 31)) 1 0) = i3 1 from by decide +kernel)) (show (1 : Int32) = i3 1 from rfl)) (by omega) (by omega) (by omega))) (congrArg i3 (zu_at hZ4))) (show (1000 : Int32) = i3 1000 from rfl) (by omega) (by omega) (by omega) (by omega)) ⟨hZ4I, hZ4K, zN_r⟩
    · replace hP := zE_n hP h2
      exact zlXe (E := 12) hP ⟨hZ, zK_r, zN_k rfl⟩
  · replace hP := zE_n hP h1
    exact zlXe (E := 23) hP ⟨hZ, zK_r, zN_k rfl⟩

/- yX11_looked -/
def zg_216 (a1 : Int) (a2 : Int) : Int × Int := (0, 24)
theorem sg_216 {Z : qz_Z} {ν : qz_N} (hZ : zI none Z) (hF : zF Z) {a1 : Int} (ga1 : -2147483648 ≤ a1 ∧ a1 ≤ 2147483647) {a2 : Int} (ga2 : -2147483648 ≤ a2 ∧ a2 ≤ 2147483647) : ∃ (Z1 : qz_Z) (ν1 : qz_N) (v E : Int), (v, E) = zg_216 a1 a2 ∧ qf_216 [.inr (.inr (some (0, 0, 0))), .inl (i3 a1), .inl (i3 a2)] (zm Z ν) = some (zm Z1 ν1, zoX v E) ∧ (fun Z1 ν1 => zI none Z1 ∧ zK [] Z Z1 ∧ zN ν ν1) Z1 ν1 := by
  obtain ⟨P, hP⟩ := zx (zg_216 a1 a2)
  refine zc_X (Q := fun Z1 ν1 => zI none Z1 ∧ zK [] Z Z1 ∧ zN ν ν1) hP (fw_216 (i3 a1) (i3 a2) _ _ ?_)
  replace hP : zE P (zg_216 a1 a2) := hP
  unfold zg_216 at hP
  refine wz_thing_n (rfl : i3 a1 = i3 a1) (Eq.trans (zm_rd (Z := Z) (ν := ν) (k := 11) (show ((0 : Nat) : Int) = 0 from rfl) (show ((0 : Nat) : Int) = 0 from rfl) (show ((9 : Nat) : Int) = 9 from rfl)) (congrArg i3 ((hF 11 0 9 (by decide)).trans ((show frz 11 0 9 = 0 from by decide))))) (by omega) (by omega) (by omega) (by omega) (by omega) ?_
  exact zlXe (E := 23) hP ⟨hZ, zK_r, zN_k rfl⟩

/- yX11_tariff -/
def zg_247 (a1 : Int) (a2 : Int) : Int × Int := (if 0 ≤ a1 ∧ a1 ≤ 3 then (if 0 ≤ a2 ∧ a2 ≤ 99999 then ((frz 13 0 a1), 0) else (0, 13)) else (0, 13))
theorem sg_247 {Z : qz_Z} {ν : qz_N} (hZ : zI none Z) (hF : zF Z) {a1 : Int} (ga1 : -2147483648 ≤ a1 ∧ a1 ≤ 2147483647) {a2 : Int} (ga2 : -2147483648 ≤ a2 ∧ a2 ≤ 2147483647) : ∃ (Z1 : qz_Z) (ν1 : qz_N) (v E : Int), (v, E) = zg_247 a1 a2 ∧ qf_247 [.inr (.inr (some (0, 0, 0))), .inl (i3 a1), .inl (i3 a2)] (zm Z ν) = some (zm Z1 ν1, zoX v E) ∧ (fun Z1 ν1 => zI none Z1 ∧ zK [3, 11, 12, 13, 14, 40, 41, 42, 43, 44, 45, 46, 47, 48, 49, 50, 51, 52, 53, 54, 61, 68] Z Z1 ∧ zN ν ν1) Z1 ν1 := by
  obtain ⟨P, hP⟩ := zx (zg_247 a1 a2)
  refine zc_X (Q := fun Z1 ν1 => zI none Z1 ∧ zK [3, 11, 12, 13, 14, 40, 41, 42, 43, 44, 45, 46, 47, 48, 49, 50, 51, 52, 53, 54, 61, 68] Z Z1 ∧ zN ν ν1) hP (fw_247 (i3 a1) (i3 a2) _ _ ?_)
  replace hP : zE P (zg_247 a1 a2) := hP
  unfold zg_247 at hP
  refine wz_inR (rfl : i3 a1 = i3 a1) (show (0 : Int32) = i3 0 from rfl) (show (3 : Int32) = i3 3 from rfl) (by omega) (by omega) (by omega) (by omega) (by omega) (by omega) (fun h1 => ?_) (fun h1 => ?_)
  · replace hP := zE_p hP h1
    refine wz_inR (rfl : i3 a2 = i3 a2) (show (0 : Int32) = i3 0 from rfl) (show (99999 : Int32) = i3 99999 from rfl) (by omega) (by omega) (by omega) (by omega) (by omega) (by omega) (fun h2 => ?_) (fun h2 => ?_)
    · replace hP := zE_p hP h2
      refine dc_J (zcons rfl (zcons (zvi (show (24 : Int32) = i3 24 from rfl)) (zcons (zvi (rfl : i3 a1 = i3 a1)) (zcons (zvi (rfl : i3 a2 = i3 a2)) (zcons (zvi (show (0 : Int32) = i3 0 from rfl)) (zcons (zvi (show (0 : Int32) = i3 0 from rfl)) (zcons (zvi (show (0 : Int32) = i3 0 from rfl)) (zcons (zvi (show (0 : Int32) = i3 0 from rfl)) rfl)))))))) (dc_I (ws := [3, 11, 12, 13, 14, 40, 41, 42, 43, 44, 45, 46, 47, 48, 49, 50, 51, 52, 53, 54, 61, 68]) (Z0 := Z) hF hZ zK_r (by decide) (by omega) (by omega) (by omega) (by omega) (by omega) (by omega) (by omega) (fun Z3 hZ3I hZ3F hZ3A hZ3K => ?_))
      refine fw_121 _ _ _ _ ?_
      refine wz_i1 rfl ?_
      refine wz_i0 (i3O (n := 7) (show (0 : Int32) = i3 0 from rfl) (by omega) (by omega) (by omega)) ?_
      refine wz_i0 (Eq.trans (i3To (Eq.trans (zm_rd (Z := Z3) (ν := ν) (k := 68) (show ((0 : Nat) : Int) = 0 from rfl) (show ((0 : Nat) : Int) = 0 from rfl) (show ((0 : Nat) : Int) = 0 from rfl)) (congrArg i3 ((hZ3A.1)))) (by omega) (by omega)) (decide_eq_false (by omega))) ?_
      refine wz_i0 (Eq.trans (i3T (Eq.trans (zm_rd (Z := Z3) (ν := ν) (k := 68) (show ((0 : Nat) : Int) = 0 from rfl) (show ((0 : Nat) : Int) = 0 from rfl) (show ((0 : Nat) : Int) = 0 from rfl)) (congrArg i3 ((hZ3A.1)))) (by omega) (by omega)) (decide_eq_false (by omega))) ?_
      refine wz_i0 (Eq.trans (i3T (Eq.trans (zm_rd (Z := Z3) (ν := ν) (k := 68) (show ((0 : Nat) : Int) = 0 from rfl) (show ((0 : Nat) : Int) = 0 from rfl) (show ((0 : Nat) : Int) = 0 from rfl)) (congrArg i3 ((hZ3A.1)))) (by omega) (by omega)) (decide_eq_false (by omega))) ?_
      refine wz_i0 (Eq.trans (i3T (Eq.trans (zm_rd (Z := Z3) (ν := ν) (k := 68) (show ((0 : Nat) : Int) = 0 from rfl) (show ((0 : Nat) : Int) = 0 from rfl) (show ((0 : Nat) : Int) = 0 from rfl)) (congrArg i3 ((hZ3A.1)))) (by omega) (by omega)) (decide_eq_false (by omega))) ?_
      refine wz_i0 (Eq.trans (i3T (Eq.trans (zm_rd (Z := Z3) (ν := ν) (k := 68) (show ((0 : Nat) : Int) = 0 from rfl) (show ((0 : Nat) : Int) = 0 from rfl) (show ((0 : Nat) : Int) = 0 from rfl)) (congrArg i3 ((hZ3A.1)))) (by omega) (by omega)) (decide_eq_false (by omega))) ?_
      refine wz_i0 (Eq.trans (i3T (Eq.trans (zm_rd (Z := Z3) (ν := ν) (k := 68) (show ((0 : Nat) : Int) = 0 from rfl) (show ((0 : Nat) : Int) = 0 from rfl) (show ((0 : Nat) : Int) = 0 from rfl)) (congrArg i3 ((hZ3A.1)))) (by omega) (by omega)) (decide_eq_false (by omega))) ?_
      refine wz_i0 (Eq.trans (i3T (Eq.trans (zm_rd (Z := Z3) (ν := ν) (k := 68) (show ((0 : Nat) : Int) = 0 from rfl) (show ((0 : Nat) : Int) = 0 from rfl) (show ((0 : Nat) : Int) = 0 from rfl)) (congrArg i3 ((hZ3A.1)))) (by omega) (by omega)) (decide_eq_false (by omega))) ?_
      refine wz_i0 (Eq.trans (i3T (Eq.trans (zm_rd (Z := Z3) (ν := ν) (k := 68) (show ((0 : Nat) : Int) = 0 from rfl) (show ((0 : Nat) : Int) = 0 from rfl) (show ((0 : Nat) : Int) = 0 from rfl)) (congrArg i3 ((hZ3A.1)))) (by omega) (by omega)) (decide_eq_false (by omega))) ?_
      refine wz_i0 (Eq.trans (i3T (Eq.trans (zm_rd (Z := Z3) (ν := ν) (k := 68) (show ((0 : Nat) : Int) = 0 from rfl) (show ((0 : Nat) : Int) = 0 from rfl) (show ((0 : Nat) : Int) = 0 from rfl)) (congrArg i3 ((hZ3A.1)))) (by omega) (by omega)) (decide_eq_false (by omega))) ?_
      refine wz_i0 (Eq.trans (i3T (Eq.trans (zm_rd (Z := Z3) (ν := ν) (k := 68) (show ((0 : Nat) : Int) = 0 from rfl) (show ((0 : Nat) : Int) = 0 from rfl) (show ((0 : Nat) : Int) = 0 from rfl)) (congrArg i3 ((hZ3A.1)))) (by omega) (by omega)) (decide_eq_false (by omega))) ?_
      refine wz_i0 (Eq.trans (i3T (Eq.trans (zm_rd (Z := Z3) (ν := ν) (k := 68) (show ((0 : Nat) : Int) = 0 from rfl) (show ((0 : Nat) : Int) = 0 from rfl) (show ((0 : Nat) : Int) = 0 from rfl)) (congrArg i3 ((hZ3A.1)))) (by omega) (by omega)) (decide_eq_false (by omega))) ?_
      refine wz_i0 (Eq.trans (i3T (Eq.trans (zm_rd (Z := Z3) (ν := ν) (k := 68) (show ((0 : Nat) : Int) = 0 from rfl) (show ((0 : Nat) : Int) = 0 from rfl) (show ((0 : Nat) : Int) = 0 from rfl)) (congrArg i3 ((hZ3A.1)))) (by omega) (by omega)) (decide_eq_false (by omega))) ?_
      refine wz_i0 (Eq.trans (i3T (Eq.trans (zm_rd (Z := Z3) (ν := ν) (k := 68) (show ((0 : Nat) : Int) = 0 from rfl) (show ((0 : Nat) : Int) = 0 from rfl) (show ((0 : Nat) : Int) = 0 from rfl)) (congrArg i3 ((hZ3A.1)))) (by omega) (by omega)) (decide_eq_false (by omega))) ?_
      refine wz_i0 (Eq.trans (i3T (Eq.trans (zm_rd (Z := Z3) (ν := ν) (k := 68) (show ((0 : Nat) : Int) = 0 from rfl) (show ((0 : Nat) : Int) = 0 from rfl) (show ((0 : Nat) : Int) = 0 from rfl)) (congrArg i3 ((hZ3A.1)))) (by omega) (by omega)) (decide_eq_false (by omega))) ?_
      refine wz_i0 (Eq.trans (i3T (Eq.trans (zm_rd (Z := Z3) (ν := ν) (k := 68) (show ((0 : Nat) : Int) = 0 from rfl) (show ((0 : Nat) : Int) = 0 from rfl) (show ((0 : Nat) : Int) = 0 from rfl)) (congrArg i3 ((hZ3A.1)))) (by omega) (by omega)) (decide_eq_false (by omega))) ?_
      refine wz_i0 (Eq.trans (i3T (Eq.trans (zm_rd (Z := Z3) (ν := ν) (k := 68) (show ((0 : Nat) : Int) = 0 from rfl) (show ((0 : Nat) : Int) = 0 from rfl) (show ((0 : Nat) : Int) = 0 from rfl)) (congrArg i3 ((hZ3A.1)))) (by omega) (by omega)) (decide_eq_false (by omega))) ?_
      refine wz_i0 (Eq.trans (i3T (Eq.trans (zm_rd (Z := Z3) (ν := ν) (k := 68) (show ((0 : Nat) : Int) = 0 from rfl) (show ((0 : Nat) : Int) = 0 from rfl) (show ((0 : Nat) : Int) = 0 from rfl)) (congrArg i3 ((hZ3A.1)))) (by omega) (by omega)) (decide_eq_false (by omega))) ?_
      refine wz_i0 (Eq.trans (i3T (Eq.trans (zm_rd (Z := Z3) (ν := ν) (k := 68) (show ((0 : Nat) : Int) = 0 from rfl) (show ((0 : Nat) : Int) = 0 from rfl) (show ((0 : Nat) : Int) = 0 from rfl)) (congrArg i3 ((hZ3A.1)))) (by omega) (by omega)) (decide_eq_false (by omega))) ?_
      refine wz_i0 (Eq.trans (i3T (Eq.trans (zm_rd (Z := Z3) (ν := ν) (k := 68) (show ((0 : Nat) : Int) = 0 from rfl) (show ((0 : Nat) : Int) = 0 from rfl) (show ((0 : Nat) : Int) = 0 from rfl)) (congrArg i3 ((hZ3A.1)))) (by omega) (by omega)) (decide_eq_false (by omega))) ?_
      refine wz_i0 (Eq.trans (i3T (Eq.trans (zm_rd (Z := Z3) (ν := ν) (k := 68) (show ((0 : Nat) : Int) = 0 from rfl) (show ((0 : Nat) : Int) = 0 from rfl) (show ((0 : Nat) : Int) = 0 from rfl)) (congrArg i3 ((hZ3A.1)))) (by omega) (by omega)) (decide_eq_false (by omega))) ?_
      refine wz_i0 (Eq.trans (i3T (Eq.trans (zm_rd (Z := Z3) (ν := ν) (k := 68) (show ((0 : Nat) : Int) = 0 from rfl) (show ((0 : Nat) : Int) = 0 from rfl) (show ((0 : Nat) : Int) = 0 from rfl)) (congrArg i3 ((hZ3A.1)))) (by omega) (by omega)) (decide_eq_false (by omega))) ?_
      refine wz_i0 (Eq.trans (i3T (Eq.trans (zm_rd (Z := Z3) (ν := ν) (k := 68) (show ((0 : Nat) : Int) = 0 from rfl) (show ((0 : Nat) : Int) = 0 from rfl) (show ((0 : Nat) : Int) = 0 from rfl)) (congrArg i3 ((hZ3A.1)))) (by omega) (by omega)) (decide_eq_false (by omega))) ?_
      refine wz_i0 (Eq.trans (i3T (Eq.trans (zm_rd (Z := Z3) (ν := ν) (k := 68) (show ((0 : Nat) : Int) = 0 from rfl) (show ((0 : Nat) : Int) = 0 from rfl) (show ((0 : Nat) : Int) = 0 from rfl)) (congrArg i3 ((hZ3A.1)))) (by omega) (by omega)) (decide_eq_false (by omega))) ?_
      refine wz_i0 (Eq.trans (i3T (Eq.trans (zm_rd (Z := Z3) (ν := ν) (k := 68) (show ((0 : Nat) : Int) = 0 from rfl) (show ((0 : Nat) : Int) = 0 from rfl) (show ((0 : Nat) : Int) = 0 from rfl)) (congrArg i3 ((hZ3A.1)))) (by omega) (by omega)) (decide_eq_false (by omega))) ?_
      refine wz_i0 (Eq.trans (i3T (Eq.trans (zm_rd (Z := Z3) (ν := ν) (k := 68) (show ((0 : Nat) : Int) = 0 from rfl) (show ((0 : Nat) : Int) = 0 from rfl) (show ((0 : Nat) : Int) = 0 from rfl)) (congrArg i3 ((hZ3A.1)))) (by omega) (by omega)) (decide_eq_false (by omega))) ?_
      refine wz_i1 (Eq.trans (i3T (Eq.trans (zm_rd (Z := Z3) (ν := ν) (k := 68) (show ((0 : Nat) : Int) = 0 from rfl) (show ((0 : Nat) : Int) = 0 from rfl) (show ((0 : Nat) : Int) = 0 from rfl)) (congrArg i3 ((hZ3A.1)))) (by omega) (by omega)) (decide_eq_true (by omega))) ?_
      refine wz_i1 rfl ?_
      refine wz_i0 (i3O (n := 7) (show (1 : Int32) = i3 1 from rfl) (by omega) (by omega) (by omega)) ?_
      refine wz_i1 rfl ?_
      refine wz_i0 (i3O (n := 7) (show (2 : Int32) = i3 2 from rfl) (by omega) (by omega) (by omega)) ?_
      refine wz_i0 (i3O (n := 4) (Eq.trans (zm_rd (Z := Z3) (ν := ν) (k := 68) (show ((0 : Nat) : Int) = 0 from rfl) (show ((0 : Nat) : Int) = 0 from rfl) (show ((1 : Nat) : Int) = 1 from rfl)) (congrArg i3 ((hZ3A.2.1)))) (by omega) (by omega) (by omega)) ?_
      refine wz_i0 (i3O (n := 4) (Eq.trans (zm_rd (Z := Z3) (ν := ν) (k := 68) (show ((0 : Nat) : Int) = 0 from rfl) (show ((0 : Nat) : Int) = 0 from rfl) (show ((1 : Nat) : Int) = 1 from rfl)) (congrArg i3 ((hZ3A.2.1)))) (by omega) (by omega) (by omega)) ?_
      obtain ⟨Z4, hZ4⟩ := zx (zu Z3 13 0 0 a1 a2)
      have hZ4I := zI_u hZ3I hZ4 (lo := 0) (hi := 99999) (by decide) (zrc_13 (by omega) (by omega)) (by omega) ⟨by decide, by decide⟩ (Or.inl (by decide))
      have hZ4K := zK_u hZ3K hZ4 (by decide)
      intro μ9 e9
      replace e9 := e9.trans (zm_wI (Z := Z3) (ν := ν) hZ4 (show ((0 : Nat) : Int) = 0 from rfl) (show ((0 : Nat) : Int) = 0 from rfl) (i3I (y := a1) (Eq.trans (zm_rd (Z := Z3) (ν := ν) (k := 68) (show ((0 : Nat) : Int) = 0 from rfl) (show ((0 : Nat) : Int) = 0 from rfl) (show ((1 : Nat) : Int) = 1 from rfl)) (congrArg i3 ((hZ3A.2.1)))) (by omega) (by omega) (by omega)) (Eq.trans (zm_rd (Z := Z3) (ν := ν) (k := 68) (show ((0 : Nat) : Int) = 0 from rfl) (show ((0 : Nat) : Int) = 0 from rfl) (show ((2 : Nat) : Int) = 2 from rfl)) (congrArg i3 ((hZ3A.2.2.1)))))
      subst e9
      have r5 := frz_r 13 0 a1
      exact zlX hP (Eq.trans (zm_rd (Z := Z3) (ν := ν) (k := 13) (show ((0 : Nat) : Int) = 0 from rfl) (show ((0 : Nat) : Int) = 0 from rfl) (i3I (y := a1) (Eq.trans (zm_rd (Z := Z3) (ν := ν) (k := 68) (show ((0 : Nat) : Int) = 0 from rfl) (show ((0 : Nat) : Int) = 0 from rfl) (show ((1 : Nat) : Int) = 1 from rfl)) (congrArg i3 ((hZ3A.2.1)))) (by omega) (by omega) (by omega))) (congrArg i3 (hZ3F 13 0 a1 (frp_s (by decide))))) ⟨hZ4I, hZ4K, zN_r⟩
    · replace hP := zE_n hP h2
      exact zlXe (E := 12) hP ⟨hZ, zK_r, zN_k rfl⟩
  · replace hP := zE_n hP h1
    exact zlXe (E := 12) hP ⟨hZ, zK_r, zN_k rfl⟩

/- yX11_owed -/
def zg_223 (a1 : Int) (a2 : Int) : Int × Int := (0, 24)
theorem sg_223 {Z : qz_Z} {ν : qz_N} (hZ : zI none Z) (hF : zF Z) {a1 : Int} (ga1 : -2147483648 ≤ a1 ∧ a1 ≤ 2147483647) {a2 : Int} (ga2 : -2147483648 ≤ a2 ∧ a2 ≤ 2147483647) : ∃ (Z1 : qz_Z) (ν1 : qz_N) (v E : Int), (v, E) = zg_223 a1 a2 ∧ qf_223 [.inr (.inr (some (0, 0, 0))), .inl (i3 a1), .inl (i3 a2)] (zm Z ν) = some (zm Z1 ν1, zoX v E) ∧ (fun Z1 ν1 => zI none Z1 ∧ zK [] Z Z1 ∧ zN ν ν1) Z1 ν1 := by
  obtain ⟨P, hP⟩ := zx (zg_223 a1 a2)
  refine zc_X (Q := fun Z1 ν1 => zI none Z1 ∧ zK [] Z Z1 ∧ zN ν ν1) hP (fw_223 (i3 a1) (i3 a2) _ _ ?_)
  replace hP : zE P (zg_223 a1 a2) := hP
  unfold zg_223 at hP
  refine wz_thing_n (rfl : i3 a1 = i3 a1) (Eq.trans (zm_rd (Z := Z) (ν := ν) (k := 11) (show ((0 : Nat) : Int) = 0 from rfl) (show ((0 : Nat) : Int) = 0 from rfl) (show ((1 : Nat) : Int) = 1 from rfl)) (congrArg i3 ((hF 11 0 1 (by decide)).trans ((show frz 11 0 1 = 0 from by decide))))) (by omega) (by omega) (by omega) (by omega) (by omega) ?_
  exact zlXe (E := 23) hP ⟨hZ, zK_r, zN_k rfl⟩

/- yX11_blame -/
def zg_190 (a1 : Int) (a2 : Int) (a3 : Int) : Int × Int := (0, 24)
theorem sg_190 {Z : qz_Z} {ν : qz_N} (hZ : zI none Z) (hF : zF Z) {a1 : Int} (ga1 : -2147483648 ≤ a1 ∧ a1 ≤ 2147483647) {a2 : Int} (ga2 : -2147483648 ≤ a2 ∧ a2 ≤ 2147483647) {a3 : Int} (ga3 : -2147483648 ≤ a3 ∧ a3 ≤ 2147483647) : ∃ (Z1 : qz_Z) (ν1 : qz_N) (v E : Int), (v, E) = zg_190 a1 a2 a3 ∧ qf_190 [.inr (.inr (some (0, 0, 0))), .inl (i3 a1), .inl (i3 a2), .inl (i3 a3)] (zm Z ν) = some (zm Z1 ν1, zoX v E) ∧ (fun Z1 ν1 => zI none Z1 ∧ zK [] Z Z1 ∧ zN ν ν1) Z1 ν1 := by
  obtain ⟨P, hP⟩ := zx (zg_190 a1 a2 a3)
  refine zc_X (Q := fun Z1 ν1 => zI none Z1 ∧ zK [] Z Z1 ∧ zN ν ν1) hP (fw_190 (i3 a1) (i3 a2) (i3 a3) _ _ ?_)
  replace hP : zE P (zg_190 a1 a2 a3) := hP
  unfold zg_190 at hP
  refine wz_thing_n (rfl : i3 a1 = i3 a1) (Eq.trans (zm_rd (Z := Z) (ν := ν) (k := 11) (show ((0 : Nat) : Int) = 0 from rfl) (show ((0 : Nat) : Int) = 0 from rfl) (show ((6 : Nat) : Int) = 6 from rfl)) (congrArg i3 ((hF 11 0 6 (by decide)).trans ((show frz 11 0 6 = 0 from by decide))))) (by omega) (by omega) (by omega) (by omega) (by omega) ?_
  exact zlXe (E := 23) hP ⟨hZ, zK_r, zN_k rfl⟩

/- yX11_undo -/
def zg_252 : Int × Int := (0, 15)
theorem sg_252 {Z : qz_Z} {ν : qz_N} (hZ : zI none Z) (hF : zF Z) : ∃ (Z1 : qz_Z) (ν1 : qz_N) (v E : Int), (v, E) = zg_252 ∧ qf_252 [.inr (.inr (some (0, 0, 0)))] (zm Z ν) = some (zm Z1 ν1, zoX v E) ∧ (fun Z1 ν1 => zI none Z1 ∧ zK [] Z Z1 ∧ zN ν ν1) Z1 ν1 := by
  obtain ⟨P, hP⟩ := zx (zg_252)
  refine zc_X (Q := fun Z1 ν1 => zI none Z1 ∧ zK [] Z Z1 ∧ zN ν ν1) hP (fw_252  _ _ ?_)
  replace hP : zE P (zg_252) := hP
  unfold zg_252 at hP
  refine wz_i1 (Eq.trans (i3Le (Eq.trans (zm_rd (Z := Z) (ν := ν) (k := 3) (show ((0 : Nat) : Int) = 0 from rfl) (show ((0 : Nat) : Int) = 0 from rfl) (show ((8 : Nat) : Int) = 8 from rfl)) (congrArg i3 ((hF 3 0 8 (by decide)).trans ((show frz 3 0 8 = 0 from by decide))))) (show (0 : Int32) = i3 0 from rfl) (by omega) (by omega) (by omega) (by omega)) (decide_eq_true (by omega))) ?_
  refine wz_inT_n (show (0 : Int32) = i3 0 from rfl) (by omega) (by omega) (by omega) ?_
  exact zlXe (E := 14) hP ⟨hZ, zK_r, zN_k rfl⟩
