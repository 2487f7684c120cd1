/-! a season told, the class (printed by season.py c) -/
/- yX8_tellAll -/
def zf_144 (Z : qz_Z) (sn hb : Int) : qz_Z × Int := (zlet (zf_148 Z sn hb) (fun Z1 => (zlet (zf_150 Z1 sn hb) (fun Z2 => (zlet (zf_145 Z2 sn hb) (fun Z3 => (zlet (zf_147 Z3 sn hb) (fun Z4 => (zlet (zf_146 Z4 sn hb) (fun Z5 => (zlet (zf_149 Z5 sn hb) (fun Z6 => (Z6, (Z6 11 hb 0 3))))))))))))))
theorem sp_144 {Z : qz_Z} {ν : qz_N} {sn : Nat} (hZ : zI (some (some (sn : Int))) Z) (hb : Nat) (tsn : ∀ Z, qz_tag (zm Z ν) (200, sn, 0) = 2) (rsn : ∀ Z, qz_rm (zm Z ν) 200 sn 0 0 = some (10, hb, 0)) (gx0 : Z 11 hb 0 0 = 0) (gx1 : Z 11 hb 0 1 = 0) (gx2 : Z 11 hb 0 2 = 0) (gx3 : Z 11 hb 0 3 = 0) (gx4 : Z 11 hb 0 4 = 0) (gx5 : Z 11 hb 0 5 = 0) (gx6 : Z 11 hb 0 7 = 0) (gx7 : Z 11 hb 0 8 = 0) (gx8 : Z 11 hb 0 9 = 0) (gx9 : 1 ≤ (sn : Int)) : ∃ (Z1 : qz_Z) (P : Int), (Z1, P) = zf_144 Z sn hb ∧ (qf_144 [.inr (.inr (some (200, sn, 0)))] (zm Z ν) = some (zm Z1 ν, .inl (some (.inl (i3 P)))) ∧ zI (some (some (sn : Int))) Z1 ∧ zK [11, 12, 40, 41, 42, 43, 44, 45, 46, 48, 49, 50, 51, 200] Z Z1 ∧ 0 ≤ P ∧ P ≤ 48 ∧ P = Z 200 sn 0 1 ∧ Z1 200 0 0 1 = Z 200 0 0 1 ∧ Z1 200 0 0 2 = Z 200 0 0 2) := by
  obtain ⟨P, hP⟩ := zx (zf_144 Z sn hb)
  refine zc_W (Q := fun Z1 P => zI (some (some (sn : Int))) Z1 ∧ zK [11, 12, 40, 41, 42, 43, 44, 45, 46, 48, 49, 50, 51, 200] Z Z1 ∧ 0 ≤ P ∧ P ≤ 48 ∧ P = Z 200 sn 0 1 ∧ Z1 200 0 0 1 = Z 200 0 0 1 ∧ Z1 200 0 0 2 = Z 200 0 0 2) hP (fw_144 sn _ _ ?_)
  replace hP : zE P (zf_144 Z sn hb) := hP
  unfold zf_144 at hP
  have rs := zI_xs (n := sn) hZ
  refine wz_i1 (by rw [tsn]; rfl) ?_
  obtain ⟨Z1, hZ1, c9, hZ1I, kZ1, wZ10, wZ11, wZ12, wZ13, wZ14, wZ15, wZ16, wZ17, wZ18⟩ := sp_148 (ν := ν) hZ hb tsn rsn (by omega) (by omega) (by omega) (by omega)
  have hZ1K : zK [11, 12, 40, 41, 42, 43, 44, 45, 46, 48, 49, 50, 51, 200] Z Z1 := zK_t zK_r kZ1 (by decide)
  replace hP := zl_e hP hZ1
  refine wz_cV_of (zas (zcons rfl rfl) c9) ?_
  clear c9
  refine wz_i1 (by rw [tsn]; rfl) ?_
  obtain ⟨Z2, hZ2, c9, hZ2I, kZ2, wZ20, wZ21, wZ22, wZ23, wZ24, wZ25, wZ26, wZ27⟩ := sp_150 (ν := ν) hZ1I hb tsn rsn (by omega) (by omega)
  have hZ2K : zK [11, 12, 40, 41, 42, 43, 44, 45, 46, 48, 49, 50, 51, 200] Z Z2 := zK_t hZ1K kZ2 (by decide)
  replace hP := zl_e hP hZ2
  refine wz_cV_of (zas (zcons rfl rfl) c9) ?_
  clear c9
  refine wz_i1 (by rw [tsn]; rfl) ?_
  obtain ⟨Z3, hZ3, c9, hZ3I, kZ3, wZ30, wZ31, wZ32, wZ33, wZ34, wZ35⟩ := sp_145 (ν := ν) hZ2I hb tsn rsn (by omega) (by omega) (by omega)
  have hZ3K : zK [11, 12, 40, 41, 42, 43, 44, 45, 46, 48, 49, 50, 51, 200] Z Z3 := zK_t hZ2K kZ3 (by decide)
  replace hP := zl_e hP hZ3
  refine wz_cV_of (zas (zcons rfl rfl) c9) ?_
  clear c9
  refine wz_i1 (by rw [tsn]; rfl) ?_
  obtain ⟨Z4, hZ4, c9, hZ4I, kZ4, wZ40, wZ41, wZ42, wZ43, wZ44⟩ := sp_147 (ν := ν) hZ3I hb tsn rsn (by omega) (by omega)
  have hZ4K : zK [11, 12, 40, 41, 42, 43, 44, 45, 46, 48, 49, 50, 51, 200] Z Z4 := zK_t hZ3K kZ4 (by decide)
  replace hP := zl_e hP hZ4
  refine wz_cV_of (zas (zcons rfl rfl) c9) ?_
  clear c9
  refine wz_i1 (by rw [tsn]; rfl) ?_
  obtain ⟨Z5, hZ5, c9, hZ5I, kZ5, wZ50, wZ51, wZ52, wZ53⟩ := sp_146 (ν := ν) hZ4I hb tsn rsn (by omega) (by omega)
  have hZ5K : zK [11, 12, 40, 41, 42, 43, 44, 45, 46, 48, 49, 50, 51, 200] Z Z5 := zK_t hZ4K kZ5 (by decide)
  replace hP := zl_e hP hZ5
  refine wz_cV_of (zas (zcons rfl rfl) c9) ?_
  clear c9
  refine wz_i1 (by rw [tsn]; rfl) ?_
  obtain ⟨Z6, hZ6, c9, hZ6I, kZ6, wZ60, wZ61, wZ62⟩ := sp_149 (ν := ν) hZ5I hb tsn rsn (by omega) (by omega)
  have hZ6K : zK [11, 12, 40, 41, 42, 43, 44, 45, 46, 48, 49, 50, 51, 200] Z Z6 := zK_t hZ5K kZ6 (by decide)
  replace hP := zl_e hP hZ6
  refine wz_cV_of (zas (zcons rfl rfl) c9) ?_
  clear c9
  refine wz_i1 (by rw [tsn]; rfl) ?_
  refine wz_rko (rsn _) ?_
  refine wz_i1 rfl ?_
  refine wz_rko (r := (11, _, _)) rfl ?_
  refine wz_i1 rfl ?_
  refine wz_i0 (i3O (n := 17) (show (3 : Int32) = i3 3 from rfl) (by omega) (by omega) (by omega)) ?_
  have r7 := zI_k hZ6I 11 hb 0 3 (lo := 0) (hi := 48) (by decide) rfl
  exact zlW hP (zm_rd (Z := Z6) (ν := ν) (k := 11) (rfl : ((hb : Nat) : Int) = hb) (show ((0 : Nat) : Int) = 0 from rfl) (show ((3 : Nat) : Int) = 3 from rfl)) ⟨hZ6I, hZ6K, by omega, by omega, by omega, by omega, by omega⟩
