/-! THE CLASS'S DEED, in any state: as far as perform() -/
def zhall (k : Nat) : Bool := [11, 12, 13, 14, 40, 41, 42, 43, 44, 45, 46, 47, 48, 49, 50, 51, 52, 53, 54].contains k
/-- what it lays down: the act, the hall as it was, how many can be undone, the record -/
def zd1 (Z : qz_Z) (a1 a2 a3 a4 a5 a6 a7 : Int) : qz_Z := zu (zu (zu (zu (zu (zu (zu Z 68 0 0 0 a1) 68 0 0 1 a2) 68 0 0 2 a3) 68 0 0 3 a4) 68 0 0 4 a5) 68 0 0 5 a6) 68 0 0 6 a7
def zd2 (Z : qz_Z) : qz_Z := zu (zu (zcp (zu Z 3 0 0 7 ((Z 3 0 0 7 + 1) % 8)) 0 (2 + (Z 3 0 0 7 + 1) % 8)) 3 0 0 8 (min (Z 3 0 0 8 + 1) 8)) 11 0 0 15 (w3 (Z 11 0 0 15 + 1))
def zd3 (Z : qz_Z) : qz_Z := zu (zu (zu (zrw Z (Z 3 0 0 6) (va_cpy (fun j => i3 (Z 68 0 0 j)) (fun j => i3 (Z 61 0 (Z 3 0 0 6) j)) 0 0 7)) 61 0 (Z 3 0 0 6) 7 (Z 11 0 0 16)) 11 0 0 16 (Z 3 0 0 6)) 3 0 0 6 (Z 3 0 0 6 + 1)
def zdd (Z : qz_Z) (a1 a2 a3 a4 a5 a6 a7 : Int) : qz_Z := if zd2 (zd1 Z a1 a2 a3 a4 a5 a6 a7) 3 0 0 6 < 520 then zd3 (zd2 (zd1 Z a1 a2 a3 a4 a5 a6 a7)) else zd2 (zd1 Z a1 a2 a3 a4 a5 a6 a7)
theorem zd1_ne {Z : qz_Z} {a1 a2 a3 a4 a5 a6 a7 : Int} {k : Nat} {b i j : Int} (hk : k ≠ 68) : zd1 Z a1 a2 a3 a4 a5 a6 a7 k b i j = Z k b i j := by
  unfold zd1
  iterate 7 rw [zu_ne rfl (fun q => hk q.1)]
theorem zd1_I {Z : qz_Z} (hZ : zI none Z) {a1 a2 a3 a4 a5 a6 a7 : Int} (g1 : -2147483648 ≤ a1 ∧ a1 ≤ 2147483647) (g2 : -2147483648 ≤ a2 ∧ a2 ≤ 2147483647) (g3 : -2147483648 ≤ a3 ∧ a3 ≤ 2147483647) (g4 : -2147483648 ≤ a4 ∧ a4 ≤ 2147483647) (g5 : -2147483648 ≤ a5 ∧ a5 ≤ 2147483647) (g6 : -2147483648 ≤ a6 ∧ a6 ≤ 2147483647) (g7 : -2147483648 ≤ a7 ∧ a7 ≤ 2147483647) : zI none (zd1 Z a1 a2 a3 a4 a5 a6 a7) := by
  have st : ∀ {Z : qz_Z} (j : Int) {v : Int}, zI none Z → -2147483648 ≤ v ∧ v ≤ 2147483647 → zr 68 j = (-2147483648, 2147483647) → zI none (zu Z 68 0 0 j v) := fun j _ h g e => zI_u h rfl (lo := -2147483648) (hi := 2147483647) (by decide) e g ⟨by decide, by decide⟩ (Or.inl (by decide))
  exact st 6 (st 5 (st 4 (st 3 (st 2 (st 1 (st 0 hZ g1 rfl) g2 rfl) g3 rfl) g4 rfl) g5 rfl) g6 rfl) g7 rfl
theorem zd1_68 {Z : qz_Z} {a1 a2 a3 a4 a5 a6 a7 : Int} : zd1 Z a1 a2 a3 a4 a5 a6 a7 68 0 0 0 = a1 ∧ zd1 Z a1 a2 a3 a4 a5 a6 a7 68 0 0 1 = a2 ∧ zd1 Z a1 a2 a3 a4 a5 a6 a7 68 0 0 2 = a3 ∧ zd1 Z a1 a2 a3 a4 a5 a6 a7 68 0 0 3 = a4 ∧ zd1 Z a1 a2 a3 a4 a5 a6 a7 68 0 0 4 = a5 ∧ zd1 Z a1 a2 a3 a4 a5 a6 a7 68 0 0 5 = a6 ∧ zd1 Z a1 a2 a3 a4 a5 a6 a7 68 0 0 6 = a7 := ⟨rfl, rfl, rfl, rfl, rfl, rfl, rfl⟩
theorem zcp_ne {Z : qz_Z} {b0 b1 : Int} {k : Nat} {b i j : Int} (h : b ≠ b1) : zcp Z b0 b1 k b i j = Z k b i j := if_neg (fun q => h q.1)
theorem zcp_nk {Z : qz_Z} {b0 b1 : Int} {k : Nat} {b i j : Int} (h : zhall k = false) : zcp Z b0 b1 k b i j = Z k b i j := if_neg (fun q => by
  have q2 := q.2
  unfold zhk at q2
  rw [Bool.and_eq_true, Bool.and_eq_true] at q2
  have := qz_hk_k q2.2.2
  rw [show zhall k = true from this] at h
  cases h)
theorem zI_cp {Z : qz_Z} (hZ : zI none Z) (b0 b1 : Int) : zI none (zcp Z b0 b1) := by
  refine ⟨fun k b i j hk => ?_, fun k b i j => ?_, fun n hn => (by cases hn), fun hn => (by cases hn)⟩
  · show (zr k j).1 ≤ (if _ then Z k b0 i j else Z k b i j) ∧ (if _ then Z k b0 i j else Z k b i j) ≤ (zr k j).2
    split
    · exact hZ.1 _ _ _ _ hk
    · exact hZ.1 _ _ _ _ hk
  · show -2147483648 ≤ (if _ then Z k b0 i j else Z k b i j) ∧ (if _ then Z k b0 i j else Z k b i j) ≤ 2147483647
    split
    · exact hZ.2.1 _ _ _ _
    · exact hZ.2.1 _ _ _ _
theorem zd2_I {Z : qz_Z} (hZ : zI none Z) : zI none (zd2 Z) := by
  have h7 := zI_k hZ 3 0 0 7 (lo := 0) (hi := 7) (by decide) rfl
  have h8 := zI_k hZ 3 0 0 8 (lo := 0) (hi := 8) (by decide) rfl
  have w := w3_r (Z 11 0 0 15 + 1)
  have i1 : zI none (zu Z 3 0 0 7 ((Z 3 0 0 7 + 1) % 8)) := zI_u hZ rfl (lo := 0) (hi := 7) (by decide) rfl (by omega) ⟨by decide, by decide⟩ (Or.inl (by decide))
  have i2 := zI_cp i1 0 (2 + (Z 3 0 0 7 + 1) % 8)
  have i3 : zI none (zu (zcp (zu Z 3 0 0 7 ((Z 3 0 0 7 + 1) % 8)) 0 (2 + (Z 3 0 0 7 + 1) % 8)) 3 0 0 8 (min (Z 3 0 0 8 + 1) 8)) := zI_u i2 rfl (lo := 0) (hi := 8) (by decide) rfl (by omega) ⟨by decide, by decide⟩ (Or.inl (by decide))
  exact zI_u i3 rfl (lo := -2147483648) (hi := 2147483647) (by decide) rfl (by omega) ⟨by decide, by decide⟩ (Or.inl (by decide))
theorem zd2_3 {Z : qz_Z} (hZ : zI none Z) : zd2 Z 3 0 0 6 = Z 3 0 0 6 ∧ zd2 Z 11 0 0 16 = Z 11 0 0 16 := by
  have h7 := zI_k hZ 3 0 0 7 (lo := 0) (hi := 7) (by decide) rfl
  unfold zd2
  refine ⟨?_, ?_⟩
  · rw [zu_ne rfl (by omega), zu_ne rfl (by omega), zcp_nk rfl, zu_ne rfl (by omega)]
  · rw [zu_ne rfl (by omega), zu_ne rfl (by omega), zcp_ne (by omega), zu_ne rfl (by omega)]
theorem zd3_I {Z : qz_Z} (hZ : zI none Z) (h : Z 3 0 0 6 < 520) : zI none (zd3 Z) := by
  have h6 := zI_k hZ 3 0 0 6 (lo := 0) (hi := 520) (by decide) rfl
  have h16 := zI_k hZ 11 0 0 16 (lo := -1) (hi := 519) (by decide) rfl
  have i1 : zI none (zrw Z (Z 3 0 0 6) (va_cpy (fun j => i3 (Z 68 0 0 j)) (fun j => i3 (Z 61 0 (Z 3 0 0 6) j)) 0 0 7)) := zI_rw hZ
  have i2 := zI_u (b := 0) (i := Z 3 0 0 6) (j := 7) (v := Z 11 0 0 16) i1 rfl (k := 61) (lo := -2147483648) (hi := 2147483647) (by decide) rfl (by omega) ⟨by decide, by decide⟩ (Or.inl (by decide))
  have i3 := zI_u (b := 0) (i := 0) (j := 16) (v := Z 3 0 0 6) i2 rfl (k := 11) (lo := -1) (hi := 519) (by decide) rfl (by omega) ⟨by decide, by decide⟩ (Or.inl (by decide))
  exact zI_u (b := 0) (i := 0) (j := 6) (v := Z 3 0 0 6 + 1) i3 rfl (k := 3) (lo := 0) (hi := 520) (by decide) rfl (by omega) ⟨by decide, by decide⟩ (Or.inl (by decide))
theorem zdd_I {Z : qz_Z} (hZ : zI none Z) {a1 a2 a3 a4 a5 a6 a7 : Int} (g1 : -2147483648 ≤ a1 ∧ a1 ≤ 2147483647) (g2 : -2147483648 ≤ a2 ∧ a2 ≤ 2147483647) (g3 : -2147483648 ≤ a3 ∧ a3 ≤ 2147483647) (g4 : -2147483648 ≤ a4 ∧ a4 ≤ 2147483647) (g5 : -2147483648 ≤ a5 ∧ a5 ≤ 2147483647) (g6 : -2147483648 ≤ a6 ∧ a6 ≤ 2147483647) (g7 : -2147483648 ≤ a7 ∧ a7 ≤ 2147483647) : zI none (zdd Z a1 a2 a3 a4 a5 a6 a7) := by
  have i2 := zd2_I (zd1_I hZ g1 g2 g3 g4 g5 g6 g7)
  unfold zdd
  split
  · exact zd3_I i2 (by assumption)
  · exact i2
/-- what the hall shows behind it -/
theorem zdd_h {Z : qz_Z} (hZ : zI none Z) {a1 a2 a3 a4 a5 a6 a7 : Int} {k : Nat} {i j : Int} (hk : zhall k = true) (hj : ¬ (k = 11 ∧ (j = 15 ∨ j = 16))) : zdd Z a1 a2 a3 a4 a5 a6 a7 k 0 i j = Z k 0 i j := by
  have h7 := zI_k hZ 3 0 0 7 (lo := 0) (hi := 7) (by decide) rfl
  have n3 : k ≠ 3 := fun q => by subst q; cases hk
  have n61 : k ≠ 61 := fun q => by subst q; cases hk
  have n68 : k ≠ 68 := fun q => by subst q; cases hk
  have e7 : zd1 Z a1 a2 a3 a4 a5 a6 a7 3 0 0 7 = Z 3 0 0 7 := zd1_ne (by decide)
  have d2 : zd2 (zd1 Z a1 a2 a3 a4 a5 a6 a7) k 0 i j = Z k 0 i j := by
    unfold zd2
    rw [e7, zu_ne rfl (fun q => hj ⟨q.1, .inl q.2.2.2⟩), zu_ne rfl (fun q => n3 q.1), zcp_ne (by omega), zu_ne rfl (fun q => n3 q.1), zd1_ne n68]
  unfold zdd
  split
  · unfold zd3
    rw [zu_ne rfl (fun q => n3 q.1), zu_ne rfl (fun q => hj ⟨q.1, .inr q.2.2.2⟩), zu_ne rfl (fun q => n61 q.1)]
    exact (if_neg (fun q => n61 q.1)).trans d2
  · exact d2
theorem zdd_68 {Z : qz_Z} {a1 a2 a3 a4 a5 a6 a7 : Int} {j : Int} : zdd Z a1 a2 a3 a4 a5 a6 a7 68 0 0 j = zd1 Z a1 a2 a3 a4 a5 a6 a7 68 0 0 j := by
  have d2 : zd2 (zd1 Z a1 a2 a3 a4 a5 a6 a7) 68 0 0 j = zd1 Z a1 a2 a3 a4 a5 a6 a7 68 0 0 j := by
    unfold zd2
    rw [zu_ne rfl (fun q => absurd q.1 (by decide)), zu_ne rfl (fun q => absurd q.1 (by decide)), zcp_nk rfl, zu_ne rfl (fun q => absurd q.1 (by decide))]
  unfold zdd
  split
  · unfold zd3
    rw [zu_ne rfl (fun q => absurd q.1 (by decide)), zu_ne rfl (fun q => absurd q.1 (by decide)), zu_ne rfl (fun q => absurd q.1 (by decide))]
    exact (if_neg (fun q => absurd q.1 (by decide))).trans d2
  · exact d2
theorem zdd_K {Z : qz_Z} {a1 a2 a3 a4 a5 a6 a7 : Int} : zK [3, 11, 12, 13, 14, 40, 41, 42, 43, 44, 45, 46, 47, 48, 49, 50, 51, 52, 53, 54, 61, 68] Z (zdd Z a1 a2 a3 a4 a5 a6 a7) := fun k hk b i j => by
  have hn : ∀ m, [3, 11, 12, 13, 14, 40, 41, 42, 43, 44, 45, 46, 47, 48, 49, 50, 51, 52, 53, 54, 61, 68].contains m = true → k ≠ m := fun m hm q => by subst q; rw [hm] at hk; cases hk
  have hh : zhall k = false := by
    cases hc : zhall k
    · rfl
    · exact absurd rfl (hn k (List.contains_iff_mem.mpr (by
        have := List.contains_iff_mem.mp hc
        revert this
        simp only [List.mem_cons, List.not_mem_nil, or_false]
        omega)))
  have d2 : zd2 (zd1 Z a1 a2 a3 a4 a5 a6 a7) k b i j = Z k b i j := by
    unfold zd2
    rw [zu_ne rfl (fun q => hn 11 rfl q.1), zu_ne rfl (fun q => hn 3 rfl q.1), zcp_nk hh, zu_ne rfl (fun q => hn 3 rfl q.1), zd1_ne (hn 68 rfl)]
  unfold zdd
  split
  · unfold zd3
    rw [zu_ne rfl (fun q => hn 3 rfl q.1), zu_ne rfl (fun q => hn 11 rfl q.1), zu_ne rfl (fun q => hn 61 rfl q.1)]
    exact (if_neg (fun q => hn 61 rfl q.1)).trans d2
  · exact d2
theorem dg {Z : qz_Z} {ν : qz_N} (hZ : zI none Z) {a1 a2 a3 a4 a5 a6 a7 : Int} (g1 : -2147483648 ≤ a1 ∧ a1 ≤ 2147483647) (g2 : -2147483648 ≤ a2 ∧ a2 ≤ 2147483647) (g3 : -2147483648 ≤ a3 ∧ a3 ≤ 2147483647) (g4 : -2147483648 ≤ a4 ∧ a4 ≤ 2147483647) (g5 : -2147483648 ≤ a5 ∧ a5 ≤ 2147483647) (g6 : -2147483648 ≤ a6 ∧ a6 ≤ 2147483647) (g7 : -2147483648 ≤ a7 ∧ a7 ≤ 2147483647) {kv : qz_M → Int32 → Prop} {ke : qz_M → Nat → Prop}
    (hd : wz_cI qf_121 [.inr (.inr (some (10, 0, 0))), .inr (.inr (some (68, 0, 0)))] (zm (zdd Z a1 a2 a3 a4 a5 a6 a7) ν) kv ke) : wz_cI qf_194 [.inr (.inr (some (0, 0, 0))), .inl (i3 a1), .inl (i3 a2), .inl (i3 a3), .inl (i3 a4), .inl (i3 a5), .inl (i3 a6), .inl (i3 a7)] (zm Z ν) kv ke := by
  refine fw_194 (i3 a1) (i3 a2) (i3 a3) (i3 a4) (i3 a5) (i3 a6) (i3 a7) _ _ ?_
  intro μ9 e9
  replace e9 := e9.trans (zm_wI (ν := ν) (Z1 := zu Z 68 0 0 0 a1) rfl rfl rfl rfl rfl)
  subst e9
  intro μ9 e9
  replace e9 := e9.trans (zm_wI (ν := ν) (Z1 := zu (zu Z 68 0 0 0 a1) 68 0 0 1 a2) rfl rfl rfl rfl rfl)
  subst e9
  intro μ9 e9
  replace e9 := e9.trans (zm_wI (ν := ν) (Z1 := zu (zu (zu Z 68 0 0 0 a1) 68 0 0 1 a2) 68 0 0 2 a3) rfl rfl rfl rfl rfl)
  subst e9
  intro μ9 e9
  replace e9 := e9.trans (zm_wI (ν := ν) (Z1 := zu (zu (zu (zu Z 68 0 0 0 a1) 68 0 0 1 a2) 68 0 0 2 a3) 68 0 0 3 a4) rfl rfl rfl rfl rfl)
  subst e9
  intro μ9 e9
  replace e9 := e9.trans (zm_wI (ν := ν) (Z1 := zu (zu (zu (zu (zu Z 68 0 0 0 a1) 68 0 0 1 a2) 68 0 0 2 a3) 68 0 0 3 a4) 68 0 0 4 a5) rfl rfl rfl rfl rfl)
  subst e9
  intro μ9 e9
  replace e9 := e9.trans (zm_wI (ν := ν) (Z1 := zu (zu (zu (zu (zu (zu Z 68 0 0 0 a1) 68 0 0 1 a2) 68 0 0 2 a3) 68 0 0 3 a4) 68 0 0 4 a5) 68 0 0 5 a6) rfl rfl rfl rfl rfl)
  subst e9
  intro μ9 e9
  replace e9 := e9.trans (zm_wI (ν := ν) (Z1 := zd1 Z a1 a2 a3 a4 a5 a6 a7) rfl rfl rfl rfl rfl)
  subst e9
  have hI1 := zd1_I hZ g1 g2 g3 g4 g5 g6 g7
  have hd2 := hd
  unfold zdd at hd2
  clear hd
  generalize zd1 Z a1 a2 a3 a4 a5 a6 a7 = Y at hI1 hd2 ⊢
  have h6 := zI_k hI1 3 0 0 6 (lo := 0) (hi := 520) (by decide) rfl
  have h7 := zI_k hI1 3 0 0 7 (lo := 0) (hi := 7) (by decide) rfl
  have h8 := zI_k hI1 3 0 0 8 (lo := 0) (hi := 8) (by decide) rfl
  have h15 := zI_f hI1 11 0 0 15
  obtain ⟨Y1, hY1⟩ := zx (zu Y 3 0 0 7 ((Y 3 0 0 7 + 1) % 8))
  intro μ9 e9
  replace e9 := e9.trans (zm_wI (ν := ν) hY1 rfl rfl rfl (i3R (i3A (zm_rd (k := 3) rfl rfl rfl) (show (1 : Int32) = i3 1 from rfl)) (show (8 : Int32) = i3 8 from rfl) (by omega) (by omega) (by omega) (by omega)))
  subst e9
  have r7 : qz_im (zm Y1 ν) 3 0 0 7 = i3 ((Y 3 0 0 7 + 1) % 8) := Eq.trans (zm_rd (k := 3) rfl rfl rfl) (congrArg i3 (zu_at hY1))
  refine wz_i0 (i3O (n := 8) r7 (by omega) (by omega) (by omega)) ?_
  have b9 : ((2 + (qz_im (zm Y1 ν) 3 0 0 7).toNatClampNeg : Nat) : Int) = 2 + (Y 3 0 0 7 + 1) % 8 := zn_add (n := 2) (i3I r7 rfl (by omega) (by omega))
  generalize 2 + (qz_im (zm Y1 ν) 3 0 0 7).toNatClampNeg = nb at b9 ⊢
  have I1 : zI none Y1 := zI_u hI1 hY1 (lo := 0) (hi := 7) (by decide) rfl (by omega) ⟨by decide, by decide⟩ (Or.inl (by decide))
  obtain ⟨Y2, hY2, c9, I2, k9, gY2⟩ := sp_cp (ν := ν) I1 0 nb (by omega)
  refine wz_cV_of c9 ?_
  replace hY2 : Y2 = zcp Y1 0 (2 + (Y 3 0 0 7 + 1) % 8) := by rw [hY2, b9]; rfl
  clear c9 k9
  have e8 : Y2 3 0 0 8 = Y 3 0 0 8 := (gY2 3 0 0 8 (by omega)).trans (zu_ne hY1 (by omega))
  obtain ⟨Y3, hY3⟩ := zx (zu Y2 3 0 0 8 (min (Y 3 0 0 8 + 1) 8))
  intro μ9 e9
  replace e9 := e9.trans (zm_wI (ν := ν) hY3 rfl rfl rfl (i3Mn (i3A (Eq.trans (zm_rd (k := 3) rfl rfl rfl) (congrArg i3 e8)) (show (1 : Int32) = i3 1 from rfl)) (show (8 : Int32) = i3 8 from rfl) (by omega) (by omega) (by omega) (by omega)))
  subst e9
  have e15 : Y3 11 0 0 15 = Y 11 0 0 15 := (zu_ne hY3 (by omega)).trans ((gY2 11 0 0 15 (by omega)).trans (zu_ne hY1 (by omega)))
  obtain ⟨Y4, hY4⟩ := zx (zu Y3 11 0 0 15 (w3 (Y 11 0 0 15 + 1)))
  intro μ9 e9
  replace e9 := e9.trans (zm_wI (ν := ν) hY4 rfl rfl rfl (i3W (i3A (Eq.trans (zm_rd (k := 11) rfl rfl rfl) (congrArg i3 e15)) (show (1 : Int32) = i3 1 from rfl))))
  subst e9
  have ed : Y4 = zd2 Y := by
    rw [hY4, hY3, hY2, hY1]
    rfl
  have e6 : Y4 3 0 0 6 = Y 3 0 0 6 := by rw [ed]; exact (zd2_3 hI1).1
  have r6 : qz_im (zm Y4 ν) 3 0 0 6 = i3 (Y 3 0 0 6) := Eq.trans (zm_rd (k := 3) rfl rfl rfl) (congrArg i3 e6)
  refine wz_br (i3L r6 (show (520 : Int32) = i3 520 from rfl) (by omega) (by omega) (by omega) (by omega)) (fun q => ?_) (fun q => ?_)
  · rw [← ed, e6, if_pos q] at hd2
    refine wz_i0 (i3O (n := 520) r6 (by omega) (by omega) (by omega)) ⟨by decide, ?_⟩
    intro μ9 e9
    replace e9 := e9.trans zm_wC
    have b8 := i3I r6 rfl (by omega) (by omega)
    obtain ⟨Y5, hY5⟩ := zx (zrw Y4 (Y4 3 0 0 6) (va_cpy (fun j => i3 (Y4 68 0 0 j)) (fun j => i3 (Y4 61 0 (Y4 3 0 0 6) j)) 0 0 7))
    have e9' : μ9 = zm Y5 ν := by
      rw [e9, hY5, e6]
      have : ((qz_im (zm Y4 ν) 3 0 0 6).toNatClampNeg : Int) = Y 3 0 0 6 := b8
      rw [this]
      congr 1
      congr 1
      show va_cpy (fun j => i3 (Y4 68 0 0 j)) (fun j => i3 (Y4 61 0 ((qz_im (zm Y4 ν) 3 0 0 6).toNatClampNeg : Nat) j)) 0 0 7 = _
      rw [this]
    subst e9'
    clear e9
    have s5 : ∀ k (b i j : Int), k ≠ 61 → Y5 k b i j = Y4 k b i j := fun k b i j hk => by rw [hY5]; exact if_neg (fun q => hk q.1)
    have r65 : qz_im (zm Y5 ν) 3 0 0 6 = i3 (Y 3 0 0 6) := Eq.trans (zm_rd (k := 3) rfl rfl rfl) (congrArg i3 ((s5 3 0 0 6 (by decide)).trans e6))
    refine wz_i0 (i3O (n := 520) r65 (by omega) (by omega) (by omega)) ?_
    obtain ⟨Y6, hY6⟩ := zx (zu Y5 61 0 (Y4 3 0 0 6) 7 (Y4 11 0 0 16))
    intro μ9 e9
    replace e9 := e9.trans (zm_wI (ν := ν) hY6 rfl (i3I r65 e6.symm (by omega) (by omega)) rfl (Eq.trans (zm_rd (k := 11) rfl rfl rfl) (congrArg i3 (s5 11 0 0 16 (by decide)))))
    subst e9
    obtain ⟨Y7, hY7⟩ := zx (zu Y6 11 0 0 16 (Y4 3 0 0 6))
    intro μ9 e9
    replace e9 := e9.trans (zm_wI (ν := ν) hY7 rfl rfl rfl (Eq.trans (zm_rd (k := 3) rfl rfl rfl) (congrArg i3 ((zu_ne hY6 (by omega)).trans (s5 3 0 0 6 (by decide))))))
    subst e9
    obtain ⟨Y8, hY8⟩ := zx (zu Y7 3 0 0 6 (Y4 3 0 0 6 + 1))
    intro μ9 e9
    replace e9 := e9.trans (zm_wI (ν := ν) hY8 rfl rfl rfl (i3A (Eq.trans (zm_rd (k := 3) rfl rfl rfl) (congrArg i3 ((zu_ne hY7 (by omega)).trans ((zu_ne hY6 (by omega)).trans (s5 3 0 0 6 (by decide)))))) (show (1 : Int32) = i3 1 from rfl)))
    subst e9
    have e8' : Y8 = zd3 Y4 := by
      rw [hY8, hY7, hY6, hY5]
      rfl
    rw [e8']
    exact hd2
  · rw [← ed, e6, if_neg q] at hd2
    exact hd2
/-! a method of the face, in any state -/
def zpG (Q : qz_Z → qz_N → Prop) (P : qz_Z × Int × Int) : wz_R := fun μ2 o2 => ∃ ν1, μ2 = zm P.1 ν1 ∧ o2 = zoX P.2.1 P.2.2 ∧ Q P.1 ν1
section ZG
variable {f : qz_Fn} {as : List qz_V} {μ : qz_M} {Z : qz_Z} {ν : qz_N} {Q : qz_Z → qz_N → Prop} {P P0 : qz_Z × Int × Int}
theorem zc_G (hP : P = P0) (h : wz_call f as μ (zpG Q P)) : ∃ (Z1 : qz_Z) (ν1 : qz_N) (v E : Int), (Z1, v, E) = P0 ∧ f as μ = some (zm Z1 ν1, zoX v E) ∧ Q Z1 ν1 := by
  obtain ⟨μ', o, e, ν1, h1, h2, h3⟩ := h
  exact ⟨P.1, ν1, P.2.1, P.2.2, hP, by rw [e, h1, h2], h3⟩
theorem zlG {e : Int} {v : Int32} (hP : zE P (Z, e, 0)) (p : v = i3 e) (h : Q Z ν) : zpG Q P (zm Z ν) (.inl (some (.inl v))) := by cases hP; subst p; exact ⟨ν, rfl, rfl, h⟩
theorem zlGe {E : Nat} (hP : zE P (Z, 0, ((E + 1 : Nat) : Int))) (h : Q Z (nkk ν 1 6)) : zpG Q P (qz_kk (zm Z ν) 1 6) (.inr (E + 1)) := by
  cases hP
  refine ⟨nkk ν 1 6, rfl, ?_, h⟩
  show _ = (if ((E + 1 : Nat) : Int) = 0 then _ else Sum.inr (((E + 1 : Nat) : Int).toNat))
  rw [if_neg (by omega), Int.toNat_natCast]
end ZG
/-- copy() between halls that are told by integers -/
theorem sp_cpe {s : zS} {Z : qz_Z} {ν : qz_N} (hZ : zI s Z) {n0 n1 : Nat} {b0 b1 : Int} (e0 : (n0 : Int) = b0) (e1 : (n1 : Int) = b1) (hb : b0 < b1 ∨ b1 < b0) : ∃ Z1 : qz_Z, Z1 = zcp Z b0 b1 ∧ (qf_111 [.inr (.inr (some (10, n1, 0))), .inr (.inr (some (10, n0, 0)))] (zm Z ν) = some (zm Z1 ν, .inl none) ∧ zI s Z1 ∧ zK [11, 12, 13, 14, 40, 41, 42, 43, 44, 45, 46, 47, 48, 49, 50, 51, 52, 53, 54] Z Z1 ∧ ∀ k b i j, b ≠ b1 → Z1 k b i j = Z k b i j) := by
  subst e0 e1
  exact sp_cp hZ n0 n1 (by omega)
/-- a cell of another row's same column -/
theorem zI_cc {s : zS} {Z Z1 : qz_Z} {k : Nat} {b i j b' i' : Int} (h : zI s Z) (h1 : Z1 = zu Z k b i j (Z k b' i' j)) (hk : k ≠ 200) (hq : k ≠ 1) : zI s Z1 := zI_v h h1 hk (h.1 k b' i' j hk) (h.2.1 k b' i' j) (.inl hq)
theorem zl_sl1 {α β γ : Type} {t : α ⊕ β} {k : α → γ} {g : β → γ} {P : γ} {b : α} (h : zE P (zsum t (fun q => zlet q k) g)) (e : (.inl b : α ⊕ β) = t) : zE P (k b) := by subst e; exact h
theorem zl_sl2 {α α' β γ : Type} {t : (α × α') ⊕ β} {k : α → α' → γ} {g : β → γ} {P : γ} {a : α} {b : α'} (h : zE P (zsum t (fun q => zlet2 q k) g)) (e : (.inl (a, b) : (α × α') ⊕ β) = t) : zE P (k a b) := by subst e; exact h
theorem zl_sl3 {α α' α'' β γ : Type} {t : (α × α' × α'') ⊕ β} {k : α → α' → α'' → γ} {g : β → γ} {P : γ} {a : α} {b : α'} {c : α''} (h : zE P (zsum t (fun q => zlet3 q k) g)) (e : (.inl (a, b, c) : (α × α' × α'') ⊕ β) = t) : zE P (k a b c) := by subst e; exact h
