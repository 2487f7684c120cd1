/-! the face at a new object, 5 (printed by api.py) -/
/- yX12_deliver -/
def zg_335 (a1 : Int) (a2 : Int) (a3 : Int) (a4 : Int) (a5 : Int) : Int × Int := (if a1 < 0 then (0, 1) else (0, 1))
theorem sg_335 {Z : qz_Z} {ν : qz_N} (hZ : zI none Z) (hF : zFm Z) {a1 : Int} (ga1 : -2147483648 ≤ a1 ∧ a1 ≤ 2147483647) {a2 : Int} (ga2 : -2147483648 ≤ a2 ∧ a2 ≤ 2147483647) {a3 : Int} (ga3 : -2147483648 ≤ a3 ∧ a3 ≤ 2147483647) {a4 : Int} (ga4 : -2147483648 ≤ a4 ∧ a4 ≤ 2147483647) {a5 : Int} (ga5 : -2147483648 ≤ a5 ∧ a5 ≤ 2147483647) : ∃ (Z1 : qz_Z) (ν1 : qz_N) (v t : Int), (v, t) = zg_335 a1 a2 a3 a4 a5 ∧ qf_335 [.inr (.inr (some (1, 0, 0))), .inl (i3 a1), .inl (i3 a2), .inl (i3 a3), .inl (i3 a4), .inl (i3 a5)] (zm Z ν) = some (zm Z1 ν1, .inl (some (.inl (i3 v)))) ∧ Z1 1 0 0 2 = t ∧ (fun Z1 ν1 => zI none Z1 ∧ zK [1] Z Z1 ∧ zN ν ν1) Z1 ν1 := by
  obtain ⟨P, hP⟩ := zx (zg_335 a1 a2 a3 a4 a5)
  refine zc_M (Q := fun Z1 ν1 => zI none Z1 ∧ zK [1] Z Z1 ∧ zN ν ν1) hP (fw_335 (i3 a1) (i3 a2) (i3 a3) (i3 a4) (i3 a5) _ _ ?_)
  replace hP : zE P (zg_335 a1 a2 a3 a4 a5) := hP
  unfold zg_335 at hP
  refine wz_br (i3L (rfl : i3 a1 = i3 a1) (show (0 : Int32) = i3 0 from rfl) (by omega) (by omega) (by omega) (by omega)) (fun h1 => ?_) (fun h1 => ?_)
  · replace hP := zE_p hP h1
    obtain ⟨Z2, hZ2⟩ := zx (zu Z 1 0 0 2 1)
    have hZ2I := zI_u hZ hZ2 (lo := -2147483648) (hi := 2147483647) (by decide) rfl (by omega) ⟨by decide, by decide⟩ (Or.inr (by decide))
    have hZ2K : zK [1] Z Z2 := zK_u zK_r hZ2 (by decide)
    intro μ9 e9
    replace e9 := e9.trans (zm_wI (Z := Z) (ν := ν) hZ2 (show ((0 : Nat) : Int) = 0 from rfl) (show ((0 : Nat) : Int) = 0 from rfl) (show ((2 : Nat) : Int) = 2 from rfl) (show (1 : Int32) = i3 1 from rfl))
    subst e9
    exact zlM hP (show (0 : Int32) = i3 0 from rfl) (zu_at hZ2) ⟨hZ2I, hZ2K, zN_r⟩
  · replace hP := zE_n hP h1
    refine wz_i1 (Eq.trans (i3L (i3S (Eq.trans (zm_rd (Z := Z) (ν := ν) (k := 2) (show ((0 : Nat) : Int) = 0 from rfl) (show ((0 : Nat) : Int) = 0 from rfl) (show ((101 : Nat) : Int) = 101 from rfl)) (congrArg i3 ((hF 2 0 101 (by decide)).trans ((show frz 2 0 101 = 0 from by decide))))) (show (1 : Int32) = i3 1 from rfl)) (rfl : i3 a1 = i3 a1) (by omega) (by omega) (by omega) (by omega)) (decide_eq_true (by omega))) ?_
    obtain ⟨Z3, hZ3⟩ := zx (zu Z 1 0 0 2 1)
    have hZ3I := zI_u hZ hZ3 (lo := -2147483648) (hi := 2147483647) (by decide) rfl (by omega) ⟨by decide, by decide⟩ (Or.inr (by decide))
    have hZ3K : zK [1] Z Z3 := zK_u zK_r hZ3 (by decide)
    intro μ9 e9
    replace e9 := e9.trans (zm_wI (Z := Z) (ν := ν) hZ3 (show ((0 : Nat) : Int) = 0 from rfl) (show ((0 : Nat) : Int) = 0 from rfl) (show ((2 : Nat) : Int) = 2 from rfl) (show (1 : Int32) = i3 1 from rfl))
    subst e9
    exact zlM hP (show (0 : Int32) = i3 0 from rfl) (zu_at hZ3) ⟨hZ3I, hZ3K, zN_r⟩

/- yX12_room -/
def zg_495 (a1 : Int) (a2 : Int) (a3 : Int) : Int × Int := (if a1 < 1 then (0, 1) else (if 12 < a1 then (0, 1) else (if a2 < 0 then (0, 1) else (if 9 < a2 then (0, 1) else (if a3 < 0 then (0, 1) else (if 9 < a3 then (0, 1) else (0, 0)))))))
theorem sg_495 {Z : qz_Z} {ν : qz_N} (hZ : zI none Z) (hF : zFm Z) {a1 : Int} (ga1 : -2147483648 ≤ a1 ∧ a1 ≤ 2147483647) {a2 : Int} (ga2 : -2147483648 ≤ a2 ∧ a2 ≤ 2147483647) {a3 : Int} (ga3 : -2147483648 ≤ a3 ∧ a3 ≤ 2147483647) (rrec : ∀ Z, qz_rm (zm Z ν) 1 0 0 36 = some (102, 0, 0)) : ∃ (Z1 : qz_Z) (ν1 : qz_N) (v t : Int), (v, t) = zg_495 a1 a2 a3 ∧ qf_495 [.inr (.inr (some (1, 0, 0))), .inl (i3 a1), .inl (i3 a2), .inl (i3 a3)] (zm Z ν) = some (zm Z1 ν1, .inl (some (.inl (i3 v)))) ∧ Z1 1 0 0 2 = t ∧ (fun Z1 ν1 => zI none Z1 ∧ zK [1, 2, 101, 102] Z Z1 ∧ zN ν ν1) Z1 ν1 := by
  obtain ⟨P, hP⟩ := zx (zg_495 a1 a2 a3)
  refine zc_M (Q := fun Z1 ν1 => zI none Z1 ∧ zK [1, 2, 101, 102] Z Z1 ∧ zN ν ν1) hP (fw_495 (i3 a1) (i3 a2) (i3 a3) _ _ ?_)
  replace hP : zE P (zg_495 a1 a2 a3) := hP
  unfold zg_495 at hP
  refine wz_br (i3L (rfl : i3 a1 = i3 a1) (show (1 : Int32) = i3 1 from rfl) (by omega) (by omega) (by omega) (by omega)) (fun h1 => ?_) (fun h1 => ?_)
  · replace hP := zE_p hP h1
    obtain ⟨Z2, hZ2⟩ := zx (zu Z 1 0 0 2 1)
    have hZ2I := zI_u hZ hZ2 (lo := -2147483648) (hi := 2147483647) (by decide) rfl (by omega) ⟨by decide, by decide⟩ (Or.inr (by decide))
    have hZ2K : zK [1, 2, 101, 102] Z Z2 := zK_u zK_r hZ2 (by decide)
    intro μ9 e9
    replace e9 := e9.trans (zm_wI (Z := Z) (ν := ν) hZ2 (show ((0 : Nat) : Int) = 0 from rfl) (show ((0 : Nat) : Int) = 0 from rfl) (show ((2 : Nat) : Int) = 2 from rfl) (show (1 : Int32) = i3 1 from rfl))
    subst e9
    exact zlM hP (show (0 : Int32) = i3 0 from rfl) (zu_at hZ2) ⟨hZ2I, hZ2K, zN_r⟩
  · replace hP := zE_n hP h1
    refine wz_br (i3L (show (12 : Int32) = i3 12 from rfl) (rfl : i3 a1 = i3 a1) (by omega) (by omega) (by omega) (by omega)) (fun h3 => ?_) (fun h3 => ?_)
    · replace hP := zE_p hP h3
      obtain ⟨Z4, hZ4⟩ := zx (zu Z 1 0 0 2 1)
      have hZ4I := zI_u hZ hZ4 (lo := -2147483648) (hi := 2147483647) (by decide) rfl (by omega) ⟨by decide, by decide⟩ (Or.inr (by decide))
      have hZ4K : zK [1, 2, 101, 102] Z Z4 := zK_u zK_r hZ4 (by decide)
      intro μ9 e9
      replace e9 := e9.trans (zm_wI (Z := Z) (ν := ν) hZ4 (show ((0 : Nat) : Int) = 0 from rfl) (show ((0 : Nat) : Int) = 0 from rfl) (show ((2 : Nat) : Int) = 2 from rfl) (show (1 : Int32) = i3 1 from rfl))
      subst e9
      exact zlM hP (show (0 : Int32) = i3 0 from rfl) (zu_at hZ4) ⟨hZ4I, hZ4K, zN_r⟩
    · replace hP := zE_n hP h3
      refine wz_br (i3L (rfl : i3 a2 = i3 a2) (show (0 : Int32) = i3 0 from rfl) (by omega) (by omega) (by omega) (by omega)) (fun h5 => ?_) (fun h5 => ?_)
      · replace hP := zE_p hP h5
        obtain ⟨Z6, hZ6⟩ := zx (zu Z 1 0 0 2 1)
        have hZ6I := zI_u hZ hZ6 (lo := -2147483648) (hi := 2147483647) (by decide) rfl (by omega) ⟨by decide, by decide⟩ (Or.inr (by decide))
        have hZ6K : zK [1, 2, 101, 102] Z Z6 := zK_u zK_r hZ6 (by decide)
        intro μ9 e9
        replace e9 := e9.trans (zm_wI (Z := Z) (ν := ν) hZ6 (show ((0 : Nat) : Int) = 0 from rfl) (show ((0 : Nat) : Int) = 0 from rfl) (show ((2 : Nat) : Int) = 2 from rfl) (show (1 : Int32) = i3 1 from rfl))
        subst e9
        exact zlM hP (show (0 : Int32) = i3 0 from rfl) (zu_at hZ6) ⟨hZ6I, hZ6K, zN_r⟩
      · replace hP := zE_n hP h5
        refine wz_br (i3L (show (9 : Int32) = i3 9 from rfl) (rfl : i3 a2 = i3 a2) (by omega) (by omega) (by omega) (by omega)) (fun h7 => ?_) (fun h7 => ?_)
        · replace hP := zE_p hP h7
          obtain ⟨Z8, hZ8⟩ := zx (zu Z 1 0 0 2 1)
          have hZ8I := zI_u hZ hZ8 (lo := -2147483648) (hi := 2147483647) (by decide) rfl (by omega) ⟨by decide, by decide⟩ (Or.inr (by decide))
          have hZ8K : zK [1, 2, 101, 102] Z Z8 := zK_u zK_r hZ8 (by decide)
          intro μ9 e9
          replace e9 := e9.trans (zm_wI (Z := Z) (ν := ν) hZ8 (show ((0 : Nat) : Int) = 0 from rfl) (show ((0 : Nat) : Int) = 0 from rfl) (show ((2 : Nat) : Int) = 2 from rfl) (show (1 : Int32) = i3 1 from rfl))
          subst e9
          exact zlM hP (show (0 : Int32) = i3 0 from rfl) (zu_at hZ8) ⟨hZ8I, hZ8K, zN_r⟩
        · replace hP := zE_n hP h7
          refine wz_br (i3L (rfl : i3 a3 = i3 a3) (show (0 : Int32) = i3 0 from rfl) (by omega) (by omega) (by omega) (by omega)) (fun h9 => ?_) (fun h9 => ?_)
          · replace hP := zE_p hP h9
            obtain ⟨Z10, hZ10⟩ := zx (zu Z 1 0 0 2 1)
            have hZ10I := zI_u hZ hZ10 (lo := -2147483648) (hi := 2147483647) (by decide) rfl (by omega) ⟨by decide, by decide⟩ (Or.inr (by decide))
            have hZ10K : zK [1, 2, 101, 102] Z Z10 := zK_u zK_r hZ10 (by decide)
            intro μ9 e9
            replace e9 := e9.trans (zm_wI (Z := Z) (ν := ν) hZ10 (show ((0 : Nat) : Int) = 0 from rfl) (show ((0 : Nat) : Int) = 0 from rfl) (show ((2 : Nat) : Int) = 2 from rfl) (show (1 : Int32) = i3 1 from rfl))
            subst e9
            exact zlM hP (show (0 : Int32) = i3 0 from rfl) (zu_at hZ10) ⟨hZ10I, hZ10K, zN_r⟩
          · replace hP := zE_n hP h9
            refine wz_br (i3L (show (9 : Int32) = i3 9 from rfl) (rfl : i3 a3 = i3 a3) (by omega) (by omega) (by omega) (by omega)) (fun h11 => ?_) (fun h11 => ?_)
            · replace hP := zE_p hP h11
              obtain ⟨Z12, hZ12⟩ := zx (zu Z 1 0 0 2 1)
              have hZ12I := zI_u hZ hZ12 (lo := -2147483648) (hi := 2147483647) (by decide) rfl (by omega) ⟨by decide, by decide⟩ (Or.inr (by decide))
              have hZ12K : zK [1, 2, 101, 102] Z Z12 := zK_u zK_r hZ12 (by decide)
              intro μ9 e9
              replace e9 := e9.trans (zm_wI (Z := Z) (ν := ν) hZ12 (show ((0 : Nat) : Int) = 0 from rfl) (show ((0 : Nat) : Int) = 0 from rfl) (show ((2 : Nat) : Int) = 2 from rfl) (show (1 : Int32) = i3 1 from rfl))
              subst e9
              exact zlM hP (show (0 : Int32) = i3 0 from rfl) (zu_at hZ12) ⟨hZ12I, hZ12K, zN_r⟩
            · replace hP := zE_n hP h11
              obtain ⟨Z13, hZ13⟩ := zx (zu Z 1 0 0 2 0)
              have hZ13I := zI_0 hZ hZ13 (by decide) (Or.inr (by decide))
              have hZ13K : zK [1, 2, 101, 102] Z Z13 := zK_u zK_r hZ13 (by decide)
              intro μ9 e9
              replace e9 := e9.trans (zm_wI (Z := Z) (ν := ν) hZ13 (show ((0 : Nat) : Int) = 0 from rfl) (show ((0 : Nat) : Int) = 0 from rfl) (show ((2 : Nat) : Int) = 2 from rfl) (show (0 : Int32) = i3 0 from rfl))
              subst e9
              refine wz_i0 (Eq.trans (i3Le (show (6 : Int32) = i3 6 from rfl) (Eq.trans (zm_rd (Z := Z13) (ν := ν) (k := 2) (show ((0 : Nat) : Int) = 0 from rfl) (show ((0 : Nat) : Int) = 0 from rfl) (show ((1200 : Nat) : Int) = 1200 from rfl)) (congrArg i3 ((zu_ne (k' := 2) (b' := 0) (i' := 0) (j' := 1200) hZ13 (fun q => absurd q.1 (by decide))).trans ((hF 2 0 1200 (by decide)).trans ((show frz 2 0 1200 = 0 from by decide)))))) (by omega) (by omega) (by omega) (by omega)) (decide_eq_false (by omega))) ?_
              obtain ⟨Z14, hZ14⟩ := zx (zu Z13 1 0 0 2 0)
              have hZ14I := zI_0 hZ13I hZ14 (by decide) (Or.inr (by decide))
              have hZ14K := zK_u hZ13K hZ14 (by decide)
              intro μ9 e9
              replace e9 := e9.trans (zm_wI (Z := Z13) (ν := ν) hZ14 (show ((0 : Nat) : Int) = 0 from rfl) (show ((0 : Nat) : Int) = 0 from rfl) (show ((2 : Nat) : Int) = 2 from rfl) (show (0 : Int32) = i3 0 from rfl))
              subst e9
              refine wz_i0 (Eq.trans (i3NE (Eq.trans (zm_rd (Z := Z14) (ν := ν) (k := 1) (show ((0 : Nat) : Int) = 0 from rfl) (show ((0 : Nat) : Int) = 0 from rfl) (show ((35 : Nat) : Int) = 35 from rfl)) (congrArg i3 ((zu_ne (k' := 1) (b' := 0) (i' := 0) (j' := 35) hZ14 (fun q => absurd q.2.2.2 (by decide))).trans ((zu_ne (k' := 1) (b' := 0) (i' := 0) (j' := 35) hZ13 (fun q => absurd q.2.2.2 (by decide))).trans ((hF 1 0 35 (by decide)).trans ((show frz 1 0 35 = 0 from by decide))))))) (show (0 : Int32) = i3 0 from rfl) (by omega) (by omega) (by omega) (by omega)) (decide_eq_false (by omega))) ?_
              have e15 : Z14 1 0 0 34 = 0 := (zu_ne (k' := 1) (b' := 0) (i' := 0) (j' := 34) hZ14 (fun q => absurd q.2.2.2 (by decide))).trans ((zu_ne (k' := 1) (b' := 0) (i' := 0) (j' := 34) hZ13 (fun q => absurd q.2.2.2 (by decide))).trans ((hF 1 0 34 (by decide)).trans ((show frz 1 0 34 = 0 from by decide))))
              obtain ⟨Z16, hZ16, c9, hZ16I, kZ16, wZ160, wZ161, wZ162⟩ := sp_557 (ν := ν) hZ14I (a1 := (-1)) (by omega) (by omega)
              have hZ16K : zK [1, 2, 101, 102] Z Z16 := zK_t hZ14K kZ16 (by decide)
              refine wz_cV_of (zas (zcons rfl (zcons (zvi (show (-1 : Int32) = i3 (-1) from rfl)) rfl)) c9) ?_
              clear c9
              have e17 : Z16 1 0 0 37 = 0 := (wZ162).trans ((zu_ne (k' := 1) (b' := 0) (i' := 0) (j' := 37) hZ14 (fun q => absurd q.2.2.2 (by decide))).trans ((zu_ne (k' := 1) (b' := 0) (i' := 0) (j' := 37) hZ13 (fun q => absurd q.2.2.2 (by decide))).trans ((hF 1 0 37 (by decide)).trans ((show frz 1 0 37 = 0 from by decide)))))
              obtain ⟨Z18, hZ18, c9, hZ18I, kZ18, wZ180, wZ181⟩ := sp_563 (ν := ν) hZ16I (a1 := 5) (by omega) (a2 := a1) (by omega) (a3 := a2) (by omega) (a4 := a3) (by omega) (a5 := 0) (by omega) (a6 := 0) (by omega) (a7 := 0) (by omega) (by omega) rrec
              have hZ18K : zK [1, 2, 101, 102] Z Z18 := zK_t hZ16K kZ18 (by decide)
              refine wz_cV_of (zas (zcons rfl (zcons (zvi (show (5 : Int32) = i3 5 from rfl)) (zcons (zvi (rfl : i3 a1 = i3 a1)) (zcons (zvi (rfl : i3 a2 = i3 a2)) (zcons (zvi (rfl : i3 a3 = i3 a3)) (zcons (zvi (show (0 : Int32) = i3 0 from rfl)) (zcons (zvi (show (0 : Int32) = i3 0 from rfl)) (zcons (zvi (show (0 : Int32) = i3 0 from rfl)) rfl)))))))) c9) ?_
              clear c9
              refine wz_i0 (i3O (n := 4400) (i3A (show (1300 : Int32) = i3 1300 from rfl) (i3C (i3D (Eq.trans (zm_rd (Z := Z18) (ν := ν) (k := 2) (show ((0 : Nat) : Int) = 0 from rfl) (show ((0 : Nat) : Int) = 0 from rfl) (show ((0 : Nat) : Int) = 0 from rfl)) (congrArg i3 ((kZ18 2 (by decide) 0 0 0).trans ((kZ16 2 (by decide) 0 0 0).trans ((zu_ne (k' := 2) (b' := 0) (i' := 0) (j' := 0) hZ14 (fun q => absurd q.1 (by decide))).trans ((zu_ne (k' := 2) (b' := 0) (i' := 0) (j' := 0) hZ13 (fun q => absurd q.1 (by decide))).trans ((hF 2 0 0 (by decide)).trans ((show frz 2 0 0 = 0 from by decide))))))))) (show (24 : Int32) = i3 24 from rfl) (by omega) (by omega) (by omega) (by omega)) (show (0 / 24 : Int) = 0 from by decide))) (by omega) (by omega) (by omega)) ?_
              refine fw_485 _ _ _ _ _ _ ?_
              refine sl_485_1 (ν := ν) hZ18I zK_r (x1 := a1) (by omega) (x2 := a2) (by omega) (x3 := a3) (by omega) (x4 := 18) (by omega) (x5 := 0) (by omega) (x6 := 0) (by omega) (kc0 := Z18 2 0 0 1200) (by omega) (zconso rfl (zconso (zvo (rfl : i3 a1 = i3 a1)) (zconso (zvo (rfl : i3 a2 = i3 a2)) (zconso (zvo (rfl : i3 a3 = i3 a3)) (zconso (zvo (Eq.trans (zm_rd (Z := Z18) (ν := ν) (k := 2) (show ((0 : Nat) : Int) = 0 from rfl) (show ((0 : Nat) : Int) = 0 from rfl) (i3I (y := 1300) (i3A (show (1300 : Int32) = i3 1300 from rfl) (i3C (i3D (Eq.trans (zm_rd (Z := Z18) (ν := ν) (k := 2) (show ((0 : Nat) : Int) = 0 from rfl) (show ((0 : Nat) : Int) = 0 from rfl) (show ((0 : Nat) : Int) = 0 from rfl)) (congrArg i3 ((kZ18 2 (by decide) 0 0 0).trans ((kZ16 2 (by decide) 0 0 0).trans ((zu_ne (k' := 2) (b' := 0) (i' := 0) (j' := 0) hZ14 (fun q => absurd q.1 (by decide))).trans ((zu_ne (k' := 2) (b' := 0) (i' := 0) (j' := 0) hZ13 (fun q => absurd q.1 (by decide))).trans ((hF 2 0 0 (by decide)).trans ((show frz 2 0 0 = 0 from by decide))))))))) (show (24 : Int32) = i3 24 from rfl) (by omega) (by omega) (by omega) (by omega)) (show (0 / 24 : Int) = 0 from by decide))) (by omega) (by omega) (by omega))) (congrArg i3 ((kZ18 2 (by decide) 0 0 1300).trans ((kZ16 2 (by decide) 0 0 1300).trans ((zu_ne (k' := 2) (b' := 0) (i' := 0) (j' := 1300) hZ14 (fun q => absurd q.1 (by decide))).trans ((zu_ne (k' := 2) (b' := 0) (i' := 0) (j' := 1300) hZ13 (fun q => absurd q.1 (by decide))).trans ((hF 2 0 1300 (by decide)).trans ((show frz 2 0 1300 = 18 from by decide)))))))))) (zconso (zvo (Eq.trans (zm_rd (Z := Z18) (ν := ν) (k := 2) (show ((0 : Nat) : Int) = 0 from rfl) (show ((0 : Nat) : Int) = 0 from rfl) (show ((1200 : Nat) : Int) = 1200 from rfl)) (congrArg i3 ((kZ18 2 (by decide) 0 0 1200).trans ((kZ16 2 (by decide) 0 0 1200).trans ((zu_ne (k' := 2) (b' := 0) (i' := 0) (j' := 1200) hZ14 (fun q => absurd q.1 (by decide))).trans ((zu_ne (k' := 2) (b' := 0) (i' := 0) (j' := 1200) hZ13 (fun q => absurd q.1 (by decide))).trans ((hF 2 0 1200 (by decide)).trans ((show frz 2 0 1200 = 0 from by decide)))))))))) (zconso (zvo (show (0 : Int32) = i3 0 from rfl)) rfl))))))) rfl ?_
              intro L21 Z20 y19 hL21 hZ20I kZ20 gy19 gL21_0 q9
              clear q9
              have hZ20K : zK [1, 2, 101, 102] Z Z20 := zK_t hZ18K kZ20 (by decide)
              refine fc_485_2 (i3 a1) (i3 a2) (i3 a3) (i3 18) (i3 0) _ _ _ _ hL21 ?_
              refine wz_i0 (i3O (n := 4400) (i3A (i3A (show (1210 : Int32) = i3 1210 from rfl) (i3M (show (12 : Int32) = i3 12 from rfl) (rfl : i3 0 = i3 0))) (show (0 : Int32) = i3 0 from rfl)) (by omega) (by omega) (by omega)) ?_
              obtain ⟨Z22, hZ22⟩ := zx (zu Z20 2 0 0 1210 a1)
              have hZ22I := zI_u hZ20I hZ22 (lo := 0) (hi := 12) (by decide) rfl (by omega) ⟨by decide, by decide⟩ (Or.inl (by decide))
              have hZ22K := zK_u hZ20K hZ22 (by decide)
              intro μ9 e9
              replace e9 := e9.trans (zm_wI (Z := Z20) (ν := ν) hZ22 (show ((0 : Nat) : Int) = 0 from rfl) (show ((0 : Nat) : Int) = 0 from rfl) (i3I (y := 1210) (i3A (i3A (show (1210 : Int32) = i3 1210 from rfl) (i3M (show (12 : Int32) = i3 12 from rfl) (rfl : i3 0 = i3 0))) (show (0 : Int32) = i3 0 from rfl)) (by omega) (by omega) (by omega)) (rfl : i3 a1 = i3 a1))
              subst e9
              refine wz_i0 (i3O (n := 4400) (i3A (i3A (show (1210 : Int32) = i3 1210 from rfl) (i3M (show (12 : Int32) = i3 12 from rfl) (rfl : i3 0 = i3 0))) (show (1 : Int32) = i3 1 from rfl)) (by omega) (by omega) (by omega)) ?_
              obtain ⟨Z23, hZ23⟩ := zx (zu Z22 2 0 0 1211 a2)
              have hZ23I := zI_u hZ22I hZ23 (lo := 0) (hi := 9) (by decide) rfl (by omega) ⟨by decide, by decide⟩ (Or.inl (by decide))
              have hZ23K := zK_u hZ22K hZ23 (by decide)
              intro μ9 e9
              replace e9 := e9.trans (zm_wI (Z := Z22) (ν := ν) hZ23 (show ((0 : Nat) : Int) = 0 from rfl) (show ((0 : Nat) : Int) = 0 from rfl) (i3I (y := 1211) (i3A (i3A (show (1210 : Int32) = i3 1210 from rfl) (i3M (show (12 : Int32) = i3 12 from rfl) (rfl : i3 0 = i3 0))) (show (1 : Int32) = i3 1 from rfl)) (by omega) (by omega) (by omega)) (rfl : i3 a2 = i3 a2))
              subst e9
              refine wz_i0 (i3O (n := 4400) (i3A (i3A (show (1210 : Int32) = i3 1210 from rfl) (i3M (show (12 : Int32) = i3 12 from rfl) (rfl : i3 0 = i3 0))) (show (2 : Int32) = i3 2 from rfl)) (by omega) (by omega) (by omega)) ?_
              obtain ⟨Z24, hZ24⟩ := zx (zu Z23 2 0 0 1212 a3)
              have hZ24I := zI_u hZ23I hZ24 (lo := 0) (hi := 9) (by decide) rfl (by omega) ⟨by decide, by decide⟩ (Or.inl (by decide))
              have hZ24K := zK_u hZ23K hZ24 (by decide)
              intro μ9 e9
              replace e9 := e9.trans (zm_wI (Z := Z23) (ν := ν) hZ24 (show ((0 : Nat) : Int) = 0 from rfl) (show ((0 : Nat) : Int) = 0 from rfl) (i3I (y := 1212) (i3A (i3A (show (1210 : Int32) = i3 1210 from rfl) (i3M (show (12 : Int32) = i3 12 from rfl) (rfl : i3 0 = i3 0))) (show (2 : Int32) = i3 2 from rfl)) (by omega) (by omega) (by omega)) (rfl : i3 a3 = i3 a3))
              subst e9
              refine wz_i0 (i3O (n := 4400) (i3A (i3A (show (1210 : Int32) = i3 1210 from rfl) (i3M (show (12 : Int32) = i3 12 from rfl) (rfl : i3 0 = i3 0))) (show (3 : Int32) = i3 3 from rfl)) (by omega) (by omega) (by omega)) ?_
              obtain ⟨Z25, hZ25⟩ := zx (zu Z24 2 0 0 1213 18)
              have hZ25I := zI_u hZ24I hZ25 (lo := 0) (hi := 40) (by decide) rfl (by omega) ⟨by decide, by decide⟩ (Or.inl (by decide))
              have hZ25K := zK_u hZ24K hZ25 (by decide)
              intro μ9 e9
              replace e9 := e9.trans (zm_wI (Z := Z24) (ν := ν) hZ25 (show ((0 : Nat) : Int) = 0 from rfl) (show ((0 : Nat) : Int) = 0 from rfl) (i3I (y := 1213) (i3A (i3A (show (1210 : Int32) = i3 1210 from rfl) (i3M (show (12 : Int32) = i3 12 from rfl) (rfl : i3 0 = i3 0))) (show (3 : Int32) = i3 3 from rfl)) (by omega) (by omega) (by omega)) (show (18 : Int32) = i3 18 from rfl))
              subst e9
              refine wz_i0 (i3O (n := 4400) (i3A (i3A (show (1210 : Int32) = i3 1210 from rfl) (i3M (show (12 : Int32) = i3 12 from rfl) (rfl : i3 0 = i3 0))) (show (5 : Int32) = i3 5 from rfl)) (by omega) (by omega) (by omega)) ?_
              obtain ⟨Z26, hZ26⟩ := zx (zu Z25 2 0 0 1215 18)
              have hZ26I := zI_u hZ25I hZ26 (lo := 0) (hi := 40) (by decide) rfl (by omega) ⟨by decide, by decide⟩ (Or.inl (by decide))
              have hZ26K := zK_u hZ25K hZ26 (by decide)
              intro μ9 e9
              replace e9 := e9.trans (zm_wI (Z := Z25) (ν := ν) hZ26 (show ((0 : Nat) : Int) = 0 from rfl) (show ((0 : Nat) : Int) = 0 from rfl) (i3I (y := 1215) (i3A (i3A (show (1210 : Int32) = i3 1210 from rfl) (i3M (show (12 : Int32) = i3 12 from rfl) (rfl : i3 0 = i3 0))) (show (5 : Int32) = i3 5 from rfl)) (by omega) (by omega) (by omega)) (rfl : i3 18 = i3 18))
              subst e9
              obtain ⟨Z27, hZ27⟩ := zx (zu Z26 2 0 0 1200 (0 + 1))
              have hZ27I := zI_u hZ26I hZ27 (lo := 0) (hi := 6) (by decide) rfl (by omega) ⟨by decide, by decide⟩ (Or.inl (by decide))
              have hZ27K := zK_u hZ26K hZ27 (by decide)
              intro μ9 e9
              replace e9 := e9.trans (zm_wI (Z := Z26) (ν := ν) hZ27 (show ((0 : Nat) : Int) = 0 from rfl) (show ((0 : Nat) : Int) = 0 from rfl) (show ((1200 : Nat) : Int) = 1200 from rfl) (i3A (Eq.trans (zm_rd (Z := Z26) (ν := ν) (k := 2) (show ((0 : Nat) : Int) = 0 from rfl) (show ((0 : Nat) : Int) = 0 from rfl) (show ((1200 : Nat) : Int) = 1200 from rfl)) (congrArg i3 ((zu_ne (k' := 2) (b' := 0) (i' := 0) (j' := 1200) hZ26 (fun q => absurd q.2.2.2 (by decide))).trans ((zu_ne (k' := 2) (b' := 0) (i' := 0) (j' := 1200) hZ25 (fun q => absurd q.2.2.2 (by decide))).trans ((zu_ne (k' := 2) (b' := 0) (i' := 0) (j' := 1200) hZ24 (fun q => absurd q.2.2.2 (by decide))).trans ((zu_ne (k' := 2) (b' := 0) (i' := 0) (j' := 1200) hZ23 (fun q => absurd q.2.2.2 (by decide))).trans ((zu_ne (k' := 2) (b' := 0) (i' := 0) (j' := 1200) hZ22 (fun q => absurd q.2.2.2 (by decide))).trans ((gL21_0).trans ((kZ18 2 (by decide) 0 0 1200).trans ((kZ16 2 (by decide) 0 0 1200).trans ((zu_ne (k' := 2) (b' := 0) (i' := 0) (j' := 1200) hZ14 (fun q => absurd q.1 (by decide))).trans ((zu_ne (k' := 2) (b' := 0) (i' := 0) (j' := 1200) hZ13 (fun q => absurd q.1 (by decide))).trans ((hF 2 0 1200 (by decide)).trans ((show frz 2 0 1200 = 0 from by decide))))))))))))))) (show (1 : Int32) = i3 1 from rfl)))
              subst e9
              exact zlM hP (rfl : i3 0 = i3 0) ((zu_ne (k' := 1) (b' := 0) (i' := 0) (j' := 2) hZ27 (fun q => absurd q.1 (by decide))).trans ((zu_ne (k' := 1) (b' := 0) (i' := 0) (j' := 2) hZ26 (fun q => absurd q.1 (by decide))).trans ((zu_ne (k' := 1) (b' := 0) (i' := 0) (j' := 2) hZ25 (fun q => absurd q.1 (by decide))).trans ((zu_ne (k' := 1) (b' := 0) (i' := 0) (j' := 2) hZ24 (fun q => absurd q.1 (by decide))).trans ((zu_ne (k' := 1) (b' := 0) (i' := 0) (j' := 2) hZ23 (fun q => absurd q.1 (by decide))).trans ((zu_ne (k' := 1) (b' := 0) (i' := 0) (j' := 2) hZ22 (fun q => absurd q.1 (by decide))).trans ((kZ20 1 (by decide) 0 0 2).trans ((wZ180).trans ((wZ160).trans (zu_at hZ14)))))))))) ⟨hZ27I, hZ27K, zN_r⟩

/- yX12_outside -/
def zg_443 (a1 : Int) (a2 : Int) : Int × Int := (if a1 < 0 then (0, 1) else (if 27 < a1 then (0, 1) else (if a2 < 0 then (0, 1) else (if 40 < a2 then (0, 1) else ((frz 2 0 (1300 + a1)), 0)))))
theorem sg_443 {Z : qz_Z} {ν : qz_N} (hZ : zI none Z) (hF : zFm Z) {a1 : Int} (ga1 : -2147483648 ≤ a1 ∧ a1 ≤ 2147483647) {a2 : Int} (ga2 : -2147483648 ≤ a2 ∧ a2 ≤ 2147483647) (rrec : ∀ Z, qz_rm (zm Z ν) 1 0 0 36 = some (102, 0, 0)) : ∃ (Z1 : qz_Z) (ν1 : qz_N) (v t : Int), (v, t) = zg_443 a1 a2 ∧ qf_443 [.inr (.inr (some (1, 0, 0))), .inl (i3 a1), .inl (i3 a2)] (zm Z ν) = some (zm Z1 ν1, .inl (some (.inl (i3 v)))) ∧ Z1 1 0 0 2 = t ∧ (fun Z1 ν1 => zI none Z1 ∧ zK [1, 2, 101, 102] Z Z1 ∧ zN ν ν1) Z1 ν1 := by
  obtain ⟨P, hP⟩ := zx (zg_443 a1 a2)
  refine zc_M (Q := fun Z1 ν1 => zI none Z1 ∧ zK [1, 2, 101, 102] Z Z1 ∧ zN ν ν1) hP (fw_443 (i3 a1) (i3 a2) _ _ ?_)
  replace hP : zE P (zg_443 a1 a2) := hP
  unfold zg_443 at hP
  refine wz_br (i3L (rfl : i3 a1 = i3 a1) (show (0 : Int32) = i3 0 from rfl) (by omega) (by omega) (by omega) (by omega)) (fun h1 => ?_) (fun h1 => ?_)
  · replace hP := zE_p hP h1
    obtain ⟨Z2, hZ2⟩ := zx (zu Z 1 0 0 2 1)
    have hZ2I := zI_u hZ hZ2 (lo := -2147483648) (hi := 2147483647) (by decide) rfl (by omega) ⟨by decide, by decide⟩ (Or.inr (by decide))
    have hZ2K : zK [1, 2, 101, 102] Z Z2 := zK_u zK_r hZ2 (by decide)
    intro μ9 e9
    replace e9 := e9.trans (zm_wI (Z := Z) (ν := ν) hZ2 (show ((0 : Nat) : Int) = 0 from rfl) (show ((0 : Nat) : Int) = 0 from rfl) (show ((2 : Nat) : Int) = 2 from rfl) (show (1 : Int32) = i3 1 from rfl))
    subst e9
    exact zlM hP (show (0 : Int32) = i3 0 from rfl) (zu_at hZ2) ⟨hZ2I, hZ2K, zN_r⟩
  · replace hP := zE_n hP h1
    refine wz_br (i3L (show (27 : Int32) = i3 27 from rfl) (rfl : i3 a1 = i3 a1) (by omega) (by omega) (by omega) (by omega)) (fun h3 => ?_) (fun h3 => ?_)
    · replace hP := zE_p hP h3
      obtain ⟨Z4, hZ4⟩ := zx (zu Z 1 0 0 2 1)
      have hZ4I := zI_u hZ hZ4 (lo := -2147483648) (hi := 2147483647) (by decide) rfl (by omega) ⟨by decide, by decide⟩ (Or.inr (by decide))
      have hZ4K : zK [1, 2, 101, 102] Z Z4 := zK_u zK_r hZ4 (by decide)
      intro μ9 e9
      replace e9 := e9.trans (zm_wI (Z := Z) (ν := ν) hZ4 (show ((0 : Nat) : Int) = 0 from rfl) (show ((0 : Nat) : Int) = 0 from rfl) (show ((2 : Nat) : Int) = 2 from rfl) (show (1 : Int32) = i3 1 from rfl))
      subst e9
      exact zlM hP (show (0 : Int32) = i3 0 from rfl) (zu_at hZ4) ⟨hZ4I, hZ4K, zN_r⟩
    · replace hP := zE_n hP h3
      refine wz_br (i3L (rfl : i3 a2 = i3 a2) (show (0 : Int32) = i3 0 from rfl) (by omega) (by omega) (by omega) (by omega)) (fun h5 => ?_) (fun h5 => ?_)
      · replace hP := zE_p hP h5
        obtain ⟨Z6, hZ6⟩ := zx (zu Z 1 0 0 2 1)
        have hZ6I := zI_u hZ hZ6 (lo := -2147483648) (hi := 2147483647) (by decide) rfl (by omega) ⟨by decide, by decide⟩ (Or.inr (by decide))
        have hZ6K : zK [1, 2, 101, 102] Z Z6 := zK_u zK_r hZ6 (by decide)
        intro μ9 e9
        replace e9 := e9.trans (zm_wI (Z := Z) (ν := ν) hZ6 (show ((0 : Nat) : Int) = 0 from rfl) (show ((0 : Nat) : Int) = 0 from rfl) (show ((2 : Nat) : Int) = 2 from rfl) (show (1 : Int32) = i3 1 from rfl))
        subst e9
        exact zlM hP (show (0 : Int32) = i3 0 from rfl) (zu_at hZ6) ⟨hZ6I, hZ6K, zN_r⟩
      · replace hP := zE_n hP h5
        refine wz_br (i3L (show (40 : Int32) = i3 40 from rfl) (rfl : i3 a2 = i3 a2) (by omega) (by omega) (by omega) (by omega)) (fun h7 => ?_) (fun h7 => ?_)
        · replace hP := zE_p hP h7
          obtain ⟨Z8, hZ8⟩ := zx (zu Z 1 0 0 2 1)
          have hZ8I := zI_u hZ hZ8 (lo := -2147483648) (hi := 2147483647) (by decide) rfl (by omega) ⟨by decide, by decide⟩ (Or.inr (by decide))
          have hZ8K : zK [1, 2, 101, 102] Z Z8 := zK_u zK_r hZ8 (by decide)
          intro μ9 e9
          replace e9 := e9.trans (zm_wI (Z := Z) (ν := ν) hZ8 (show ((0 : Nat) : Int) = 0 from rfl) (show ((0 : Nat) : Int) = 0 from rfl) (show ((2 : Nat) : Int) = 2 from rfl) (show (1 : Int32) = i3 1 from rfl))
          subst e9
          exact zlM hP (show (0 : Int32) = i3 0 from rfl) (zu_at hZ8) ⟨hZ8I, hZ8K, zN_r⟩
        · replace hP := zE_n hP h7
          obtain ⟨Z9, hZ9⟩ := zx (zu Z 1 0 0 2 0)
          have hZ9I := zI_0 hZ hZ9 (by decide) (Or.inr (by decide))
          have hZ9K : zK [1, 2, 101, 102] Z Z9 := zK_u zK_r hZ9 (by decide)
          intro μ9 e9
          replace e9 := e9.trans (zm_wI (Z := Z) (ν := ν) hZ9 (show ((0 : Nat) : Int) = 0 from rfl) (show ((0 : Nat) : Int) = 0 from rfl) (show ((2 : Nat) : Int) = 2 from rfl) (show (0 : Int32) = i3 0 from rfl))
          subst e9
          refine wz_i0 (Eq.trans (i3L (rfl : i3 a1 = i3 a1) (i3C (i3D (Eq.trans (zm_rd (Z := Z9) (ν := ν) (k := 2) (show ((0 : Nat) : Int) = 0 from rfl) (show ((0 : Nat) : Int) = 0 from rfl) (show ((0 : Nat) : Int) = 0 from rfl)) (congrArg i3 ((zu_ne (k' := 2) (b' := 0) (i' := 0) (j' := 0) hZ9 (fun q => absurd q.1 (by decide))).trans ((hF 2 0 0 (by decide)).trans ((show frz 2 0 0 = 0 from by decide)))))) (show (24 : Int32) = i3 24 from rfl) (by omega) (by omega) (by omega) (by omega)) (show (0 / 24 : Int) = 0 from by decide)) (by omega) (by omega) (by omega) (by omega)) (decide_eq_false (by omega))) ?_
          obtain ⟨Z10, hZ10⟩ := zx (zu Z9 1 0 0 2 0)
          have hZ10I := zI_0 hZ9I hZ10 (by decide) (Or.inr (by decide))
          have hZ10K := zK_u hZ9K hZ10 (by decide)
          intro μ9 e9
          replace e9 := e9.trans (zm_wI (Z := Z9) (ν := ν) hZ10 (show ((0 : Nat) : Int) = 0 from rfl) (show ((0 : Nat) : Int) = 0 from rfl) (show ((2 : Nat) : Int) = 2 from rfl) (show (0 : Int32) = i3 0 from rfl))
          subst e9
          refine wz_i0 (Eq.trans (i3NE (Eq.trans (zm_rd (Z := Z10) (ν := ν) (k := 1) (show ((0 : Nat) : Int) = 0 from rfl) (show ((0 : Nat) : Int) = 0 from rfl) (show ((35 : Nat) : Int) = 35 from rfl)) (congrArg i3 ((zu_ne (k' := 1) (b' := 0) (i' := 0) (j' := 35) hZ10 (fun q => absurd q.2.2.2 (by decide))).trans ((zu_ne (k' := 1) (b' := 0) (i' := 0) (j' := 35) hZ9 (fun q => absurd q.2.2.2 (by decide))).trans ((hF 1 0 35 (by decide)).trans ((show frz 1 0 35 = 0 from by decide))))))) (show (0 : Int32) = i3 0 from rfl) (by omega) (by omega) (by omega) (by omega)) (decide_eq_false (by omega))) ?_
          have e11 : Z10 1 0 0 34 = 0 := (zu_ne (k' := 1) (b' := 0) (i' := 0) (j' := 34) hZ10 (fun q => absurd q.2.2.2 (by decide))).trans ((zu_ne (k' := 1) (b' := 0) (i' := 0) (j' := 34) hZ9 (fun q => absurd q.2.2.2 (by decide))).trans ((hF 1 0 34 (by decide)).trans ((show frz 1 0 34 = 0 from by decide))))
          obtain ⟨Z12, hZ12, c9, hZ12I, kZ12, wZ120, wZ121, wZ122⟩ := sp_557 (ν := ν) hZ10I (a1 := (-1)) (by omega) (by omega)
          have hZ12K : zK [1, 2, 101, 102] Z Z12 := zK_t hZ10K kZ12 (by decide)
          refine wz_cV_of (zas (zcons rfl (zcons (zvi (show (-1 : Int32) = i3 (-1) from rfl)) rfl)) c9) ?_
          clear c9
          have e13 : Z12 1 0 0 37 = 0 := (wZ122).trans ((zu_ne (k' := 1) (b' := 0) (i' := 0) (j' := 37) hZ10 (fun q => absurd q.2.2.2 (by decide))).trans ((zu_ne (k' := 1) (b' := 0) (i' := 0) (j' := 37) hZ9 (fun q => absurd q.2.2.2 (by decide))).trans ((hF 1 0 37 (by decide)).trans ((show frz 1 0 37 = 0 from by decide)))))
          obtain ⟨Z14, hZ14, c9, hZ14I, kZ14, wZ140, wZ141⟩ := sp_563 (ν := ν) hZ12I (a1 := 8) (by omega) (a2 := a1) (by omega) (a3 := a2) (by omega) (a4 := 0) (by omega) (a5 := 0) (by omega) (a6 := 0) (by omega) (a7 := 0) (by omega) (by omega) rrec
          have hZ14K : zK [1, 2, 101, 102] Z Z14 := zK_t hZ12K kZ14 (by decide)
          refine wz_cV_of (zas (zcons rfl (zcons (zvi (show (8 : Int32) = i3 8 from rfl)) (zcons (zvi (rfl : i3 a1 = i3 a1)) (zcons (zvi (rfl : i3 a2 = i3 a2)) (zcons (zvi (show (0 : Int32) = i3 0 from rfl)) (zcons (zvi (show (0 : Int32) = i3 0 from rfl)) (zcons (zvi (show (0 : Int32) = i3 0 from rfl)) (zcons (zvi (show (0 : Int32) = i3 0 from rfl)) rfl)))))))) c9) ?_
          clear c9
          refine wz_i0 (i3O (n := 4400) (i3A (show (1300 : Int32) = i3 1300 from rfl) (rfl : i3 a1 = i3 a1)) (by omega) (by omega) (by omega)) ?_
          refine wz_i0 (i3O (n := 4400) (i3A (show (1300 : Int32) = i3 1300 from rfl) (rfl : i3 a1 = i3 a1)) (by omega) (by omega) (by omega)) ?_
          obtain ⟨Z15, hZ15⟩ := zx (zu Z14 2 0 0 (1300 + a1) a2)
          have hZ15I := zI_u hZ14I hZ15 (lo := 0) (hi := 40) (by decide) (zs_1300 (by omega) (by omega)) (by omega) ⟨by decide, by decide⟩ (Or.inl (by decide))
          have hZ15K := zK_u hZ14K hZ15 (by decide)
          intro μ9 e9
          replace e9 := e9.trans (zm_wI (Z := Z14) (ν := ν) hZ15 (show ((0 : Nat) : Int) = 0 from rfl) (show ((0 : Nat) : Int) = 0 from rfl) (i3I (y := (1300 + a1)) (i3A (show (1300 : Int32) = i3 1300 from rfl) (rfl : i3 a1 = i3 a1)) (by omega) (by omega) (by omega)) (rfl : i3 a2 = i3 a2))
          subst e9
          have r16 := frz_r 2 0 (1300 + a1)
          exact zlM hP (Eq.trans (zm_rd (Z := Z14) (ν := ν) (k := 2) (show ((0 : Nat) : Int) = 0 from rfl) (show ((0 : Nat) : Int) = 0 from rfl) (i3I (y := (1300 + a1)) (i3A (show (1300 : Int32) = i3 1300 from rfl) (rfl : i3 a1 = i3 a1)) (by omega) (by omega) (by omega))) (congrArg i3 ((kZ14 2 (by decide) 0 0 (1300 + a1)).trans ((kZ12 2 (by decide) 0 0 (1300 + a1)).trans ((zu_ne (k' := 2) (b' := 0) (i' := 0) (j' := (1300 + a1)) hZ10 (fun q => absurd q.1 (by decide))).trans ((zu_ne (k' := 2) (b' := 0) (i' := 0) (j' := (1300 + a1)) hZ9 (fun q => absurd q.1 (by decide))).trans (hF 2 0 (1300 + a1) (by decide)))))))) ((zu_ne (k' := 1) (b' := 0) (i' := 0) (j' := 2) hZ15 (fun q => absurd q.1 (by decide))).trans ((wZ140).trans ((wZ120).trans (zu_at hZ10)))) ⟨hZ15I, hZ15K, zN_r⟩

/- yX12_kept -/
def zg_425 (a1 : Int) (a2 : Int) : Int × Int := (if a1 < 0 then (0, 1) else (0, 1))
theorem sg_425 {Z : qz_Z} {ν : qz_N} (hZ : zI none Z) (hF : zFm Z) {a1 : Int} (ga1 : -2147483648 ≤ a1 ∧ a1 ≤ 2147483647) {a2 : Int} (ga2 : -2147483648 ≤ a2 ∧ a2 ≤ 2147483647) : ∃ (Z1 : qz_Z) (ν1 : qz_N) (v t : Int), (v, t) = zg_425 a1 a2 ∧ qf_425 [.inr (.inr (some (1, 0, 0))), .inl (i3 a1), .inl (i3 a2)] (zm Z ν) = some (zm Z1 ν1, .inl (some (.inl (i3 v)))) ∧ Z1 1 0 0 2 = t ∧ (fun Z1 ν1 => zI none Z1 ∧ zK [1] Z Z1 ∧ zN ν ν1) Z1 ν1 := by
  obtain ⟨P, hP⟩ := zx (zg_425 a1 a2)
  refine zc_M (Q := fun Z1 ν1 => zI none Z1 ∧ zK [1] Z Z1 ∧ zN ν ν1) hP (fw_425 (i3 a1) (i3 a2) _ _ ?_)
  replace hP : zE P (zg_425 a1 a2) := hP
  unfold zg_425 at hP
  refine wz_br (i3L (rfl : i3 a1 = i3 a1) (show (0 : Int32) = i3 0 from rfl) (by omega) (by omega) (by omega) (by omega)) (fun h1 => ?_) (fun h1 => ?_)
  · replace hP := zE_p hP h1
    obtain ⟨Z2, hZ2⟩ := zx (zu Z 1 0 0 2 1)
    have hZ2I := zI_u hZ hZ2 (lo := -2147483648) (hi := 2147483647) (by decide) rfl (by omega) ⟨by decide, by decide⟩ (Or.inr (by decide))
    have hZ2K : zK [1] Z Z2 := zK_u zK_r hZ2 (by decide)
    intro μ9 e9
    replace e9 := e9.trans (zm_wI (Z := Z) (ν := ν) hZ2 (show ((0 : Nat) : Int) = 0 from rfl) (show ((0 : Nat) : Int) = 0 from rfl) (show ((2 : Nat) : Int) = 2 from rfl) (show (1 : Int32) = i3 1 from rfl))
    subst e9
    exact zlM hP (show (0 : Int32) = i3 0 from rfl) (zu_at hZ2) ⟨hZ2I, hZ2K, zN_r⟩
  · replace hP := zE_n hP h1
    refine wz_i1 (Eq.trans (i3L (i3S (Eq.trans (zm_rd (Z := Z) (ν := ν) (k := 2) (show ((0 : Nat) : Int) = 0 from rfl) (show ((0 : Nat) : Int) = 0 from rfl) (show ((1200 : Nat) : Int) = 1200 from rfl)) (congrArg i3 ((hF 2 0 1200 (by decide)).trans ((show frz 2 0 1200 = 0 from by decide))))) (show (1 : Int32) = i3 1 from rfl)) (rfl : i3 a1 = i3 a1) (by omega) (by omega) (by omega) (by omega)) (decide_eq_true (by omega))) ?_
    obtain ⟨Z3, hZ3⟩ := zx (zu Z 1 0 0 2 1)
    have hZ3I := zI_u hZ hZ3 (lo := -2147483648) (hi := 2147483647) (by decide) rfl (by omega) ⟨by decide, by decide⟩ (Or.inr (by decide))
    have hZ3K : zK [1] Z Z3 := zK_u zK_r hZ3 (by decide)
    intro μ9 e9
    replace e9 := e9.trans (zm_wI (Z := Z) (ν := ν) hZ3 (show ((0 : Nat) : Int) = 0 from rfl) (show ((0 : Nat) : Int) = 0 from rfl) (show ((2 : Nat) : Int) = 2 from rfl) (show (1 : Int32) = i3 1 from rfl))
    subst e9
    exact zlM hP (show (0 : Int32) = i3 0 from rfl) (zu_at hZ3) ⟨hZ3I, hZ3K, zN_r⟩

/- yX12_buyer -/
def zg_295 (a1 : Int) (a2 : Int) (a3 : Int) : Int × Int := (if a1 < 0 then (0, 1) else (if 4 < a1 then (0, 1) else (if a2 < 0 then (0, 2) else (if 9999999 < a2 then (0, 2) else (if a3 < 0 then (0, 2) else (if 14 < a3 then (0, 2) else (0, 0)))))))
theorem sg_295 {Z : qz_Z} {ν : qz_N} (hZ : zI none Z) (hF : zFm Z) {a1 : Int} (ga1 : -2147483648 ≤ a1 ∧ a1 ≤ 2147483647) {a2 : Int} (ga2 : -2147483648 ≤ a2 ∧ a2 ≤ 2147483647) {a3 : Int} (ga3 : -2147483648 ≤ a3 ∧ a3 ≤ 2147483647) (rrec : ∀ Z, qz_rm (zm Z ν) 1 0 0 36 = some (102, 0, 0)) : ∃ (Z1 : qz_Z) (ν1 : qz_N) (v t : Int), (v, t) = zg_295 a1 a2 a3 ∧ qf_295 [.inr (.inr (some (1, 0, 0))), .inl (i3 a1), .inl (i3 a2), .inl (i3 a3)] (zm Z ν) = some (zm Z1 ν1, .inl (some (.inl (i3 v)))) ∧ Z1 1 0 0 2 = t ∧ (fun Z1 ν1 => zI none Z1 ∧ zK [1, 2, 101, 102] Z Z1 ∧ zN ν ν1) Z1 ν1 := by
  obtain ⟨P, hP⟩ := zx (zg_295 a1 a2 a3)
  refine zc_M (Q := fun Z1 ν1 => zI none Z1 ∧ zK [1, 2, 101, 102] Z Z1 ∧ zN ν ν1) hP (fw_295 (i3 a1) (i3 a2) (i3 a3) _ _ ?_)
  replace hP : zE P (zg_295 a1 a2 a3) := hP
  unfold zg_295 at hP
  refine wz_br (i3L (rfl : i3 a1 = i3 a1) (show (0 : Int32) = i3 0 from rfl) (by omega) (by omega) (by omega) (by omega)) (fun h1 => ?_) (fun h1 => ?_)
  · replace hP := zE_p hP h1
    obtain ⟨Z2, hZ2⟩ := zx (zu Z 1 0 0 2 1)
    have hZ2I := zI_u hZ hZ2 (lo := -2147483648) (hi := 2147483647) (by decide) rfl (by omega) ⟨by decide, by decide⟩ (Or.inr (by decide))
    have hZ2K : zK [1, 2, 101, 102] Z Z2 := zK_u zK_r hZ2 (by decide)
    intro μ9 e9
    replace e9 := e9.trans (zm_wI (Z := Z) (ν := ν) hZ2 (show ((0 : Nat) : Int) = 0 from rfl) (show ((0 : Nat) : Int) = 0 from rfl) (show ((2 : Nat) : Int) = 2 from rfl) (show (1 : Int32) = i3 1 from rfl))
    subst e9
    exact zlM hP (show (0 : Int32) = i3 0 from rfl) (zu_at hZ2) ⟨hZ2I, hZ2K, zN_r⟩
  · replace hP := zE_n hP h1
    refine wz_br (i3L (show (4 : Int32) = i3 4 from rfl) (rfl : i3 a1 = i3 a1) (by omega) (by omega) (by omega) (by omega)) (fun h3 => ?_) (fun h3 => ?_)
    · replace hP := zE_p hP h3
      obtain ⟨Z4, hZ4⟩ := zx (zu Z 1 0 0 2 1)
      have hZ4I := zI_u hZ hZ4 (lo := -2147483648) (hi := 2147483647) (by decide) rfl (by omega) ⟨by decide, by decide⟩ (Or.inr (by decide))
      have hZ4K : zK [1, 2, 101, 102] Z Z4 := zK_u zK_r hZ4 (by decide)
      intro μ9 e9
      replace e9 := e9.trans (zm_wI (Z := Z) (ν := ν) hZ4 (show ((0 : Nat) : Int) = 0 from rfl) (show ((0 : Nat) : Int) = 0 from rfl) (show ((2 : Nat) : Int) = 2 from rfl) (show (1 : Int32) = i3 1 from rfl))
      subst e9
      exact zlM hP (show (0 : Int32) = i3 0 from rfl) (zu_at hZ4) ⟨hZ4I, hZ4K, zN_r⟩
    · replace hP := zE_n hP h3
      obtain ⟨Z5, hZ5⟩ := zx (zu Z 1 0 0 2 0)
      have hZ5I := zI_0 hZ hZ5 (by decide) (Or.inr (by decide))
      have hZ5K : zK [1, 2, 101, 102] Z Z5 := zK_u zK_r hZ5 (by decide)
      intro μ9 e9
      replace e9 := e9.trans (zm_wI (Z := Z) (ν := ν) hZ5 (show ((0 : Nat) : Int) = 0 from rfl) (show ((0 : Nat) : Int) = 0 from rfl) (show ((2 : Nat) : Int) = 2 from rfl) (show (0 : Int32) = i3 0 from rfl))
      subst e9
      refine wz_br (i3L (rfl : i3 a2 = i3 a2) (show (0 : Int32) = i3 0 from rfl) (by omega) (by omega) (by omega) (by omega)) (fun h6 => ?_) (fun h6 => ?_)
      · replace hP := zE_p hP h6
        obtain ⟨Z7, hZ7⟩ := zx (zu Z5 1 0 0 2 2)
        have hZ7I := zI_u hZ5I hZ7 (lo := -2147483648) (hi := 2147483647) (by decide) rfl (by omega) ⟨by decide, by decide⟩ (Or.inr (by decide))
        have hZ7K := zK_u hZ5K hZ7 (by decide)
        intro μ9 e9
        replace e9 := e9.trans (zm_wI (Z := Z5) (ν := ν) hZ7 (show ((0 : Nat) : Int) = 0 from rfl) (show ((0 : Nat) : Int) = 0 from rfl) (show ((2 : Nat) : Int) = 2 from rfl) (show (2 : Int32) = i3 2 from rfl))
        subst e9
        exact zlM hP (show (0 : Int32) = i3 0 from rfl) (zu_at hZ7) ⟨hZ7I, hZ7K, zN_r⟩
      · replace hP := zE_n hP h6
        refine wz_br (i3L (show (9999999 : Int32) = i3 9999999 from rfl) (rfl : i3 a2 = i3 a2) (by omega) (by omega) (by omega) (by omega)) (fun h8 => ?_) (fun h8 => ?_)
        · replace hP := zE_p hP h8
          obtain ⟨Z9, hZ9⟩ := zx (zu Z5 1 0 0 2 2)
          have hZ9I := zI_u hZ5I hZ9 (lo := -2147483648) (hi := 2147483647) (by decide) rfl (by omega) ⟨by decide, by decide⟩ (Or.inr (by decide))
          have hZ9K := zK_u hZ5K hZ9 (by decide)
          intro μ9 e9
          replace e9 := e9.trans (zm_wI (Z := Z5) (ν := ν) hZ9 (show ((0 : Nat) : Int) = 0 from rfl) (show ((0 : Nat) : Int) = 0 from rfl) (show ((2 : Nat) : Int) = 2 from rfl) (show (2 : Int32) = i3 2 from rfl))
          subst e9
          exact zlM hP (show (0 : Int32) = i3 0 from rfl) (zu_at hZ9) ⟨hZ9I, hZ9K, zN_r⟩
        · replace hP := zE_n hP h8
          refine wz_br (i3L (rfl : i3 a3 = i3 a3) (show (0 : Int32) = i3 0 from rfl) (by omega) (by omega) (by omega) (by omega)) (fun h10 => ?_) (fun h10 => ?_)
          · replace hP := zE_p hP h10
            obtain ⟨Z11, hZ11⟩ := zx (zu Z5 1 0 0 2 2)
            have hZ11I := zI_u hZ5I hZ11 (lo := -2147483648) (hi := 2147483647) (by decide) rfl (by omega) ⟨by decide, by decide⟩ (Or.inr (by decide))
            have hZ11K := zK_u hZ5K hZ11 (by decide)
            intro μ9 e9
            replace e9 := e9.trans (zm_wI (Z := Z5) (ν := ν) hZ11 (show ((0 : Nat) : Int) = 0 from rfl) (show ((0 : Nat) : Int) = 0 from rfl) (show ((2 : Nat) : Int) = 2 from rfl) (show (2 : Int32) = i3 2 from rfl))
            subst e9
            exact zlM hP (show (0 : Int32) = i3 0 from rfl) (zu_at hZ11) ⟨hZ11I, hZ11K, zN_r⟩
          · replace hP := zE_n hP h10
            refine wz_br (i3L (show (14 : Int32) = i3 14 from rfl) (rfl : i3 a3 = i3 a3) (by omega) (by omega) (by omega) (by omega)) (fun h12 => ?_) (fun h12 => ?_)
            · replace hP := zE_p hP h12
              obtain ⟨Z13, hZ13⟩ := zx (zu Z5 1 0 0 2 2)
              have hZ13I := zI_u hZ5I hZ13 (lo := -2147483648) (hi := 2147483647) (by decide) rfl (by omega) ⟨by decide, by decide⟩ (Or.inr (by decide))
              have hZ13K := zK_u hZ5K hZ13 (by decide)
              intro μ9 e9
              replace e9 := e9.trans (zm_wI (Z := Z5) (ν := ν) hZ13 (show ((0 : Nat) : Int) = 0 from rfl) (show ((0 : Nat) : Int) = 0 from rfl) (show ((2 : Nat) : Int) = 2 from rfl) (show (2 : Int32) = i3 2 from rfl))
              subst e9
              exact zlM hP (show (0 : Int32) = i3 0 from rfl) (zu_at hZ13) ⟨hZ13I, hZ13K, zN_r⟩
            · replace hP := zE_n hP h12
              obtain ⟨Z14, hZ14⟩ := zx (zu Z5 1 0 0 2 0)
              have hZ14I := zI_0 hZ5I hZ14 (by decide) (Or.inr (by decide))
              have hZ14K := zK_u hZ5K hZ14 (by decide)
              intro μ9 e9
              replace e9 := e9.trans (zm_wI (Z := Z5) (ν := ν) hZ14 (show ((0 : Nat) : Int) = 0 from rfl) (show ((0 : Nat) : Int) = 0 from rfl) (show ((2 : Nat) : Int) = 2 from rfl) (show (0 : Int32) = i3 0 from rfl))
              subst e9
              refine wz_i0 (Eq.trans (i3Le (show (8 : Int32) = i3 8 from rfl) (Eq.trans (zm_rd (Z := Z14) (ν := ν) (k := 2) (show ((0 : Nat) : Int) = 0 from rfl) (show ((0 : Nat) : Int) = 0 from rfl) (show ((1400 : Nat) : Int) = 1400 from rfl)) (congrArg i3 ((zu_ne (k' := 2) (b' := 0) (i' := 0) (j' := 1400) hZ14 (fun q => absurd q.1 (by decide))).trans ((zu_ne (k' := 2) (b' := 0) (i' := 0) (j' := 1400) hZ5 (fun q => absurd q.1 (by decide))).trans ((hF 2 0 1400 (by decide)).trans ((show frz 2 0 1400 = 0 from by decide))))))) (by omega) (by omega) (by omega) (by omega)) (decide_eq_false (by omega))) ?_
              obtain ⟨Z15, hZ15⟩ := zx (zu Z14 1 0 0 2 0)
              have hZ15I := zI_0 hZ14I hZ15 (by decide) (Or.inr (by decide))
              have hZ15K := zK_u hZ14K hZ15 (by decide)
              intro μ9 e9
              replace e9 := e9.trans (zm_wI (Z := Z14) (ν := ν) hZ15 (show ((0 : Nat) : Int) = 0 from rfl) (show ((0 : Nat) : Int) = 0 from rfl) (show ((2 : Nat) : Int) = 2 from rfl) (show (0 : Int32) = i3 0 from rfl))
              subst e9
              refine wz_i0 (Eq.trans (i3NE (Eq.trans (zm_rd (Z := Z15) (ν := ν) (k := 1) (show ((0 : Nat) : Int) = 0 from rfl) (show ((0 : Nat) : Int) = 0 from rfl) (show ((35 : Nat) : Int) = 35 from rfl)) (congrArg i3 ((zu_ne (k' := 1) (b' := 0) (i' := 0) (j' := 35) hZ15 (fun q => absurd q.2.2.2 (by decide))).trans ((zu_ne (k' := 1) (b' := 0) (i' := 0) (j' := 35) hZ14 (fun q => absurd q.2.2.2 (by decide))).trans ((zu_ne (k' := 1) (b' := 0) (i' := 0) (j' := 35) hZ5 (fun q => absurd q.2.2.2 (by decide))).trans ((hF 1 0 35 (by decide)).trans ((show frz 1 0 35 = 0 from by decide)))))))) (show (0 : Int32) = i3 0 from rfl) (by omega) (by omega) (by omega) (by omega)) (decide_eq_false (by omega))) ?_
              have e16 : Z15 1 0 0 34 = 0 := (zu_ne (k' := 1) (b' := 0) (i' := 0) (j' := 34) hZ15 (fun q => absurd q.2.2.2 (by decide))).trans ((zu_ne (k' := 1) (b' := 0) (i' := 0) (j' := 34) hZ14 (fun q => absurd q.2.2.2 (by decide))).trans ((zu_ne (k' := 1) (b' := 0) (i' := 0) (j' := 34) hZ5 (fun q => absurd q.2.2.2 (by decide))).trans ((hF 1 0 34 (by decide)).trans ((show frz 1 0 34 = 0 from by decide)))))
              obtain ⟨Z17, hZ17, c9, hZ17I, kZ17, wZ170, wZ171, wZ172⟩ := sp_557 (ν := ν) hZ15I (a1 := (-1)) (by omega) (by omega)
              have hZ17K : zK [1, 2, 101, 102] Z Z17 := zK_t hZ15K kZ17 (by decide)
              refine wz_cV_of (zas (zcons rfl (zcons (zvi (show (-1 : Int32) = i3 (-1) from rfl)) rfl)) c9) ?_
              clear c9
              have e18 : Z17 1 0 0 37 = 0 := (wZ172).trans ((zu_ne (k' := 1) (b' := 0) (i' := 0) (j' := 37) hZ15 (fun q => absurd q.2.2.2 (by decide))).trans ((zu_ne (k' := 1) (b' := 0) (i' := 0) (j' := 37) hZ14 (fun q => absurd q.2.2.2 (by decide))).trans ((zu_ne (k' := 1) (b' := 0) (i' := 0) (j' := 37) hZ5 (fun q => absurd q.2.2.2 (by decide))).trans ((hF 1 0 37 (by decide)).trans ((show frz 1 0 37 = 0 from by decide))))))
              obtain ⟨Z19, hZ19, c9, hZ19I, kZ19, wZ190, wZ191⟩ := sp_563 (ν := ν) hZ17I (a1 := 11) (by omega) (a2 := a1) (by omega) (a3 := a2) (by omega) (a4 := a3) (by omega) (a5 := 0) (by omega) (a6 := 0) (by omega) (a7 := 0) (by omega) (by omega) rrec
              have hZ19K : zK [1, 2, 101, 102] Z Z19 := zK_t hZ17K kZ19 (by decide)
              refine wz_cV_of (zas (zcons rfl (zcons (zvi (show (11 : Int32) = i3 11 from rfl)) (zcons (zvi (rfl : i3 a1 = i3 a1)) (zcons (zvi (rfl : i3 a2 = i3 a2)) (zcons (zvi (rfl : i3 a3 = i3 a3)) (zcons (zvi (show (0 : Int32) = i3 0 from rfl)) (zcons (zvi (show (0 : Int32) = i3 0 from rfl)) (zcons (zvi (show (0 : Int32) = i3 0 from rfl)) rfl)))))))) c9) ?_
              clear c9
              refine wz_i0 (i3O (n := 4400) (i3A (i3A (show (1410 : Int32) = i3 1410 from rfl) (i3M (show (12 : Int32) = i3 12 from rfl) (Eq.trans (zm_rd (Z := Z19) (ν := ν) (k := 2) (show ((0 : Nat) : Int) = 0 from rfl) (show ((0 : Nat) : Int) = 0 from rfl) (show ((1400 : Nat) : Int) = 1400 from rfl)) (congrArg i3 ((kZ19 2 (by decide) 0 0 1400).trans ((kZ17 2 (by decide) 0 0 1400).trans ((zu_ne (k' := 2) (b' := 0) (i' := 0) (j' := 1400) hZ15 (fun q => absurd q.1 (by decide))).trans ((zu_ne (k' := 2) (b' := 0) (i' := 0) (j' := 1400) hZ14 (fun q => absurd q.1 (by decide))).trans ((zu_ne (k' := 2) (b' := 0) (i' := 0) (j' := 1400) hZ5 (fun q => absurd q.1 (by decide))).trans ((hF 2 0 1400 (by decide)).trans ((show frz 2 0 1400 = 0 from by decide)))))))))))) (show (0 : Int32) = i3 0 from rfl)) (by omega) (by omega) (by omega)) ?_
              obtain ⟨Z20, hZ20⟩ := zx (zu Z19 2 0 0 1410 a1)
              have hZ20I := zI_u hZ19I hZ20 (lo := 0) (hi := 4) (by decide) rfl (by omega) ⟨by decide, by decide⟩ (Or.inl (by decide))
              have hZ20K := zK_u hZ19K hZ20 (by decide)
              intro μ9 e9
              replace e9 := e9.trans (zm_wI (Z := Z19) (ν := ν) hZ20 (show ((0 : Nat) : Int) = 0 from rfl) (show ((0 : Nat) : Int) = 0 from rfl) (i3I (y := 1410) (i3A (i3A (show (1410 : Int32) = i3 1410 from rfl) (i3M (show (12 : Int32) = i3 12 from rfl) (Eq.trans (zm_rd (Z := Z19) (ν := ν) (k := 2) (show ((0 : Nat) : Int) = 0 from rfl) (show ((0 : Nat) : Int) = 0 from rfl) (show ((1400 : Nat) : Int) = 1400 from rfl)) (congrArg i3 ((kZ19 2 (by decide) 0 0 1400).trans ((kZ17 2 (by decide) 0 0 1400).trans ((zu_ne (k' := 2) (b' := 0) (i' := 0) (j' := 1400) hZ15 (fun q => absurd q.1 (by decide))).trans ((zu_ne (k' := 2) (b' := 0) (i' := 0) (j' := 1400) hZ14 (fun q => absurd q.1 (by decide))).trans ((zu_ne (k' := 2) (b' := 0) (i' := 0) (j' := 1400) hZ5 (fun q => absurd q.1 (by decide))).trans ((hF 2 0 1400 (by decide)).trans ((show frz 2 0 1400 = 0 from by decide)))))))))))) (show (0 : Int32) = i3 0 from rfl)) (by omega) (by omega) (by omega)) (rfl : i3 a1 = i3 a1))
              subst e9
              refine wz_i0 (i3O (n := 4400) (i3A (i3A (show (1410 : Int32) = i3 1410 from rfl) (i3M (show (12 : Int32) = i3 12 from rfl) (Eq.trans (zm_rd (Z := Z19) (ν := ν) (k := 2) (show ((0 : Nat) : Int) = 0 from rfl) (show ((0 : Nat) : Int) = 0 from rfl) (show ((1400 : Nat) : Int) = 1400 from rfl)) (congrArg i3 ((kZ19 2 (by decide) 0 0 1400).trans ((kZ17 2 (by decide) 0 0 1400).trans ((zu_ne (k' := 2) (b' := 0) (i' := 0) (j' := 1400) hZ15 (fun q => absurd q.1 (by decide))).trans ((zu_ne (k' := 2) (b' := 0) (i' := 0) (j' := 1400) hZ14 (fun q => absurd q.1 (by decide))).trans ((zu_ne (k' := 2) (b' := 0) (i' := 0) (j' := 1400) hZ5 (fun q => absurd q.1 (by decide))).trans ((hF 2 0 1400 (by decide)).trans ((show frz 2 0 1400 = 0 from by decide)))))))))))) (show (1 : Int32) = i3 1 from rfl)) (by omega) (by omega) (by omega)) ?_
              obtain ⟨Z21, hZ21⟩ := zx (zu Z20 2 0 0 1411 a2)
              have hZ21I := zI_u hZ20I hZ21 (lo := 0) (hi := 9999999) (by decide) rfl (by omega) ⟨by decide, by decide⟩ (Or.inl (by decide))
              have hZ21K := zK_u hZ20K hZ21 (by decide)
              intro μ9 e9
              replace e9 := e9.trans (zm_wI (Z := Z20) (ν := ν) hZ21 (show ((0 : Nat) : Int) = 0 from rfl) (show ((0 : Nat) : Int) = 0 from rfl) (i3I (y := 1411) (i3A (i3A (show (1410 : Int32) = i3 1410 from rfl) (i3M (show (12 : Int32) = i3 12 from rfl) (Eq.trans (zm_rd (Z := Z19) (ν := ν) (k := 2) (show ((0 : Nat) : Int) = 0 from rfl) (show ((0 : Nat) : Int) = 0 from rfl) (show ((1400 : Nat) : Int) = 1400 from rfl)) (congrArg i3 ((kZ19 2 (by decide) 0 0 1400).trans ((kZ17 2 (by decide) 0 0 1400).trans ((zu_ne (k' := 2) (b' := 0) (i' := 0) (j' := 1400) hZ15 (fun q => absurd q.1 (by decide))).trans ((zu_ne (k' := 2) (b' := 0) (i' := 0) (j' := 1400) hZ14 (fun q => absurd q.1 (by decide))).trans ((zu_ne (k' := 2) (b' := 0) (i' := 0) (j' := 1400) hZ5 (fun q => absurd q.1 (by decide))).trans ((hF 2 0 1400 (by decide)).trans ((show frz 2 0 1400 = 0 from by decide)))))))))))) (show (1 : Int32) = i3 1 from rfl)) (by omega) (by omega) (by omega)) (rfl : i3 a2 = i3 a2))
              subst e9
              refine wz_i0 (i3O (n := 4400) (i3A (i3A (show (1410 : Int32) = i3 1410 from rfl) (i3M (show (12 : Int32) = i3 12 from rfl) (Eq.trans (zm_rd (Z := Z19) (ν := ν) (k := 2) (show ((0 : Nat) : Int) = 0 from rfl) (show ((0 : Nat) : Int) = 0 from rfl) (show ((1400 : Nat) : Int) = 1400 from rfl)) (congrArg i3 ((kZ19 2 (by decide) 0 0 1400).trans ((kZ17 2 (by decide) 0 0 1400).trans ((zu_ne (k' := 2) (b' := 0) (i' := 0) (j' := 1400) hZ15 (fun q => absurd q.1 (by decide))).trans ((zu_ne (k' := 2) (b' := 0) (i' := 0) (j' := 1400) hZ14 (fun q => absurd q.1 (by decide))).trans ((zu_ne (k' := 2) (b' := 0) (i' := 0) (j' := 1400) hZ5 (fun q => absurd q.1 (by decide))).trans ((hF 2 0 1400 (by decide)).trans ((show frz 2 0 1400 = 0 from by decide)))))))))))) (show (2 : Int32) = i3 2 from rfl)) (by omega) (by omega) (by omega)) ?_
              obtain ⟨Z22, hZ22⟩ := zx (zu Z21 2 0 0 1412 a3)
              have hZ22I := zI_u hZ21I hZ22 (lo := 0) (hi := 14) (by decide) rfl (by omega) ⟨by decide, by decide⟩ (Or.inl (by decide))
              have hZ22K := zK_u hZ21K hZ22 (by decide)
              intro μ9 e9
              replace e9 := e9.trans (zm_wI (Z := Z21) (ν := ν) hZ22 (show ((0 : Nat) : Int) = 0 from rfl) (show ((0 : Nat) : Int) = 0 from rfl) (i3I (y := 1412) (i3A (i3A (show (1410 : Int32) = i3 1410 from rfl) (i3M (show (12 : Int32) = i3 12 from rfl) (Eq.trans (zm_rd (Z := Z19) (ν := ν) (k := 2) (show ((0 : Nat) : Int) = 0 from rfl) (show ((0 : Nat) : Int) = 0 from rfl) (show ((1400 : Nat) : Int) = 1400 from rfl)) (congrArg i3 ((kZ19 2 (by decide) 0 0 1400).trans ((kZ17 2 (by decide) 0 0 1400).trans ((zu_ne (k' := 2) (b' := 0) (i' := 0) (j' := 1400) hZ15 (fun q => absurd q.1 (by decide))).trans ((zu_ne (k' := 2) (b' := 0) (i' := 0) (j' := 1400) hZ14 (fun q => absurd q.1 (by decide))).trans ((zu_ne (k' := 2) (b' := 0) (i' := 0) (j' := 1400) hZ5 (fun q => absurd q.1 (by decide))).trans ((hF 2 0 1400 (by decide)).trans ((show frz 2 0 1400 = 0 from by decide)))))))))))) (show (2 : Int32) = i3 2 from rfl)) (by omega) (by omega) (by omega)) (rfl : i3 a3 = i3 a3))
              subst e9
              obtain ⟨Z23, hZ23⟩ := zx (zu Z22 2 0 0 1400 (0 + 1))
              have hZ23I := zI_u hZ22I hZ23 (lo := 0) (hi := 8) (by decide) rfl (by omega) ⟨by decide, by decide⟩ (Or.inl (by decide))
              have hZ23K := zK_u hZ22K hZ23 (by decide)
              intro μ9 e9
              replace e9 := e9.trans (zm_wI (Z := Z22) (ν := ν) hZ23 (show ((0 : Nat) : Int) = 0 from rfl) (show ((0 : Nat) : Int) = 0 from rfl) (show ((1400 : Nat) : Int) = 1400 from rfl) (i3A (Eq.trans (zm_rd (Z := Z22) (ν := ν) (k := 2) (show ((0 : Nat) : Int) = 0 from rfl) (show ((0 : Nat) : Int) = 0 from rfl) (show ((1400 : Nat) : Int) = 1400 from rfl)) (congrArg i3 ((zu_ne (k' := 2) (b' := 0) (i' := 0) (j' := 1400) hZ22 (fun q => absurd q.2.2.2 (by decide))).trans ((zu_ne (k' := 2) (b' := 0) (i' := 0) (j' := 1400) hZ21 (fun q => absurd q.2.2.2 (by decide))).trans ((zu_ne (k' := 2) (b' := 0) (i' := 0) (j' := 1400) hZ20 (fun q => absurd q.2.2.2 (by decide))).trans ((kZ19 2 (by decide) 0 0 1400).trans ((kZ17 2 (by decide) 0 0 1400).trans ((zu_ne (k' := 2) (b' := 0) (i' := 0) (j' := 1400) hZ15 (fun q => absurd q.1 (by decide))).trans ((zu_ne (k' := 2) (b' := 0) (i' := 0) (j' := 1400) hZ14 (fun q => absurd q.1 (by decide))).trans ((zu_ne (k' := 2) (b' := 0) (i' := 0) (j' := 1400) hZ5 (fun q => absurd q.1 (by decide))).trans ((hF 2 0 1400 (by decide)).trans ((show frz 2 0 1400 = 0 from by decide))))))))))))) (show (1 : Int32) = i3 1 from rfl)))
              subst e9
              exact zlM hP (Eq.trans (zm_rd (Z := Z19) (ν := ν) (k := 2) (show ((0 : Nat) : Int) = 0 from rfl) (show ((0 : Nat) : Int) = 0 from rfl) (show ((1400 : Nat) : Int) = 1400 from rfl)) (congrArg i3 ((kZ19 2 (by decide) 0 0 1400).trans ((kZ17 2 (by decide) 0 0 1400).trans ((zu_ne (k' := 2) (b' := 0) (i' := 0) (j' := 1400) hZ15 (fun q => absurd q.1 (by decide))).trans ((zu_ne (k' := 2) (b' := 0) (i' := 0) (j' := 1400) hZ14 (fun q => absurd q.1 (by decide))).trans ((zu_ne (k' := 2) (b' := 0) (i' := 0) (j' := 1400) hZ5 (fun q => absurd q.1 (by decide))).trans ((hF 2 0 1400 (by decide)).trans ((show frz 2 0 1400 = 0 from by decide)))))))))) ((zu_ne (k' := 1) (b' := 0) (i' := 0) (j' := 2) hZ23 (fun q => absurd q.1 (by decide))).trans ((zu_ne (k' := 1) (b' := 0) (i' := 0) (j' := 2) hZ22 (fun q => absurd q.1 (by decide))).trans ((zu_ne (k' := 1) (b' := 0) (i' := 0) (j' := 2) hZ21 (fun q => absurd q.1 (by decide))).trans ((zu_ne (k' := 1) (b' := 0) (i' := 0) (j' := 2) hZ20 (fun q => absurd q.1 (by decide))).trans ((wZ190).trans ((wZ170).trans (zu_at hZ15))))))) ⟨hZ23I, hZ23K, zN_r⟩

/- yX12_pay -/
def zg_451 (a1 : Int) (a2 : Int) : Int × Int := (if a1 < 0 then (0, 1) else (0, 1))
theorem sg_451 {Z : qz_Z} {ν : qz_N} (hZ : zI none Z) (hF : zFm Z) {a1 : Int} (ga1 : -2147483648 ≤ a1 ∧ a1 ≤ 2147483647) {a2 : Int} (ga2 : -2147483648 ≤ a2 ∧ a2 ≤ 2147483647) : ∃ (Z1 : qz_Z) (ν1 : qz_N) (v t : Int), (v, t) = zg_451 a1 a2 ∧ qf_451 [.inr (.inr (some (1, 0, 0))), .inl (i3 a1), .inl (i3 a2)] (zm Z ν) = some (zm Z1 ν1, .inl (some (.inl (i3 v)))) ∧ Z1 1 0 0 2 = t ∧ (fun Z1 ν1 => zI none Z1 ∧ zK [1] Z Z1 ∧ zN ν ν1) Z1 ν1 := by
  obtain ⟨P, hP⟩ := zx (zg_451 a1 a2)
  refine zc_M (Q := fun Z1 ν1 => zI none Z1 ∧ zK [1] Z Z1 ∧ zN ν ν1) hP (fw_451 (i3 a1) (i3 a2) _ _ ?_)
  replace hP : zE P (zg_451 a1 a2) := hP
  unfold zg_451 at hP
  refine wz_br (i3L (rfl : i3 a1 = i3 a1) (show (0 : Int32) = i3 0 from rfl) (by omega) (by omega) (by omega) (by omega)) (fun h1 => ?_) (fun h1 => ?_)
  · replace hP := zE_p hP h1
    obtain ⟨Z2, hZ2⟩ := zx (zu Z 1 0 0 2 1)
    have hZ2I := zI_u hZ hZ2 (lo := -2147483648) (hi := 2147483647) (by decide) rfl (by omega) ⟨by decide, by decide⟩ (Or.inr (by decide))
    have hZ2K : zK [1] Z Z2 := zK_u zK_r hZ2 (by decide)
    intro μ9 e9
    replace e9 := e9.trans (zm_wI (Z := Z) (ν := ν) hZ2 (show ((0 : Nat) : Int) = 0 from rfl) (show ((0 : Nat) : Int) = 0 from rfl) (show ((2 : Nat) : Int) = 2 from rfl) (show (1 : Int32) = i3 1 from rfl))
    subst e9
    exact zlM hP (show (0 : Int32) = i3 0 from rfl) (zu_at hZ2) ⟨hZ2I, hZ2K, zN_r⟩
  · replace hP := zE_n hP h1
    refine wz_i1 (Eq.trans (i3L (i3S (Eq.trans (zm_rd (Z := Z) (ν := ν) (k := 2) (show ((0 : Nat) : Int) = 0 from rfl) (show ((0 : Nat) : Int) = 0 from rfl) (show ((1400 : Nat) : Int) = 1400 from rfl)) (congrArg i3 ((hF 2 0 1400 (by decide)).trans ((show frz 2 0 1400 = 0 from by decide))))) (show (1 : Int32) = i3 1 from rfl)) (rfl : i3 a1 = i3 a1) (by omega) (by omega) (by omega) (by omega)) (decide_eq_true (by omega))) ?_
    obtain ⟨Z3, hZ3⟩ := zx (zu Z 1 0 0 2 1)
    have hZ3I := zI_u hZ hZ3 (lo := -2147483648) (hi := 2147483647) (by decide) rfl (by omega) ⟨by decide, by decide⟩ (Or.inr (by decide))
    have hZ3K : zK [1] Z Z3 := zK_u zK_r hZ3 (by decide)
    intro μ9 e9
    replace e9 := e9.trans (zm_wI (Z := Z) (ν := ν) hZ3 (show ((0 : Nat) : Int) = 0 from rfl) (show ((0 : Nat) : Int) = 0 from rfl) (show ((2 : Nat) : Int) = 2 from rfl) (show (1 : Int32) = i3 1 from rfl))
    subst e9
    exact zlM hP (show (0 : Int32) = i3 0 from rfl) (zu_at hZ3) ⟨hZ3I, hZ3K, zN_r⟩

/- yX12_taker -/
def zg_532 (a1 : Int) (a2 : Int) : Int × Int := (if a1 < 0 then (0, 1) else (0, 1))
theorem sg_532 {Z : qz_Z} {ν : qz_N} (hZ : zI none Z) (hF : zFm Z) {a1 : Int} (ga1 : -2147483648 ≤ a1 ∧ a1 ≤ 2147483647) {a2 : Int} (ga2 : -2147483648 ≤ a2 ∧ a2 ≤ 2147483647) : ∃ (Z1 : qz_Z) (ν1 : qz_N) (v t : Int), (v, t) = zg_532 a1 a2 ∧ qf_532 [.inr (.inr (some (1, 0, 0))), .inl (i3 a1), .inl (i3 a2)] (zm Z ν) = some (zm Z1 ν1, .inl (some (.inl (i3 v)))) ∧ Z1 1 0 0 2 = t ∧ (fun Z1 ν1 => zI none Z1 ∧ zK [1] Z Z1 ∧ zN ν ν1) Z1 ν1 := by
  obtain ⟨P, hP⟩ := zx (zg_532 a1 a2)
  refine zc_M (Q := fun Z1 ν1 => zI none Z1 ∧ zK [1] Z Z1 ∧ zN ν ν1) hP (fw_532 (i3 a1) (i3 a2) _ _ ?_)
  replace hP : zE P (zg_532 a1 a2) := hP
  unfold zg_532 at hP
  refine wz_br (i3L (rfl : i3 a1 = i3 a1) (show (0 : Int32) = i3 0 from rfl) (by omega) (by omega) (by omega) (by omega)) (fun h1 => ?_) (fun h1 => ?_)
  · replace hP := zE_p hP h1
    obtain ⟨Z2, hZ2⟩ := zx (zu Z 1 0 0 2 1)
    have hZ2I := zI_u hZ hZ2 (lo := -2147483648) (hi := 2147483647) (by decide) rfl (by omega) ⟨by decide, by decide⟩ (Or.inr (by decide))
    have hZ2K : zK [1] Z Z2 := zK_u zK_r hZ2 (by decide)
    intro μ9 e9
    replace e9 := e9.trans (zm_wI (Z := Z) (ν := ν) hZ2 (show ((0 : Nat) : Int) = 0 from rfl) (show ((0 : Nat) : Int) = 0 from rfl) (show ((2 : Nat) : Int) = 2 from rfl) (show (1 : Int32) = i3 1 from rfl))
    subst e9
    exact zlM hP (show (0 : Int32) = i3 0 from rfl) (zu_at hZ2) ⟨hZ2I, hZ2K, zN_r⟩
  · replace hP := zE_n hP h1
    refine wz_i1 (Eq.trans (i3L (i3S (Eq.trans (zm_rd (Z := Z) (ν := ν) (k := 2) (show ((0 : Nat) : Int) = 0 from rfl) (show ((0 : Nat) : Int) = 0 from rfl) (show ((102 : Nat) : Int) = 102 from rfl)) (congrArg i3 ((hF 2 0 102 (by decide)).trans ((show frz 2 0 102 = 0 from by decide))))) (show (1 : Int32) = i3 1 from rfl)) (rfl : i3 a1 = i3 a1) (by omega) (by omega) (by omega) (by omega)) (decide_eq_true (by omega))) ?_
    obtain ⟨Z3, hZ3⟩ := zx (zu Z 1 0 0 2 1)
    have hZ3I := zI_u hZ hZ3 (lo := -2147483648) (hi := 2147483647) (by decide) rfl (by omega) ⟨by decide, by decide⟩ (Or.inr (by decide))
    have hZ3K : zK [1] Z Z3 := zK_u zK_r hZ3 (by decide)
    intro μ9 e9
    replace e9 := e9.trans (zm_wI (Z := Z) (ν := ν) hZ3 (show ((0 : Nat) : Int) = 0 from rfl) (show ((0 : Nat) : Int) = 0 from rfl) (show ((2 : Nat) : Int) = 2 from rfl) (show (1 : Int32) = i3 1 from rfl))
    subst e9
    exact zlM hP (show (0 : Int32) = i3 0 from rfl) (zu_at hZ3) ⟨hZ3I, hZ3K, zN_r⟩

/- yX12_withdraw -/
def zg_546 (a1 : Int) : Int × Int := (if a1 < 0 then (0, 1) else (0, 1))
theorem sg_546 {Z : qz_Z} {ν : qz_N} (hZ : zI none Z) (hF : zFm Z) {a1 : Int} (ga1 : -2147483648 ≤ a1 ∧ a1 ≤ 2147483647) : ∃ (Z1 : qz_Z) (ν1 : qz_N) (v t : Int), (v, t) = zg_546 a1 ∧ qf_546 [.inr (.inr (some (1, 0, 0))), .inl (i3 a1)] (zm Z ν) = some (zm Z1 ν1, .inl (some (.inl (i3 v)))) ∧ Z1 1 0 0 2 = t ∧ (fun Z1 ν1 => zI none Z1 ∧ zK [1] Z Z1 ∧ zN ν ν1) Z1 ν1 := by
  obtain ⟨P, hP⟩ := zx (zg_546 a1)
  refine zc_M (Q := fun Z1 ν1 => zI none Z1 ∧ zK [1] Z Z1 ∧ zN ν ν1) hP (fw_546 (i3 a1) _ _ ?_)
  replace hP : zE P (zg_546 a1) := hP
  unfold zg_546 at hP
  refine wz_br (i3L (rfl : i3 a1 = i3 a1) (show (0 : Int32) = i3 0 from rfl) (by omega) (by omega) (by omega) (by omega)) (fun h1 => ?_) (fun h1 => ?_)
  · replace hP := zE_p hP h1
    obtain ⟨Z2, hZ2⟩ := zx (zu Z 1 0 0 2 1)
    have hZ2I := zI_u hZ hZ2 (lo := -2147483648) (hi := 2147483647) (by decide) rfl (by omega) ⟨by decide, by decide⟩ (Or.inr (by decide))
    have hZ2K : zK [1] Z Z2 := zK_u zK_r hZ2 (by decide)
    intro μ9 e9
    replace e9 := e9.trans (zm_wI (Z := Z) (ν := ν) hZ2 (show ((0 : Nat) : Int) = 0 from rfl) (show ((0 : Nat) : Int) = 0 from rfl) (show ((2 : Nat) : Int) = 2 from rfl) (show (1 : Int32) = i3 1 from rfl))
    subst e9
    exact zlM hP (show (0 : Int32) = i3 0 from rfl) (zu_at hZ2) ⟨hZ2I, hZ2K, zN_r⟩
  · replace hP := zE_n hP h1
    refine wz_i1 (Eq.trans (i3L (i3S (Eq.trans (zm_rd (Z := Z) (ν := ν) (k := 2) (show ((0 : Nat) : Int) = 0 from rfl) (show ((0 : Nat) : Int) = 0 from rfl) (show ((102 : Nat) : Int) = 102 from rfl)) (congrArg i3 ((hF 2 0 102 (by decide)).trans ((show frz 2 0 102 = 0 from by decide))))) (show (1 : Int32) = i3 1 from rfl)) (rfl : i3 a1 = i3 a1) (by omega) (by omega) (by omega) (by omega)) (decide_eq_true (by omega))) ?_
    obtain ⟨Z3, hZ3⟩ := zx (zu Z 1 0 0 2 1)
    have hZ3I := zI_u hZ hZ3 (lo := -2147483648) (hi := 2147483647) (by decide) rfl (by omega) ⟨by decide, by decide⟩ (Or.inr (by decide))
    have hZ3K : zK [1] Z Z3 := zK_u zK_r hZ3 (by decide)
    intro μ9 e9
    replace e9 := e9.trans (zm_wI (Z := Z) (ν := ν) hZ3 (show ((0 : Nat) : Int) = 0 from rfl) (show ((0 : Nat) : Int) = 0 from rfl) (show ((2 : Nat) : Int) = 2 from rfl) (show (1 : Int32) = i3 1 from rfl))
    subst e9
    exact zlM hP (show (0 : Int32) = i3 0 from rfl) (zu_at hZ3) ⟨hZ3I, hZ3K, zN_r⟩

/- yX12_takings -/
def zg_533 (a1 : Int) (a2 : Int) (a3 : Int) : Int × Int := (if a1 < 0 then (0, 1) else (0, 1))
theorem sg_533 {Z : qz_Z} {ν : qz_N} (hZ : zI none Z) (hF : zFm Z) {a1 : Int} (ga1 : -2147483648 ≤ a1 ∧ a1 ≤ 2147483647) {a2 : Int} (ga2 : -2147483648 ≤ a2 ∧ a2 ≤ 2147483647) {a3 : Int} (ga3 : -2147483648 ≤ a3 ∧ a3 ≤ 2147483647) : ∃ (Z1 : qz_Z) (ν1 : qz_N) (v t : Int), (v, t) = zg_533 a1 a2 a3 ∧ qf_533 [.inr (.inr (some (1, 0, 0))), .inl (i3 a1), .inl (i3 a2), .inl (i3 a3)] (zm Z ν) = some (zm Z1 ν1, .inl (some (.inl (i3 v)))) ∧ Z1 1 0 0 2 = t ∧ (fun Z1 ν1 => zI none Z1 ∧ zK [1] Z Z1 ∧ zN ν ν1) Z1 ν1 := by
  obtain ⟨P, hP⟩ := zx (zg_533 a1 a2 a3)
  refine zc_M (Q := fun Z1 ν1 => zI none Z1 ∧ zK [1] Z Z1 ∧ zN ν ν1) hP (fw_533 (i3 a1) (i3 a2) (i3 a3) _ _ ?_)
  replace hP : zE P (zg_533 a1 a2 a3) := hP
  unfold zg_533 at hP
  refine wz_br (i3L (rfl : i3 a1 = i3 a1) (show (0 : Int32) = i3 0 from rfl) (by omega) (by omega) (by omega) (by omega)) (fun h1 => ?_) (fun h1 => ?_)
  · replace hP := zE_p hP h1
    obtain ⟨Z2, hZ2⟩ := zx (zu Z 1 0 0 2 1)
    have hZ2I := zI_u hZ hZ2 (lo := -2147483648) (hi := 2147483647) (by decide) rfl (by omega) ⟨by decide, by decide⟩ (Or.inr (by decide))
    have hZ2K : zK [1] Z Z2 := zK_u zK_r hZ2 (by decide)
    intro μ9 e9
    replace e9 := e9.trans (zm_wI (Z := Z) (ν := ν) hZ2 (show ((0 : Nat) : Int) = 0 from rfl) (show ((0 : Nat) : Int) = 0 from rfl) (show ((2 : Nat) : Int) = 2 from rfl) (show (1 : Int32) = i3 1 from rfl))
    subst e9
    exact zlM hP (show (0 : Int32) = i3 0 from rfl) (zu_at hZ2) ⟨hZ2I, hZ2K, zN_r⟩
  · replace hP := zE_n hP h1
    refine wz_i1 (Eq.trans (i3L (i3S (Eq.trans (zm_rd (Z := Z) (ν := ν) (k := 2) (show ((0 : Nat) : Int) = 0 from rfl) (show ((0 : Nat) : Int) = 0 from rfl) (show ((3000 : Nat) : Int) = 3000 from rfl)) (congrArg i3 ((hF 2 0 3000 (by decide)).trans ((show frz 2 0 3000 = 0 from by decide))))) (show (1 : Int32) = i3 1 from rfl)) (rfl : i3 a1 = i3 a1) (by omega) (by omega) (by omega) (by omega)) (decide_eq_true (by omega))) ?_
    obtain ⟨Z3, hZ3⟩ := zx (zu Z 1 0 0 2 1)
    have hZ3I := zI_u hZ hZ3 (lo := -2147483648) (hi := 2147483647) (by decide) rfl (by omega) ⟨by decide, by decide⟩ (Or.inr (by decide))
    have hZ3K : zK [1] Z Z3 := zK_u zK_r hZ3 (by decide)
    intro μ9 e9
    replace e9 := e9.trans (zm_wI (Z := Z) (ν := ν) hZ3 (show ((0 : Nat) : Int) = 0 from rfl) (show ((0 : Nat) : Int) = 0 from rfl) (show ((2 : Nat) : Int) = 2 from rfl) (show (1 : Int32) = i3 1 from rfl))
    subst e9
    exact zlM hP (show (0 : Int32) = i3 0 from rfl) (zu_at hZ3) ⟨hZ3I, hZ3K, zN_r⟩

/- yX12_way -/
def zg_543 (a1 : Int) (a2 : Int) (a3 : Int) : Int × Int := (if a1 < 0 then (0, 1) else (if 5 < a1 then (0, 1) else (if a2 < 0 then (0, 1) else (if 5 < a2 then (0, 1) else (if a1 = a2 then (0, 2) else (if a3 < 1 then (0, 2) else (if 12 < a3 then (0, 2) else ((frz 2 0 (3210 + 6 * a1 + a2)), 0))))))))
theorem sg_543 {Z : qz_Z} {ν : qz_N} (hZ : zI none Z) (hF : zFm Z) {a1 : Int} (ga1 : -2147483648 ≤ a1 ∧ a1 ≤ 2147483647) {a2 : Int} (ga2 : -2147483648 ≤ a2 ∧ a2 ≤ 2147483647) {a3 : Int} (ga3 : -2147483648 ≤ a3 ∧ a3 ≤ 2147483647) (rrec : ∀ Z, qz_rm (zm Z ν) 1 0 0 36 = some (102, 0, 0)) : ∃ (Z1 : qz_Z) (ν1 : qz_N) (v t : Int), (v, t) = zg_543 a1 a2 a3 ∧ qf_543 [.inr (.inr (some (1, 0, 0))), .inl (i3 a1), .inl (i3 a2), .inl (i3 a3)] (zm Z ν) = some (zm Z1 ν1, .inl (some (.inl (i3 v)))) ∧ Z1 1 0 0 2 = t ∧ (fun Z1 ν1 => zI none Z1 ∧ zK [1, 2, 101, 102] Z Z1 ∧ zN ν ν1) Z1 ν1 := by
  obtain ⟨P, hP⟩ := zx (zg_543 a1 a2 a3)
  refine zc_M (Q := fun Z1 ν1 => zI none Z1 ∧ zK [1, 2, 101, 102] Z Z1 ∧ zN ν ν1) hP (fw_543 (i3 a1) (i3 a2) (i3 a3) _ _ ?_)
  replace hP : zE P (zg_543 a1 a2 a3) := hP
  unfold zg_543 at hP
  refine wz_br (i3L (rfl : i3 a1 = i3 a1) (show (0 : Int32) = i3 0 from rfl) (by omega) (by omega) (by omega) (by omega)) (fun h1 => ?_) (fun h1 => ?_)
  · replace hP := zE_p hP h1
    obtain ⟨Z2, hZ2⟩ := zx (zu Z 1 0 0 2 1)
    have hZ2I := zI_u hZ hZ2 (lo := -2147483648) (hi := 2147483647) (by decide) rfl (by omega) ⟨by decide, by decide⟩ (Or.inr (by decide))
    have hZ2K : zK [1, 2, 101, 102] Z Z2 := zK_u zK_r hZ2 (by decide)
    intro μ9 e9
    replace e9 := e9.trans (zm_wI (Z := Z) (ν := ν) hZ2 (show ((0 : Nat) : Int) = 0 from rfl) (show ((0 : Nat) : Int) = 0 from rfl) (show ((2 : Nat) : Int) = 2 from rfl) (show (1 : Int32) = i3 1 from rfl))
    subst e9
    exact zlM hP (show (0 : Int32) = i3 0 from rfl) (zu_at hZ2) ⟨hZ2I, hZ2K, zN_r⟩
  · replace hP := zE_n hP h1
    refine wz_br (i3L (show (5 : Int32) = i3 5 from rfl) (rfl : i3 a1 = i3 a1) (by omega) (by omega) (by omega) (by omega)) (fun h3 => ?_) (fun h3 => ?_)
    · replace hP := zE_p hP h3
      obtain ⟨Z4, hZ4⟩ := zx (zu Z 1 0 0 2 1)
      have hZ4I := zI_u hZ hZ4 (lo := -2147483648) (hi := 2147483647) (by decide) rfl (by omega) ⟨by decide, by decide⟩ (Or.inr (by decide))
      have hZ4K : zK [1, 2, 101, 102] Z Z4 := zK_u zK_r hZ4 (by decide)
      intro μ9 e9
      replace e9 := e9.trans (zm_wI (Z := Z) (ν := ν) hZ4 (show ((0 : Nat) : Int) = 0 from rfl) (show ((0 : Nat) : Int) = 0 from rfl) (show ((2 : Nat) : Int) = 2 from rfl) (show (1 : Int32) = i3 1 from rfl))
      subst e9
      exact zlM hP (show (0 : Int32) = i3 0 from rfl) (zu_at hZ4) ⟨hZ4I, hZ4K, zN_r⟩
    · replace hP := zE_n hP h3
      refine wz_br (i3L (rfl : i3 a2 = i3 a2) (show (0 : Int32) = i3 0 from rfl) (by omega) (by omega) (by omega) (by omega)) (fun h5 => ?_) (fun h5 => ?_)
      · replace hP := zE_p hP h5
        obtain ⟨Z6, hZ6⟩ := zx (zu Z 1 0 0 2 1)
        have hZ6I := zI_u hZ hZ6 (lo := -2147483648) (hi := 2147483647) (by decide) rfl (by omega) ⟨by decide, by decide⟩ (Or.inr (by decide))
        have hZ6K : zK [1, 2, 101, 102] Z Z6 := zK_u zK_r hZ6 (by decide)
        intro μ9 e9
        replace e9 := e9.trans (zm_wI (Z := Z) (ν := ν) hZ6 (show ((0 : Nat) : Int) = 0 from rfl) (show ((0 : Nat) : Int) = 0 from rfl) (show ((2 : Nat) : Int) = 2 from rfl) (show (1 : Int32) = i3 1 from rfl))
        subst e9
        exact zlM hP (show (0 : Int32) = i3 0 from rfl) (zu_at hZ6) ⟨hZ6I, hZ6K, zN_r⟩
      · replace hP := zE_n hP h5
        refine wz_br (i3L (show (5 : Int32) = i3 5 from rfl) (rfl : i3 a2 = i3 a2) (by omega) (by omega) (by omega) (by omega)) (fun h7 => ?_) (fun h7 => ?_)
        · replace hP := zE_p hP h7
          obtain ⟨Z8, hZ8⟩ := zx (zu Z 1 0 0 2 1)
          have hZ8I := zI_u hZ hZ8 (lo := -2147483648) (hi := 2147483647) (by decide) rfl (by omega) ⟨by decide, by decide⟩ (Or.inr (by decide))
          have hZ8K : zK [1, 2, 101, 102] Z Z8 := zK_u zK_r hZ8 (by decide)
          intro μ9 e9
          replace e9 := e9.trans (zm_wI (Z := Z) (ν := ν) hZ8 (show ((0 : Nat) : Int) = 0 from rfl) (show ((0 : Nat) : Int) = 0 from rfl) (show ((2 : Nat) : Int) = 2 from rfl) (show (1 : Int32) = i3 1 from rfl))
          subst e9
          exact zlM hP (show (0 : Int32) = i3 0 from rfl) (zu_at hZ8) ⟨hZ8I, hZ8K, zN_r⟩
        · replace hP := zE_n hP h7
          obtain ⟨Z9, hZ9⟩ := zx (zu Z 1 0 0 2 0)
          have hZ9I := zI_0 hZ hZ9 (by decide) (Or.inr (by decide))
          have hZ9K : zK [1, 2, 101, 102] Z Z9 := zK_u zK_r hZ9 (by decide)
          intro μ9 e9
          replace e9 := e9.trans (zm_wI (Z := Z) (ν := ν) hZ9 (show ((0 : Nat) : Int) = 0 from rfl) (show ((0 : Nat) : Int) = 0 from rfl) (show ((2 : Nat) : Int) = 2 from rfl) (show (0 : Int32) = i3 0 from rfl))
          subst e9
          refine wz_br (i3E (rfl : i3 a1 = i3 a1) (rfl : i3 a2 = i3 a2) (by omega) (by omega) (by omega) (by omega)) (fun h10 => ?_) (fun h10 => ?_)
          · replace hP := zE_p hP h10
            obtain ⟨Z11, hZ11⟩ := zx (zu Z9 1 0 0 2 2)
            have hZ11I := zI_u hZ9I hZ11 (lo := -2147483648) (hi := 2147483647) (by decide) rfl (by omega) ⟨by decide, by decide⟩ (Or.inr (by decide))
            have hZ11K := zK_u hZ9K hZ11 (by decide)
            intro μ9 e9
            replace e9 := e9.trans (zm_wI (Z := Z9) (ν := ν) hZ11 (show ((0 : Nat) : Int) = 0 from rfl) (show ((0 : Nat) : Int) = 0 from rfl) (show ((2 : Nat) : Int) = 2 from rfl) (show (2 : Int32) = i3 2 from rfl))
            subst e9
            exact zlM hP (show (0 : Int32) = i3 0 from rfl) (zu_at hZ11) ⟨hZ11I, hZ11K, zN_r⟩
          · replace hP := zE_n hP h10
            refine wz_br (i3L (rfl : i3 a3 = i3 a3) (show (1 : Int32) = i3 1 from rfl) (by omega) (by omega) (by omega) (by omega)) (fun h12 => ?_) (fun h12 => ?_)
            · replace hP := zE_p hP h12
              obtain ⟨Z13, hZ13⟩ := zx (zu Z9 1 0 0 2 2)
              have hZ13I := zI_u hZ9I hZ13 (lo := -2147483648) (hi := 2147483647) (by decide) rfl (by omega) ⟨by decide, by decide⟩ (Or.inr (by decide))
              have hZ13K := zK_u hZ9K hZ13 (by decide)
              intro μ9 e9
              replace e9 := e9.trans (zm_wI (Z := Z9) (ν := ν) hZ13 (show ((0 : Nat) : Int) = 0 from rfl) (show ((0 : Nat) : Int) = 0 from rfl) (show ((2 : Nat) : Int) = 2 from rfl) (show (2 : Int32) = i3 2 from rfl))
              subst e9
              exact zlM hP (show (0 : Int32) = i3 0 from rfl) (zu_at hZ13) ⟨hZ13I, hZ13K, zN_r⟩
            · replace hP := zE_n hP h12
              refine wz_br (i3L (show (12 : Int32) = i3 12 from rfl) (rfl : i3 a3 = i3 a3) (by omega) (by omega) (by omega) (by omega)) (fun h14 => ?_) (fun h14 => ?_)
              · replace hP := zE_p hP h14
                obtain ⟨Z15, hZ15⟩ := zx (zu Z9 1 0 0 2 2)
                have hZ15I := zI_u hZ9I hZ15 (lo := -2147483648) (hi := 2147483647) (by decide) rfl (by omega) ⟨by decide, by decide⟩ (Or.inr (by decide))
                have hZ15K := zK_u hZ9K hZ15 (by decide)
                intro μ9 e9
                replace e9 := e9.trans (zm_wI (Z := Z9) (ν := ν) hZ15 (show ((0 : Nat) : Int) = 0 from rfl) (show ((0 : Nat) : Int) = 0 from rfl) (show ((2 : Nat) : Int) = 2 from rfl) (show (2 : Int32) = i3 2 from rfl))
                subst e9
                exact zlM hP (show (0 : Int32) = i3 0 from rfl) (zu_at hZ15) ⟨hZ15I, hZ15K, zN_r⟩
              · replace hP := zE_n hP h14
                obtain ⟨Z16, hZ16⟩ := zx (zu Z9 1 0 0 2 0)
                have hZ16I := zI_0 hZ9I hZ16 (by decide) (Or.inr (by decide))
                have hZ16K := zK_u hZ9K hZ16 (by decide)
                intro μ9 e9
                replace e9 := e9.trans (zm_wI (Z := Z9) (ν := ν) hZ16 (show ((0 : Nat) : Int) = 0 from rfl) (show ((0 : Nat) : Int) = 0 from rfl) (show ((2 : Nat) : Int) = 2 from rfl) (show (0 : Int32) = i3 0 from rfl))
                subst e9
                refine wz_i0 (Eq.trans (i3NE (Eq.trans (zm_rd (Z := Z16) (ν := ν) (k := 1) (show ((0 : Nat) : Int) = 0 from rfl) (show ((0 : Nat) : Int) = 0 from rfl) (show ((35 : Nat) : Int) = 35 from rfl)) (congrArg i3 ((zu_ne (k' := 1) (b' := 0) (i' := 0) (j' := 35) hZ16 (fun q => absurd q.2.2.2 (by decide))).trans ((zu_ne (k' := 1) (b' := 0) (i' := 0) (j' := 35) hZ9 (fun q => absurd q.2.2.2 (by decide))).trans ((hF 1 0 35 (by decide)).trans ((show frz 1 0 35 = 0 from by decide))))))) (show (0 : Int32) = i3 0 from rfl) (by omega) (by omega) (by omega) (by omega)) (decide_eq_false (by omega))) ?_
                have e17 : Z16 1 0 0 34 = 0 := (zu_ne (k' := 1) (b' := 0) (i' := 0) (j' := 34) hZ16 (fun q => absurd q.2.2.2 (by decide))).trans ((zu_ne (k' := 1) (b' := 0) (i' := 0) (j' := 34) hZ9 (fun q => absurd q.2.2.2 (by decide))).trans ((hF 1 0 34 (by decide)).trans ((show frz 1 0 34 = 0 from by decide))))
                obtain ⟨Z18, hZ18, c9, hZ18I, kZ18, wZ180, wZ181, wZ182⟩ := sp_557 (ν := ν) hZ16I (a1 := (-1)) (by omega) (by omega)
                have hZ18K : zK [1, 2, 101, 102] Z Z18 := zK_t hZ16K kZ18 (by decide)
                refine wz_cV_of (zas (zcons rfl (zcons (zvi (show (-1 : Int32) = i3 (-1) from rfl)) rfl)) c9) ?_
                clear c9
                have e19 : Z18 1 0 0 37 = 0 := (wZ182).trans ((zu_ne (k' := 1) (b' := 0) (i' := 0) (j' := 37) hZ16 (fun q => absurd q.2.2.2 (by decide))).trans ((zu_ne (k' := 1) (b' := 0) (i' := 0) (j' := 37) hZ9 (fun q => absurd q.2.2.2 (by decide))).trans ((hF 1 0 37 (by decide)).trans ((show frz 1 0 37 = 0 from by decide)))))
                obtain ⟨Z20, hZ20, c9, hZ20I, kZ20, wZ200, wZ201⟩ := sp_563 (ν := ν) hZ18I (a1 := 18) (by omega) (a2 := a1) (by omega) (a3 := a2) (by omega) (a4 := a3) (by omega) (a5 := 0) (by omega) (a6 := 0) (by omega) (a7 := 0) (by omega) (by omega) rrec
                have hZ20K : zK [1, 2, 101, 102] Z Z20 := zK_t hZ18K kZ20 (by decide)
                refine wz_cV_of (zas (zcons rfl (zcons (zvi (show (18 : Int32) = i3 18 from rfl)) (zcons (zvi (rfl : i3 a1 = i3 a1)) (zcons (zvi (rfl : i3 a2 = i3 a2)) (zcons (zvi (rfl : i3 a3 = i3 a3)) (zcons (zvi (show (0 : Int32) = i3 0 from rfl)) (zcons (zvi (show (0 : Int32) = i3 0 from rfl)) (zcons (zvi (show (0 : Int32) = i3 0 from rfl)) rfl)))))))) c9) ?_
                clear c9
                refine wz_i0 (i3O (n := 4400) (i3A (i3A (show (3210 : Int32) = i3 3210 from rfl) (i3M (show (6 : Int32) = i3 6 from rfl) (rfl : i3 a1 = i3 a1))) (rfl : i3 a2 = i3 a2)) (by omega) (by omega) (by omega)) ?_
                refine wz_i0 (i3O (n := 4400) (i3A (i3A (show (3210 : Int32) = i3 3210 from rfl) (i3M (show (6 : Int32) = i3 6 from rfl) (rfl : i3 a1 = i3 a1))) (rfl : i3 a2 = i3 a2)) (by omega) (by omega) (by omega)) ?_
                obtain ⟨Z21, hZ21⟩ := zx (zu Z20 2 0 0 (3210 + 6 * a1 + a2) a3)
                have hZ21I := zI_u hZ20I hZ21 (lo := 0) (hi := 12) (by decide) (zs_3210 (by omega) (by omega)) (by omega) ⟨by decide, by decide⟩ (Or.inl (by decide))
                have hZ21K := zK_u hZ20K hZ21 (by decide)
                intro μ9 e9
                replace e9 := e9.trans (zm_wI (Z := Z20) (ν := ν) hZ21 (show ((0 : Nat) : Int) = 0 from rfl) (show ((0 : Nat) : Int) = 0 from rfl) (i3I (y := (3210 + 6 * a1 + a2)) (i3A (i3A (show (3210 : Int32) = i3 3210 from rfl) (i3M (show (6 : Int32) = i3 6 from rfl) (rfl : i3 a1 = i3 a1))) (rfl : i3 a2 = i3 a2)) (by omega) (by omega) (by omega)) (rfl : i3 a3 = i3 a3))
                subst e9
                refine wz_i0 (i3O (n := 4400) (i3A (i3A (show (3210 : Int32) = i3 3210 from rfl) (i3M (show (6 : Int32) = i3 6 from rfl) (rfl : i3 a2 = i3 a2))) (rfl : i3 a1 = i3 a1)) (by omega) (by omega) (by omega)) ?_
                obtain ⟨Z22, hZ22⟩ := zx (zu Z21 2 0 0 (3210 + 6 * a2 + a1) a3)
                have hZ22I := zI_u hZ21I hZ22 (lo := 0) (hi := 12) (by decide) (zs_3210 (by omega) (by omega)) (by omega) ⟨by decide, by decide⟩ (Or.inl (by decide))
                have hZ22K := zK_u hZ21K hZ22 (by decide)
                intro μ9 e9
                replace e9 := e9.trans (zm_wI (Z := Z21) (ν := ν) hZ22 (show ((0 : Nat) : Int) = 0 from rfl) (show ((0 : Nat) : Int) = 0 from rfl) (i3I (y := (3210 + 6 * a2 + a1)) (i3A (i3A (show (3210 : Int32) = i3 3210 from rfl) (i3M (show (6 : Int32) = i3 6 from rfl) (rfl : i3 a2 = i3 a2))) (rfl : i3 a1 = i3 a1)) (by omega) (by omega) (by omega)) (rfl : i3 a3 = i3 a3))
                subst e9
                have r23 := frz_r 2 0 (3210 + 6 * a1 + a2)
                exact zlM hP (Eq.trans (zm_rd (Z := Z20) (ν := ν) (k := 2) (show ((0 : Nat) : Int) = 0 from rfl) (show ((0 : Nat) : Int) = 0 from rfl) (i3I (y := (3210 + 6 * a1 + a2)) (i3A (i3A (show (3210 : Int32) = i3 3210 from rfl) (i3M (show (6 : Int32) = i3 6 from rfl) (rfl : i3 a1 = i3 a1))) (rfl : i3 a2 = i3 a2)) (by omega) (by omega) (by omega))) (congrArg i3 ((kZ20 2 (by decide) 0 0 (3210 + 6 * a1 + a2)).trans ((kZ18 2 (by decide) 0 0 (3210 + 6 * a1 + a2)).trans ((zu_ne (k' := 2) (b' := 0) (i' := 0) (j' := (3210 + 6 * a1 + a2)) hZ16 (fun q => absurd q.1 (by decide))).trans ((zu_ne (k' := 2) (b' := 0) (i' := 0) (j' := (3210 + 6 * a1 + a2)) hZ9 (fun q => absurd q.1 (by decide))).trans (hF 2 0 (3210 + 6 * a1 + a2) (by decide)))))))) ((zu_ne (k' := 1) (b' := 0) (i' := 0) (j' := 2) hZ22 (fun q => absurd q.1 (by decide))).trans ((zu_ne (k' := 1) (b' := 0) (i' := 0) (j' := 2) hZ21 (fun q => absurd q.1 (by decide))).trans ((wZ200).trans ((wZ180).trans (zu_at hZ16))))) ⟨hZ22I, hZ22K, zN_r⟩

/- yX12_load -/
def zg_426 (a1 : Int) (a2 : Int) : Int × Int := (if a1 < 0 then (0, 1) else (0, 1))
theorem sg_426 {Z : qz_Z} {ν : qz_N} (hZ : zI none Z) (hF : zFm Z) {a1 : Int} (ga1 : -2147483648 ≤ a1 ∧ a1 ≤ 2147483647) {a2 : Int} (ga2 : -2147483648 ≤ a2 ∧ a2 ≤ 2147483647) : ∃ (Z1 : qz_Z) (ν1 : qz_N) (v t : Int), (v, t) = zg_426 a1 a2 ∧ qf_426 [.inr (.inr (some (1, 0, 0))), .inl (i3 a1), .inl (i3 a2)] (zm Z ν) = some (zm Z1 ν1, .inl (some (.inl (i3 v)))) ∧ Z1 1 0 0 2 = t ∧ (fun Z1 ν1 => zI none Z1 ∧ zK [1] Z Z1 ∧ zN ν ν1) Z1 ν1 := by
  obtain ⟨P, hP⟩ := zx (zg_426 a1 a2)
  refine zc_M (Q := fun Z1 ν1 => zI none Z1 ∧ zK [1] Z Z1 ∧ zN ν ν1) hP (fw_426 (i3 a1) (i3 a2) _ _ ?_)
  replace hP : zE P (zg_426 a1 a2) := hP
  unfold zg_426 at hP
  refine wz_br (i3L (rfl : i3 a1 = i3 a1) (show (0 : Int32) = i3 0 from rfl) (by omega) (by omega) (by omega) (by omega)) (fun h1 => ?_) (fun h1 => ?_)
  · replace hP := zE_p hP h1
    obtain ⟨Z2, hZ2⟩ := zx (zu Z 1 0 0 2 1)
    have hZ2I := zI_u hZ hZ2 (lo := -2147483648) (hi := 2147483647) (by decide) rfl (by omega) ⟨by decide, by decide⟩ (Or.inr (by decide))
    have hZ2K : zK [1] Z Z2 := zK_u zK_r hZ2 (by decide)
    intro μ9 e9
    replace e9 := e9.trans (zm_wI (Z := Z) (ν := ν) hZ2 (show ((0 : Nat) : Int) = 0 from rfl) (show ((0 : Nat) : Int) = 0 from rfl) (show ((2 : Nat) : Int) = 2 from rfl) (show (1 : Int32) = i3 1 from rfl))
    subst e9
    exact zlM hP (show (0 : Int32) = i3 0 from rfl) (zu_at hZ2) ⟨hZ2I, hZ2K, zN_r⟩
  · replace hP := zE_n hP h1
    refine wz_i1 (Eq.trans (i3L (i3S (Eq.trans (zm_rd (Z := Z) (ν := ν) (k := 2) (show ((0 : Nat) : Int) = 0 from rfl) (show ((0 : Nat) : Int) = 0 from rfl) (show ((2000 : Nat) : Int) = 2000 from rfl)) (congrArg i3 ((hF 2 0 2000 (by decide)).trans ((show frz 2 0 2000 = 0 from by decide))))) (show (1 : Int32) = i3 1 from rfl)) (rfl : i3 a1 = i3 a1) (by omega) (by omega) (by omega) (by omega)) (decide_eq_true (by omega))) ?_
    obtain ⟨Z3, hZ3⟩ := zx (zu Z 1 0 0 2 1)
    have hZ3I := zI_u hZ hZ3 (lo := -2147483648) (hi := 2147483647) (by decide) rfl (by omega) ⟨by decide, by decide⟩ (Or.inr (by decide))
    have hZ3K : zK [1] Z Z3 := zK_u zK_r hZ3 (by decide)
    intro μ9 e9
    replace e9 := e9.trans (zm_wI (Z := Z) (ν := ν) hZ3 (show ((0 : Nat) : Int) = 0 from rfl) (show ((0 : Nat) : Int) = 0 from rfl) (show ((2 : Nat) : Int) = 2 from rfl) (show (1 : Int32) = i3 1 from rfl))
    subst e9
    exact zlM hP (show (0 : Int32) = i3 0 from rfl) (zu_at hZ3) ⟨hZ3I, hZ3K, zN_r⟩

/- yX12_parcel -/
def zg_449 (a1 : Int) (a2 : Int) : Int × Int := (if a1 < 0 then (0, 1) else (0, 1))
theorem sg_449 {Z : qz_Z} {ν : qz_N} (hZ : zI none Z) (hF : zFm Z) {a1 : Int} (ga1 : -2147483648 ≤ a1 ∧ a1 ≤ 2147483647) {a2 : Int} (ga2 : -2147483648 ≤ a2 ∧ a2 ≤ 2147483647) : ∃ (Z1 : qz_Z) (ν1 : qz_N) (v t : Int), (v, t) = zg_449 a1 a2 ∧ qf_449 [.inr (.inr (some (1, 0, 0))), .inl (i3 a1), .inl (i3 a2)] (zm Z ν) = some (zm Z1 ν1, .inl (some (.inl (i3 v)))) ∧ Z1 1 0 0 2 = t ∧ (fun Z1 ν1 => zI none Z1 ∧ zK [1] Z Z1 ∧ zN ν ν1) Z1 ν1 := by
  obtain ⟨P, hP⟩ := zx (zg_449 a1 a2)
  refine zc_M (Q := fun Z1 ν1 => zI none Z1 ∧ zK [1] Z Z1 ∧ zN ν ν1) hP (fw_449 (i3 a1) (i3 a2) _ _ ?_)
  replace hP : zE P (zg_449 a1 a2) := hP
  unfold zg_449 at hP
  refine wz_br (i3L (rfl : i3 a1 = i3 a1) (show (0 : Int32) = i3 0 from rfl) (by omega) (by omega) (by omega) (by omega)) (fun h1 => ?_) (fun h1 => ?_)
  · replace hP := zE_p hP h1
    obtain ⟨Z2, hZ2⟩ := zx (zu Z 1 0 0 2 1)
    have hZ2I := zI_u hZ hZ2 (lo := -2147483648) (hi := 2147483647) (by decide) rfl (by omega) ⟨by decide, by decide⟩ (Or.inr (by decide))
    have hZ2K : zK [1] Z Z2 := zK_u zK_r hZ2 (by decide)
    intro μ9 e9
    replace e9 := e9.trans (zm_wI (Z := Z) (ν := ν) hZ2 (show ((0 : Nat) : Int) = 0 from rfl) (show ((0 : Nat) : Int) = 0 from rfl) (show ((2 : Nat) : Int) = 2 from rfl) (show (1 : Int32) = i3 1 from rfl))
    subst e9
    exact zlM hP (show (0 : Int32) = i3 0 from rfl) (zu_at hZ2) ⟨hZ2I, hZ2K, zN_r⟩
  · replace hP := zE_n hP h1
    refine wz_i1 (Eq.trans (i3L (i3S (Eq.trans (zm_rd (Z := Z) (ν := ν) (k := 2) (show ((0 : Nat) : Int) = 0 from rfl) (show ((0 : Nat) : Int) = 0 from rfl) (show ((2000 : Nat) : Int) = 2000 from rfl)) (congrArg i3 ((hF 2 0 2000 (by decide)).trans ((show frz 2 0 2000 = 0 from by decide))))) (show (1 : Int32) = i3 1 from rfl)) (rfl : i3 a1 = i3 a1) (by omega) (by omega) (by omega) (by omega)) (decide_eq_true (by omega))) ?_
    obtain ⟨Z3, hZ3⟩ := zx (zu Z 1 0 0 2 1)
    have hZ3I := zI_u hZ hZ3 (lo := -2147483648) (hi := 2147483647) (by decide) rfl (by omega) ⟨by decide, by decide⟩ (Or.inr (by decide))
    have hZ3K : zK [1] Z Z3 := zK_u zK_r hZ3 (by decide)
    intro μ9 e9
    replace e9 := e9.trans (zm_wI (Z := Z) (ν := ν) hZ3 (show ((0 : Nat) : Int) = 0 from rfl) (show ((0 : Nat) : Int) = 0 from rfl) (show ((2 : Nat) : Int) = 2 from rfl) (show (1 : Int32) = i3 1 from rfl))
    subst e9
    exact zlM hP (show (0 : Int32) = i3 0 from rfl) (zu_at hZ3) ⟨hZ3I, hZ3K, zN_r⟩

/- yX12_inspector -/
def zg_377 (a1 : Int) (a2 : Int) : Int × Int := (if a1 < 0 then (0, 1) else (if 18 < a1 then (0, 1) else (if a2 < 0 then (0, 1) else (if 3 < a2 then (0, 1) else (0, 0)))))
theorem sg_377 {Z : qz_Z} {ν : qz_N} (hZ : zI none Z) (hF : zFm Z) {a1 : Int} (ga1 : -2147483648 ≤ a1 ∧ a1 ≤ 2147483647) {a2 : Int} (ga2 : -2147483648 ≤ a2 ∧ a2 ≤ 2147483647) (rrec : ∀ Z, qz_rm (zm Z ν) 1 0 0 36 = some (102, 0, 0)) : ∃ (Z1 : qz_Z) (ν1 : qz_N) (v t : Int), (v, t) = zg_377 a1 a2 ∧ qf_377 [.inr (.inr (some (1, 0, 0))), .inl (i3 a1), .inl (i3 a2)] (zm Z ν) = some (zm Z1 ν1, .inl (some (.inl (i3 v)))) ∧ Z1 1 0 0 2 = t ∧ (fun Z1 ν1 => zI none Z1 ∧ zK [1, 2, 101, 102] Z Z1 ∧ zN ν ν1) Z1 ν1 := by
  obtain ⟨P, hP⟩ := zx (zg_377 a1 a2)
  refine zc_M (Q := fun Z1 ν1 => zI none Z1 ∧ zK [1, 2, 101, 102] Z Z1 ∧ zN ν ν1) hP (fw_377 (i3 a1) (i3 a2) _ _ ?_)
  replace hP : zE P (zg_377 a1 a2) := hP
  unfold zg_377 at hP
  refine wz_br (i3L (rfl : i3 a1 = i3 a1) (show (0 : Int32) = i3 0 from rfl) (by omega) (by omega) (by omega) (by omega)) (fun h1 => ?_) (fun h1 => ?_)
  · replace hP := zE_p hP h1
    obtain ⟨Z2, hZ2⟩ := zx (zu Z 1 0 0 2 1)
    have hZ2I := zI_u hZ hZ2 (lo := -2147483648) (hi := 2147483647) (by decide) rfl (by omega) ⟨by decide, by decide⟩ (Or.inr (by decide))
    have hZ2K : zK [1, 2, 101, 102] Z Z2 := zK_u zK_r hZ2 (by decide)
    intro μ9 e9
    replace e9 := e9.trans (zm_wI (Z := Z) (ν := ν) hZ2 (show ((0 : Nat) : Int) = 0 from rfl) (show ((0 : Nat) : Int) = 0 from rfl) (show ((2 : Nat) : Int) = 2 from rfl) (show (1 : Int32) = i3 1 from rfl))
    subst e9
    exact zlM hP (show (0 : Int32) = i3 0 from rfl) (zu_at hZ2) ⟨hZ2I, hZ2K, zN_r⟩
  · replace hP := zE_n hP h1
    refine wz_br (i3L (show (18 : Int32) = i3 18 from rfl) (rfl : i3 a1 = i3 a1) (by omega) (by omega) (by omega) (by omega)) (fun h3 => ?_) (fun h3 => ?_)
    · replace hP := zE_p hP h3
      obtain ⟨Z4, hZ4⟩ := zx (zu Z 1 0 0 2 1)
      have hZ4I := zI_u hZ hZ4 (lo := -2147483648) (hi := 2147483647) (by decide) rfl (by omega) ⟨by decide, by decide⟩ (Or.inr (by decide))
      have hZ4K : zK [1, 2, 101, 102] Z Z4 := zK_u zK_r hZ4 (by decide)
      intro μ9 e9
      replace e9 := e9.trans (zm_wI (Z := Z) (ν := ν) hZ4 (show ((0 : Nat) : Int) = 0 from rfl) (show ((0 : Nat) : Int) = 0 from rfl) (show ((2 : Nat) : Int) = 2 from rfl) (show (1 : Int32) = i3 1 from rfl))
      subst e9
      exact zlM hP (show (0 : Int32) = i3 0 from rfl) (zu_at hZ4) ⟨hZ4I, hZ4K, zN_r⟩
    · replace hP := zE_n hP h3
      refine wz_br (i3L (rfl : i3 a2 = i3 a2) (show (0 : Int32) = i3 0 from rfl) (by omega) (by omega) (by omega) (by omega)) (fun h5 => ?_) (fun h5 => ?_)
      · replace hP := zE_p hP h5
        obtain ⟨Z6, hZ6⟩ := zx (zu Z 1 0 0 2 1)
        have hZ6I := zI_u hZ hZ6 (lo := -2147483648) (hi := 2147483647) (by decide) rfl (by omega) ⟨by decide, by decide⟩ (Or.inr (by decide))
        have hZ6K : zK [1, 2, 101, 102] Z Z6 := zK_u zK_r hZ6 (by decide)
        intro μ9 e9
        replace e9 := e9.trans (zm_wI (Z := Z) (ν := ν) hZ6 (show ((0 : Nat) : Int) = 0 from rfl) (show ((0 : Nat) : Int) = 0 from rfl) (show ((2 : Nat) : Int) = 2 from rfl) (show (1 : Int32) = i3 1 from rfl))
        subst e9
        exact zlM hP (show (0 : Int32) = i3 0 from rfl) (zu_at hZ6) ⟨hZ6I, hZ6K, zN_r⟩
      · replace hP := zE_n hP h5
        refine wz_br (i3L (show (3 : Int32) = i3 3 from rfl) (rfl : i3 a2 = i3 a2) (by omega) (by omega) (by omega) (by omega)) (fun h7 => ?_) (fun h7 => ?_)
        · replace hP := zE_p hP h7
          obtain ⟨Z8, hZ8⟩ := zx (zu Z 1 0 0 2 1)
          have hZ8I := zI_u hZ hZ8 (lo := -2147483648) (hi := 2147483647) (by decide) rfl (by omega) ⟨by decide, by decide⟩ (Or.inr (by decide))
          have hZ8K : zK [1, 2, 101, 102] Z Z8 := zK_u zK_r hZ8 (by decide)
          intro μ9 e9
          replace e9 := e9.trans (zm_wI (Z := Z) (ν := ν) hZ8 (show ((0 : Nat) : Int) = 0 from rfl) (show ((0 : Nat) : Int) = 0 from rfl) (show ((2 : Nat) : Int) = 2 from rfl) (show (1 : Int32) = i3 1 from rfl))
          subst e9
          exact zlM hP (show (0 : Int32) = i3 0 from rfl) (zu_at hZ8) ⟨hZ8I, hZ8K, zN_r⟩
        · replace hP := zE_n hP h7
          obtain ⟨Z9, hZ9⟩ := zx (zu Z 1 0 0 2 0)
          have hZ9I := zI_0 hZ hZ9 (by decide) (Or.inr (by decide))
          have hZ9K : zK [1, 2, 101, 102] Z Z9 := zK_u zK_r hZ9 (by decide)
          intro μ9 e9
          replace e9 := e9.trans (zm_wI (Z := Z) (ν := ν) hZ9 (show ((0 : Nat) : Int) = 0 from rfl) (show ((0 : Nat) : Int) = 0 from rfl) (show ((2 : Nat) : Int) = 2 from rfl) (show (0 : Int32) = i3 0 from rfl))
          subst e9
          refine wz_i0 (Eq.trans (i3Le (show (2 : Int32) = i3 2 from rfl) (Eq.trans (zm_rd (Z := Z9) (ν := ν) (k := 2) (show ((0 : Nat) : Int) = 0 from rfl) (show ((0 : Nat) : Int) = 0 from rfl) (show ((3500 : Nat) : Int) = 3500 from rfl)) (congrArg i3 ((zu_ne (k' := 2) (b' := 0) (i' := 0) (j' := 3500) hZ9 (fun q => absurd q.1 (by decide))).trans ((hF 2 0 3500 (by decide)).trans ((show frz 2 0 3500 = 0 from by decide)))))) (by omega) (by omega) (by omega) (by omega)) (decide_eq_false (by omega))) ?_
          obtain ⟨Z10, hZ10⟩ := zx (zu Z9 1 0 0 2 0)
          have hZ10I := zI_0 hZ9I hZ10 (by decide) (Or.inr (by decide))
          have hZ10K := zK_u hZ9K hZ10 (by decide)
          intro μ9 e9
          replace e9 := e9.trans (zm_wI (Z := Z9) (ν := ν) hZ10 (show ((0 : Nat) : Int) = 0 from rfl) (show ((0 : Nat) : Int) = 0 from rfl) (show ((2 : Nat) : Int) = 2 from rfl) (show (0 : Int32) = i3 0 from rfl))
          subst e9
          refine wz_i0 (Eq.trans (i3NE (Eq.trans (zm_rd (Z := Z10) (ν := ν) (k := 1) (show ((0 : Nat) : Int) = 0 from rfl) (show ((0 : Nat) : Int) = 0 from rfl) (show ((35 : Nat) : Int) = 35 from rfl)) (congrArg i3 ((zu_ne (k' := 1) (b' := 0) (i' := 0) (j' := 35) hZ10 (fun q => absurd q.2.2.2 (by decide))).trans ((zu_ne (k' := 1) (b' := 0) (i' := 0) (j' := 35) hZ9 (fun q => absurd q.2.2.2 (by decide))).trans ((hF 1 0 35 (by decide)).trans ((show frz 1 0 35 = 0 from by decide))))))) (show (0 : Int32) = i3 0 from rfl) (by omega) (by omega) (by omega) (by omega)) (decide_eq_false (by omega))) ?_
          have e11 : Z10 1 0 0 34 = 0 := (zu_ne (k' := 1) (b' := 0) (i' := 0) (j' := 34) hZ10 (fun q => absurd q.2.2.2 (by decide))).trans ((zu_ne (k' := 1) (b' := 0) (i' := 0) (j' := 34) hZ9 (fun q => absurd q.2.2.2 (by decide))).trans ((hF 1 0 34 (by decide)).trans ((show frz 1 0 34 = 0 from by decide))))
          obtain ⟨Z12, hZ12, c9, hZ12I, kZ12, wZ120, wZ121, wZ122⟩ := sp_557 (ν := ν) hZ10I (a1 := (-1)) (by omega) (by omega)
          have hZ12K : zK [1, 2, 101, 102] Z Z12 := zK_t hZ10K kZ12 (by decide)
          refine wz_cV_of (zas (zcons rfl (zcons (zvi (show (-1 : Int32) = i3 (-1) from rfl)) rfl)) c9) ?_
          clear c9
          have e13 : Z12 1 0 0 37 = 0 := (wZ122).trans ((zu_ne (k' := 1) (b' := 0) (i' := 0) (j' := 37) hZ10 (fun q => absurd q.2.2.2 (by decide))).trans ((zu_ne (k' := 1) (b' := 0) (i' := 0) (j' := 37) hZ9 (fun q => absurd q.2.2.2 (by decide))).trans ((hF 1 0 37 (by decide)).trans ((show frz 1 0 37 = 0 from by decide)))))
          obtain ⟨Z14, hZ14, c9, hZ14I, kZ14, wZ140, wZ141⟩ := sp_563 (ν := ν) hZ12I (a1 := 23) (by omega) (a2 := a1) (by omega) (a3 := a2) (by omega) (a4 := 0) (by omega) (a5 := 0) (by omega) (a6 := 0) (by omega) (a7 := 0) (by omega) (by omega) rrec
          have hZ14K : zK [1, 2, 101, 102] Z Z14 := zK_t hZ12K kZ14 (by decide)
          refine wz_cV_of (zas (zcons rfl (zcons (zvi (show (23 : Int32) = i3 23 from rfl)) (zcons (zvi (rfl : i3 a1 = i3 a1)) (zcons (zvi (rfl : i3 a2 = i3 a2)) (zcons (zvi (show (0 : Int32) = i3 0 from rfl)) (zcons (zvi (show (0 : Int32) = i3 0 from rfl)) (zcons (zvi (show (0 : Int32) = i3 0 from rfl)) (zcons (zvi (show (0 : Int32) = i3 0 from rfl)) rfl)))))))) c9) ?_
          clear c9
          refine fw_359 _ _ _ _ ?_
          refine sl_359_1 (ν := ν) hZ14I zK_r (x1 := a1) (by omega) (x2 := a2) (by omega) (x3 := 0) (by omega) (x4 := 0) (by omega) (kc0 := Z14 2 0 0 3500) (by omega) (zconso rfl (zconso (zvo (rfl : i3 a1 = i3 a1)) (zconso (zvo (rfl : i3 a2 = i3 a2)) (zconso (zvo (Eq.trans (zm_rd (Z := Z14) (ν := ν) (k := 2) (show ((0 : Nat) : Int) = 0 from rfl) (show ((0 : Nat) : Int) = 0 from rfl) (show ((3500 : Nat) : Int) = 3500 from rfl)) (congrArg i3 ((kZ14 2 (by decide) 0 0 3500).trans ((kZ12 2 (by decide) 0 0 3500).trans ((zu_ne (k' := 2) (b' := 0) (i' := 0) (j' := 3500) hZ10 (fun q => absurd q.1 (by decide))).trans ((zu_ne (k' := 2) (b' := 0) (i' := 0) (j' := 3500) hZ9 (fun q => absurd q.1 (by decide))).trans ((hF 2 0 3500 (by decide)).trans ((show frz 2 0 3500 = 0 from by decide)))))))))) (zconso (zvo (show (0 : Int32) = i3 0 from rfl)) rfl))))) rfl ?_
          intro L17 Z16 y15 hL17 hZ16I kZ16 gy15 gL17_0 q9
          clear q9
          have hZ16K : zK [1, 2, 101, 102] Z Z16 := zK_t hZ14K kZ16 (by decide)
          refine fc_359_2 (i3 a1) (i3 a2) (i3 0) _ _ _ _ hL17 ?_
          refine wz_i0 (i3O (n := 4400) (i3A (i3A (show (3520 : Int32) = i3 3520 from rfl) (i3M (show (10 : Int32) = i3 10 from rfl) (rfl : i3 0 = i3 0))) (show (0 : Int32) = i3 0 from rfl)) (by omega) (by omega) (by omega)) ?_
          obtain ⟨Z18, hZ18⟩ := zx (zu Z16 2 0 0 3520 a1)
          have hZ18I := zI_u hZ16I hZ18 (lo := 0) (hi := 18) (by decide) rfl (by omega) ⟨by decide, by decide⟩ (Or.inl (by decide))
          have hZ18K := zK_u hZ16K hZ18 (by decide)
          intro μ9 e9
          replace e9 := e9.trans (zm_wI (Z := Z16) (ν := ν) hZ18 (show ((0 : Nat) : Int) = 0 from rfl) (show ((0 : Nat) : Int) = 0 from rfl) (i3I (y := 3520) (i3A (i3A (show (3520 : Int32) = i3 3520 from rfl) (i3M (show (10 : Int32) = i3 10 from rfl) (rfl : i3 0 = i3 0))) (show (0 : Int32) = i3 0 from rfl)) (by omega) (by omega) (by omega)) (rfl : i3 a1 = i3 a1))
          subst e9
          refine wz_i0 (i3O (n := 4400) (i3A (i3A (show (3520 : Int32) = i3 3520 from rfl) (i3M (show (10 : Int32) = i3 10 from rfl) (rfl : i3 0 = i3 0))) (show (1 : Int32) = i3 1 from rfl)) (by omega) (by omega) (by omega)) ?_
          obtain ⟨Z19, hZ19⟩ := zx (zu Z18 2 0 0 3521 a2)
          have hZ19I := zI_u hZ18I hZ19 (lo := 0) (hi := 3) (by decide) rfl (by omega) ⟨by decide, by decide⟩ (Or.inl (by decide))
          have hZ19K := zK_u hZ18K hZ19 (by decide)
          intro μ9 e9
          replace e9 := e9.trans (zm_wI (Z := Z18) (ν := ν) hZ19 (show ((0 : Nat) : Int) = 0 from rfl) (show ((0 : Nat) : Int) = 0 from rfl) (i3I (y := 3521) (i3A (i3A (show (3520 : Int32) = i3 3520 from rfl) (i3M (show (10 : Int32) = i3 10 from rfl) (rfl : i3 0 = i3 0))) (show (1 : Int32) = i3 1 from rfl)) (by omega) (by omega) (by omega)) (rfl : i3 a2 = i3 a2))
          subst e9
          refine wz_i0 (i3O (n := 4400) (i3A (i3A (show (3520 : Int32) = i3 3520 from rfl) (i3M (show (10 : Int32) = i3 10 from rfl) (rfl : i3 0 = i3 0))) (show (7 : Int32) = i3 7 from rfl)) (by omega) (by omega) (by omega)) ?_
          obtain ⟨Z20, hZ20⟩ := zx (zu Z19 2 0 0 3527 (-1))
          have hZ20I := zI_u hZ19I hZ20 (lo := -1) (hi := 671) (by decide) rfl (by omega) ⟨by decide, by decide⟩ (Or.inl (by decide))
          have hZ20K := zK_u hZ19K hZ20 (by decide)
          intro μ9 e9
          replace e9 := e9.trans (zm_wI (Z := Z19) (ν := ν) hZ20 (show ((0 : Nat) : Int) = 0 from rfl) (show ((0 : Nat) : Int) = 0 from rfl) (i3I (y := 3527) (i3A (i3A (show (3520 : Int32) = i3 3520 from rfl) (i3M (show (10 : Int32) = i3 10 from rfl) (rfl : i3 0 = i3 0))) (show (7 : Int32) = i3 7 from rfl)) (by omega) (by omega) (by omega)) (show (-1 : Int32) = i3 (-1) from rfl))
          subst e9
          obtain ⟨Z21, hZ21⟩ := zx (zu Z20 2 0 0 3500 (0 + 1))
          have hZ21I := zI_u hZ20I hZ21 (lo := 0) (hi := 2) (by decide) rfl (by omega) ⟨by decide, by decide⟩ (Or.inl (by decide))
          have hZ21K := zK_u hZ20K hZ21 (by decide)
          intro μ9 e9
          replace e9 := e9.trans (zm_wI (Z := Z20) (ν := ν) hZ21 (show ((0 : Nat) : Int) = 0 from rfl) (show ((0 : Nat) : Int) = 0 from rfl) (show ((3500 : Nat) : Int) = 3500 from rfl) (i3A (Eq.trans (zm_rd (Z := Z20) (ν := ν) (k := 2) (show ((0 : Nat) : Int) = 0 from rfl) (show ((0 : Nat) : Int) = 0 from rfl) (show ((3500 : Nat) : Int) = 3500 from rfl)) (congrArg i3 ((zu_ne (k' := 2) (b' := 0) (i' := 0) (j' := 3500) hZ20 (fun q => absurd q.2.2.2 (by decide))).trans ((zu_ne (k' := 2) (b' := 0) (i' := 0) (j' := 3500) hZ19 (fun q => absurd q.2.2.2 (by decide))).trans ((zu_ne (k' := 2) (b' := 0) (i' := 0) (j' := 3500) hZ18 (fun q => absurd q.2.2.2 (by decide))).trans ((gL17_0).trans ((kZ14 2 (by decide) 0 0 3500).trans ((kZ12 2 (by decide) 0 0 3500).trans ((zu_ne (k' := 2) (b' := 0) (i' := 0) (j' := 3500) hZ10 (fun q => absurd q.1 (by decide))).trans ((zu_ne (k' := 2) (b' := 0) (i' := 0) (j' := 3500) hZ9 (fun q => absurd q.1 (by decide))).trans ((hF 2 0 3500 (by decide)).trans ((show frz 2 0 3500 = 0 from by decide))))))))))))) (show (1 : Int32) = i3 1 from rfl)))
          subst e9
          exact zlM hP (rfl : i3 0 = i3 0) ((zu_ne (k' := 1) (b' := 0) (i' := 0) (j' := 2) hZ21 (fun q => absurd q.1 (by decide))).trans ((zu_ne (k' := 1) (b' := 0) (i' := 0) (j' := 2) hZ20 (fun q => absurd q.1 (by decide))).trans ((zu_ne (k' := 1) (b' := 0) (i' := 0) (j' := 2) hZ19 (fun q => absurd q.1 (by decide))).trans ((zu_ne (k' := 1) (b' := 0) (i' := 0) (j' := 2) hZ18 (fun q => absurd q.1 (by decide))).trans ((kZ16 1 (by decide) 0 0 2).trans ((wZ140).trans ((wZ120).trans (zu_at hZ10)))))))) ⟨hZ21I, hZ21K, zN_r⟩

/- yX12_found -/
def zg_342 (a1 : Int) (a2 : Int) : Int × Int := (if a1 < 0 then (0, 1) else (0, 1))
theorem sg_342 {Z : qz_Z} {ν : qz_N} (hZ : zI none Z) (hF : zFm Z) {a1 : Int} (ga1 : -2147483648 ≤ a1 ∧ a1 ≤ 2147483647) {a2 : Int} (ga2 : -2147483648 ≤ a2 ∧ a2 ≤ 2147483647) : ∃ (Z1 : qz_Z) (ν1 : qz_N) (v t : Int), (v, t) = zg_342 a1 a2 ∧ qf_342 [.inr (.inr (some (1, 0, 0))), .inl (i3 a1), .inl (i3 a2)] (zm Z ν) = some (zm Z1 ν1, .inl (some (.inl (i3 v)))) ∧ Z1 1 0 0 2 = t ∧ (fun Z1 ν1 => zI none Z1 ∧ zK [1] Z Z1 ∧ zN ν ν1) Z1 ν1 := by
  obtain ⟨P, hP⟩ := zx (zg_342 a1 a2)
  refine zc_M (Q := fun Z1 ν1 => zI none Z1 ∧ zK [1] Z Z1 ∧ zN ν ν1) hP (fw_342 (i3 a1) (i3 a2) _ _ ?_)
  replace hP : zE P (zg_342 a1 a2) := hP
  unfold zg_342 at hP
  refine wz_br (i3L (rfl : i3 a1 = i3 a1) (show (0 : Int32) = i3 0 from rfl) (by omega) (by omega) (by omega) (by omega)) (fun h1 => ?_) (fun h1 => ?_)
  · replace hP := zE_p hP h1
    obtain ⟨Z2, hZ2⟩ := zx (zu Z 1 0 0 2 1)
    have hZ2I := zI_u hZ hZ2 (lo := -2147483648) (hi := 2147483647) (by decide) rfl (by omega) ⟨by decide, by decide⟩ (Or.inr (by decide))
    have hZ2K : zK [1] Z Z2 := zK_u zK_r hZ2 (by decide)
    intro μ9 e9
    replace e9 := e9.trans (zm_wI (Z := Z) (ν := ν) hZ2 (show ((0 : Nat) : Int) = 0 from rfl) (show ((0 : Nat) : Int) = 0 from rfl) (show ((2 : Nat) : Int) = 2 from rfl) (show (1 : Int32) = i3 1 from rfl))
    subst e9
    exact zlM hP (show (0 : Int32) = i3 0 from rfl) (zu_at hZ2) ⟨hZ2I, hZ2K, zN_r⟩
  · replace hP := zE_n hP h1
    refine wz_i1 (Eq.trans (i3L (i3S (Eq.trans (zm_rd (Z := Z) (ν := ν) (k := 2) (show ((0 : Nat) : Int) = 0 from rfl) (show ((0 : Nat) : Int) = 0 from rfl) (show ((3501 : Nat) : Int) = 3501 from rfl)) (congrArg i3 ((hF 2 0 3501 (by decide)).trans ((show frz 2 0 3501 = 0 from by decide))))) (show (1 : Int32) = i3 1 from rfl)) (rfl : i3 a1 = i3 a1) (by omega) (by omega) (by omega) (by omega)) (decide_eq_true (by omega))) ?_
    obtain ⟨Z3, hZ3⟩ := zx (zu Z 1 0 0 2 1)
    have hZ3I := zI_u hZ hZ3 (lo := -2147483648) (hi := 2147483647) (by decide) rfl (by omega) ⟨by decide, by decide⟩ (Or.inr (by decide))
    have hZ3K : zK [1] Z Z3 := zK_u zK_r hZ3 (by decide)
    intro μ9 e9
    replace e9 := e9.trans (zm_wI (Z := Z) (ν := ν) hZ3 (show ((0 : Nat) : Int) = 0 from rfl) (show ((0 : Nat) : Int) = 0 from rfl) (show ((2 : Nat) : Int) = 2 from rfl) (show (1 : Int32) = i3 1 from rfl))
    subst e9
    exact zlM hP (show (0 : Int32) = i3 0 from rfl) (zu_at hZ3) ⟨hZ3I, hZ3K, zN_r⟩

/- yX12_account -/
def zg_256 (a1 : Int) : Int × Int := (if a1 < 0 then (0, 1) else (if 9 < a1 then (0, 1) else ((frz 2 0 (3800 + a1)), 0)))
theorem sg_256 {Z : qz_Z} {ν : qz_N} (hZ : zI none Z) (hF : zFm Z) {a1 : Int} (ga1 : -2147483648 ≤ a1 ∧ a1 ≤ 2147483647) : ∃ (Z1 : qz_Z) (ν1 : qz_N) (v t : Int), (v, t) = zg_256 a1 ∧ qf_256 [.inr (.inr (some (1, 0, 0))), .inl (i3 a1)] (zm Z ν) = some (zm Z1 ν1, .inl (some (.inl (i3 v)))) ∧ Z1 1 0 0 2 = t ∧ (fun Z1 ν1 => zI none Z1 ∧ zK [1] Z Z1 ∧ zN ν ν1) Z1 ν1 := by
  obtain ⟨P, hP⟩ := zx (zg_256 a1)
  refine zc_M (Q := fun Z1 ν1 => zI none Z1 ∧ zK [1] Z Z1 ∧ zN ν ν1) hP (fw_256 (i3 a1) _ _ ?_)
  replace hP : zE P (zg_256 a1) := hP
  unfold zg_256 at hP
  refine wz_br (i3L (rfl : i3 a1 = i3 a1) (show (0 : Int32) = i3 0 from rfl) (by omega) (by omega) (by omega) (by omega)) (fun h1 => ?_) (fun h1 => ?_)
  · replace hP := zE_p hP h1
    obtain ⟨Z2, hZ2⟩ := zx (zu Z 1 0 0 2 1)
    have hZ2I := zI_u hZ hZ2 (lo := -2147483648) (hi := 2147483647) (by decide) rfl (by omega) ⟨by decide, by decide⟩ (Or.inr (by decide))
    have hZ2K : zK [1] Z Z2 := zK_u zK_r hZ2 (by decide)
    intro μ9 e9
    replace e9 := e9.trans (zm_wI (Z := Z) (ν := ν) hZ2 (show ((0 : Nat) : Int) = 0 from rfl) (show ((0 : Nat) : Int) = 0 from rfl) (show ((2 : Nat) : Int) = 2 from rfl) (show (1 : Int32) = i3 1 from rfl))
    subst e9
    exact zlM hP (show (0 : Int32) = i3 0 from rfl) (zu_at hZ2) ⟨hZ2I, hZ2K, zN_r⟩
  · replace hP := zE_n hP h1
    refine wz_br (i3L (show (9 : Int32) = i3 9 from rfl) (rfl : i3 a1 = i3 a1) (by omega) (by omega) (by omega) (by omega)) (fun h3 => ?_) (fun h3 => ?_)
    · replace hP := zE_p hP h3
      obtain ⟨Z4, hZ4⟩ := zx (zu Z 1 0 0 2 1)
      have hZ4I := zI_u hZ hZ4 (lo := -2147483648) (hi := 2147483647) (by decide) rfl (by omega) ⟨by decide, by decide⟩ (Or.inr (by decide))
      have hZ4K : zK [1] Z Z4 := zK_u zK_r hZ4 (by decide)
      intro μ9 e9
      replace e9 := e9.trans (zm_wI (Z := Z) (ν := ν) hZ4 (show ((0 : Nat) : Int) = 0 from rfl) (show ((0 : Nat) : Int) = 0 from rfl) (show ((2 : Nat) : Int) = 2 from rfl) (show (1 : Int32) = i3 1 from rfl))
      subst e9
      exact zlM hP (show (0 : Int32) = i3 0 from rfl) (zu_at hZ4) ⟨hZ4I, hZ4K, zN_r⟩
    · replace hP := zE_n hP h3
      obtain ⟨Z5, hZ5⟩ := zx (zu Z 1 0 0 2 0)
      have hZ5I := zI_0 hZ hZ5 (by decide) (Or.inr (by decide))
      have hZ5K : zK [1] Z Z5 := zK_u zK_r hZ5 (by decide)
      intro μ9 e9
      replace e9 := e9.trans (zm_wI (Z := Z) (ν := ν) hZ5 (show ((0 : Nat) : Int) = 0 from rfl) (show ((0 : Nat) : Int) = 0 from rfl) (show ((2 : Nat) : Int) = 2 from rfl) (show (0 : Int32) = i3 0 from rfl))
      subst e9
      refine wz_i0 (i3O (n := 4400) (i3A (show (3800 : Int32) = i3 3800 from rfl) (rfl : i3 a1 = i3 a1)) (by omega) (by omega) (by omega)) ?_
      have r6 := frz_r 2 0 (3800 + a1)
      exact zlM hP (Eq.trans (zm_rd (Z := Z5) (ν := ν) (k := 2) (show ((0 : Nat) : Int) = 0 from rfl) (show ((0 : Nat) : Int) = 0 from rfl) (i3I (y := (3800 + a1)) (i3A (show (3800 : Int32) = i3 3800 from rfl) (rfl : i3 a1 = i3 a1)) (by omega) (by omega) (by omega))) (congrArg i3 ((zu_ne (k' := 2) (b' := 0) (i' := 0) (j' := (3800 + a1)) hZ5 (fun q => absurd q.1 (by decide))).trans (hF 2 0 (3800 + a1) (by decide))))) (zu_at hZ5) ⟨hZ5I, hZ5K, zN_r⟩

/- yX12_quarrel -/
def zg_457 (a1 : Int) (a2 : Int) : Int × Int := (if a1 < 0 then (0, 1) else (0, 1))
theorem sg_457 {Z : qz_Z} {ν : qz_N} (hZ : zI none Z) (hF : zFm Z) {a1 : Int} (ga1 : -2147483648 ≤ a1 ∧ a1 ≤ 2147483647) {a2 : Int} (ga2 : -2147483648 ≤ a2 ∧ a2 ≤ 2147483647) : ∃ (Z1 : qz_Z) (ν1 : qz_N) (v t : Int), (v, t) = zg_457 a1 a2 ∧ qf_457 [.inr (.inr (some (1, 0, 0))), .inl (i3 a1), .inl (i3 a2)] (zm Z ν) = some (zm Z1 ν1, .inl (some (.inl (i3 v)))) ∧ Z1 1 0 0 2 = t ∧ (fun Z1 ν1 => zI none Z1 ∧ zK [1] Z Z1 ∧ zN ν ν1) Z1 ν1 := by
  obtain ⟨P, hP⟩ := zx (zg_457 a1 a2)
  refine zc_M (Q := fun Z1 ν1 => zI none Z1 ∧ zK [1] Z Z1 ∧ zN ν ν1) hP (fw_457 (i3 a1) (i3 a2) _ _ ?_)
  replace hP : zE P (zg_457 a1 a2) := hP
  unfold zg_457 at hP
  refine wz_br (i3L (rfl : i3 a1 = i3 a1) (show (0 : Int32) = i3 0 from rfl) (by omega) (by omega) (by omega) (by omega)) (fun h1 => ?_) (fun h1 => ?_)
  · replace hP := zE_p hP h1
    obtain ⟨Z2, hZ2⟩ := zx (zu Z 1 0 0 2 1)
    have hZ2I := zI_u hZ hZ2 (lo := -2147483648) (hi := 2147483647) (by decide) rfl (by omega) ⟨by decide, by decide⟩ (Or.inr (by decide))
    have hZ2K : zK [1] Z Z2 := zK_u zK_r hZ2 (by decide)
    intro μ9 e9
    replace e9 := e9.trans (zm_wI (Z := Z) (ν := ν) hZ2 (show ((0 : Nat) : Int) = 0 from rfl) (show ((0 : Nat) : Int) = 0 from rfl) (show ((2 : Nat) : Int) = 2 from rfl) (show (1 : Int32) = i3 1 from rfl))
    subst e9
    exact zlM hP (show (0 : Int32) = i3 0 from rfl) (zu_at hZ2) ⟨hZ2I, hZ2K, zN_r⟩
  · replace hP := zE_n hP h1
    refine wz_i1 (Eq.trans (i3L (i3S (Eq.trans (zm_rd (Z := Z) (ν := ν) (k := 2) (show ((0 : Nat) : Int) = 0 from rfl) (show ((0 : Nat) : Int) = 0 from rfl) (show ((2000 : Nat) : Int) = 2000 from rfl)) (congrArg i3 ((hF 2 0 2000 (by decide)).trans ((show frz 2 0 2000 = 0 from by decide))))) (show (1 : Int32) = i3 1 from rfl)) (rfl : i3 a1 = i3 a1) (by omega) (by omega) (by omega) (by omega)) (decide_eq_true (by omega))) ?_
    obtain ⟨Z3, hZ3⟩ := zx (zu Z 1 0 0 2 1)
    have hZ3I := zI_u hZ hZ3 (lo := -2147483648) (hi := 2147483647) (by decide) rfl (by omega) ⟨by decide, by decide⟩ (Or.inr (by decide))
    have hZ3K : zK [1] Z Z3 := zK_u zK_r hZ3 (by decide)
    intro μ9 e9
    replace e9 := e9.trans (zm_wI (Z := Z) (ν := ν) hZ3 (show ((0 : Nat) : Int) = 0 from rfl) (show ((0 : Nat) : Int) = 0 from rfl) (show ((2 : Nat) : Int) = 2 from rfl) (show (1 : Int32) = i3 1 from rfl))
    subst e9
    exact zlM hP (show (0 : Int32) = i3 0 from rfl) (zu_at hZ3) ⟨hZ3I, hZ3K, zN_r⟩

/- yX12_sign -/
def zg_502 (a1 : Int) : Int × Int := (if a1 < 32 then (0, 1) else (if 126 < a1 then (0, 1) else ((0 + 1), 0)))
theorem sg_502 {Z : qz_Z} {ν : qz_N} (hZ : zI none Z) (hF : zFm Z) {a1 : Int} (ga1 : -2147483648 ≤ a1 ∧ a1 ≤ 2147483647) : ∃ (Z1 : qz_Z) (ν1 : qz_N) (v t : Int), (v, t) = zg_502 a1 ∧ qf_502 [.inr (.inr (some (1, 0, 0))), .inl (i3 a1)] (zm Z ν) = some (zm Z1 ν1, .inl (some (.inl (i3 v)))) ∧ Z1 1 0 0 2 = t ∧ (fun Z1 ν1 => zI none Z1 ∧ zK [1, 112] Z Z1 ∧ zN ν ν1) Z1 ν1 := by
  obtain ⟨P, hP⟩ := zx (zg_502 a1)
  refine zc_M (Q := fun Z1 ν1 => zI none Z1 ∧ zK [1, 112] Z Z1 ∧ zN ν ν1) hP (fw_502 (i3 a1) _ _ ?_)
  replace hP : zE P (zg_502 a1) := hP
  unfold zg_502 at hP
  refine wz_br (i3L (rfl : i3 a1 = i3 a1) (show (32 : Int32) = i3 32 from rfl) (by omega) (by omega) (by omega) (by omega)) (fun h1 => ?_) (fun h1 => ?_)
  · replace hP := zE_p hP h1
    obtain ⟨Z2, hZ2⟩ := zx (zu Z 1 0 0 2 1)
    have hZ2I := zI_u hZ hZ2 (lo := -2147483648) (hi := 2147483647) (by decide) rfl (by omega) ⟨by decide, by decide⟩ (Or.inr (by decide))
    have hZ2K : zK [1, 112] Z Z2 := zK_u zK_r hZ2 (by decide)
    intro μ9 e9
    replace e9 := e9.trans (zm_wI (Z := Z) (ν := ν) hZ2 (show ((0 : Nat) : Int) = 0 from rfl) (show ((0 : Nat) : Int) = 0 from rfl) (show ((2 : Nat) : Int) = 2 from rfl) (show (1 : Int32) = i3 1 from rfl))
    subst e9
    exact zlM hP (show (0 : Int32) = i3 0 from rfl) (zu_at hZ2) ⟨hZ2I, hZ2K, zN_r⟩
  · replace hP := zE_n hP h1
    refine wz_br (i3L (show (126 : Int32) = i3 126 from rfl) (rfl : i3 a1 = i3 a1) (by omega) (by omega) (by omega) (by omega)) (fun h3 => ?_) (fun h3 => ?_)
    · replace hP := zE_p hP h3
      obtain ⟨Z4, hZ4⟩ := zx (zu Z 1 0 0 2 1)
      have hZ4I := zI_u hZ hZ4 (lo := -2147483648) (hi := 2147483647) (by decide) rfl (by omega) ⟨by decide, by decide⟩ (Or.inr (by decide))
      have hZ4K : zK [1, 112] Z Z4 := zK_u zK_r hZ4 (by decide)
      intro μ9 e9
      replace e9 := e9.trans (zm_wI (Z := Z) (ν := ν) hZ4 (show ((0 : Nat) : Int) = 0 from rfl) (show ((0 : Nat) : Int) = 0 from rfl) (show ((2 : Nat) : Int) = 2 from rfl) (show (1 : Int32) = i3 1 from rfl))
      subst e9
      exact zlM hP (show (0 : Int32) = i3 0 from rfl) (zu_at hZ4) ⟨hZ4I, hZ4K, zN_r⟩
    · replace hP := zE_n hP h3
      obtain ⟨Z5, hZ5⟩ := zx (zu Z 1 0 0 2 0)
      have hZ5I := zI_0 hZ hZ5 (by decide) (Or.inr (by decide))
      have hZ5K : zK [1, 112] Z Z5 := zK_u zK_r hZ5 (by decide)
      intro μ9 e9
      replace e9 := e9.trans (zm_wI (Z := Z) (ν := ν) hZ5 (show ((0 : Nat) : Int) = 0 from rfl) (show ((0 : Nat) : Int) = 0 from rfl) (show ((2 : Nat) : Int) = 2 from rfl) (show (0 : Int32) = i3 0 from rfl))
      subst e9
      refine wz_i0 (Eq.trans (i3Le (show (120 : Int32) = i3 120 from rfl) (Eq.trans (zm_rd (Z := Z5) (ν := ν) (k := 1) (show ((0 : Nat) : Int) = 0 from rfl) (show ((0 : Nat) : Int) = 0 from rfl) (show ((49 : Nat) : Int) = 49 from rfl)) (congrArg i3 ((zu_ne (k' := 1) (b' := 0) (i' := 0) (j' := 49) hZ5 (fun q => absurd q.2.2.2 (by decide))).trans ((hF 1 0 49 (by decide)).trans ((show frz 1 0 49 = 0 from by decide)))))) (by omega) (by omega) (by omega) (by omega)) (decide_eq_false (by omega))) ?_
      obtain ⟨Z6, hZ6⟩ := zx (zu Z5 1 0 0 2 0)
      have hZ6I := zI_0 hZ5I hZ6 (by decide) (Or.inr (by decide))
      have hZ6K := zK_u hZ5K hZ6 (by decide)
      intro μ9 e9
      replace e9 := e9.trans (zm_wI (Z := Z5) (ν := ν) hZ6 (show ((0 : Nat) : Int) = 0 from rfl) (show ((0 : Nat) : Int) = 0 from rfl) (show ((2 : Nat) : Int) = 2 from rfl) (show (0 : Int32) = i3 0 from rfl))
      subst e9
      refine wz_i0 (i3O (n := 120) (Eq.trans (zm_rd (Z := Z6) (ν := ν) (k := 1) (show ((0 : Nat) : Int) = 0 from rfl) (show ((0 : Nat) : Int) = 0 from rfl) (show ((49 : Nat) : Int) = 49 from rfl)) (congrArg i3 ((zu_ne (k' := 1) (b' := 0) (i' := 0) (j' := 49) hZ6 (fun q => absurd q.2.2.2 (by decide))).trans ((zu_ne (k' := 1) (b' := 0) (i' := 0) (j' := 49) hZ5 (fun q => absurd q.2.2.2 (by decide))).trans ((hF 1 0 49 (by decide)).trans ((show frz 1 0 49 = 0 from by decide))))))) (by omega) (by omega) (by omega)) ?_
      obtain ⟨Z7, hZ7⟩ := zx (zu Z6 112 0 0 0 a1)
      have hZ7I := zI_u hZ6I hZ7 (lo := -2147483648) (hi := 2147483647) (by decide) rfl (by omega) ⟨by decide, by decide⟩ (Or.inl (by decide))
      have hZ7K := zK_u hZ6K hZ7 (by decide)
      intro μ9 e9
      replace e9 := e9.trans (zm_wI (Z := Z6) (ν := ν) hZ7 (show ((0 : Nat) : Int) = 0 from rfl) (show ((0 : Nat) : Int) = 0 from rfl) (i3I (y := 0) (Eq.trans (zm_rd (Z := Z6) (ν := ν) (k := 1) (show ((0 : Nat) : Int) = 0 from rfl) (show ((0 : Nat) : Int) = 0 from rfl) (show ((49 : Nat) : Int) = 49 from rfl)) (congrArg i3 ((zu_ne (k' := 1) (b' := 0) (i' := 0) (j' := 49) hZ6 (fun q => absurd q.2.2.2 (by decide))).trans ((zu_ne (k' := 1) (b' := 0) (i' := 0) (j' := 49) hZ5 (fun q => absurd q.2.2.2 (by decide))).trans ((hF 1 0 49 (by decide)).trans ((show frz 1 0 49 = 0 from by decide))))))) (by omega) (by omega) (by omega)) (rfl : i3 a1 = i3 a1))
      subst e9
      obtain ⟨Z8, hZ8⟩ := zx (zu Z7 1 0 0 49 (0 + 1))
      have hZ8I := zI_u hZ7I hZ8 (lo := -2147483648) (hi := 2147483647) (by decide) rfl (by omega) ⟨by decide, by decide⟩ (Or.inr (by decide))
      have hZ8K := zK_u hZ7K hZ8 (by decide)
      intro μ9 e9
      replace e9 := e9.trans (zm_wI (Z := Z7) (ν := ν) hZ8 (show ((0 : Nat) : Int) = 0 from rfl) (show ((0 : Nat) : Int) = 0 from rfl) (show ((49 : Nat) : Int) = 49 from rfl) (i3A (Eq.trans (zm_rd (Z := Z7) (ν := ν) (k := 1) (show ((0 : Nat) : Int) = 0 from rfl) (show ((0 : Nat) : Int) = 0 from rfl) (show ((49 : Nat) : Int) = 49 from rfl)) (congrArg i3 ((zu_ne (k' := 1) (b' := 0) (i' := 0) (j' := 49) hZ7 (fun q => absurd q.1 (by decide))).trans ((zu_ne (k' := 1) (b' := 0) (i' := 0) (j' := 49) hZ6 (fun q => absurd q.2.2.2 (by decide))).trans ((zu_ne (k' := 1) (b' := 0) (i' := 0) (j' := 49) hZ5 (fun q => absurd q.2.2.2 (by decide))).trans ((hF 1 0 49 (by decide)).trans ((show frz 1 0 49 = 0 from by decide)))))))) (show (1 : Int32) = i3 1 from rfl)))
      subst e9
      exact zlM hP (Eq.trans (zm_rd (Z := Z8) (ν := ν) (k := 1) (show ((0 : Nat) : Int) = 0 from rfl) (show ((0 : Nat) : Int) = 0 from rfl) (show ((49 : Nat) : Int) = 49 from rfl)) (congrArg i3 (zu_at hZ8))) ((zu_ne (k' := 1) (b' := 0) (i' := 0) (j' := 2) hZ8 (fun q => absurd q.2.2.2 (by decide))).trans ((zu_ne (k' := 1) (b' := 0) (i' := 0) (j' := 2) hZ7 (fun q => absurd q.1 (by decide))).trans (zu_at hZ6))) ⟨hZ8I, hZ8K, zN_r⟩

/- yX12_again -/
def zg_257 (a1 : Int) : Int × Int := (if a1 < 0 then (0, 1) else (if 1 < a1 then (0, 1) else (0, 2)))
theorem sg_257 {Z : qz_Z} {ν : qz_N} (hZ : zI none Z) (hF : zFm Z) {a1 : Int} (ga1 : -2147483648 ≤ a1 ∧ a1 ≤ 2147483647) : ∃ (Z1 : qz_Z) (ν1 : qz_N) (v t : Int), (v, t) = zg_257 a1 ∧ qf_257 [.inr (.inr (some (1, 0, 0))), .inl (i3 a1)] (zm Z ν) = some (zm Z1 ν1, .inl (some (.inl (i3 v)))) ∧ Z1 1 0 0 2 = t ∧ (fun Z1 ν1 => zI none Z1 ∧ zK [1] Z Z1 ∧ zN ν ν1) Z1 ν1 := by
  obtain ⟨P, hP⟩ := zx (zg_257 a1)
  refine zc_M (Q := fun Z1 ν1 => zI none Z1 ∧ zK [1] Z Z1 ∧ zN ν ν1) hP (fw_257 (i3 a1) _ _ ?_)
  replace hP : zE P (zg_257 a1) := hP
  unfold zg_257 at hP
  refine wz_br (i3L (rfl : i3 a1 = i3 a1) (show (0 : Int32) = i3 0 from rfl) (by omega) (by omega) (by omega) (by omega)) (fun h1 => ?_) (fun h1 => ?_)
  · replace hP := zE_p hP h1
    obtain ⟨Z2, hZ2⟩ := zx (zu Z 1 0 0 2 1)
    have hZ2I := zI_u hZ hZ2 (lo := -2147483648) (hi := 2147483647) (by decide) rfl (by omega) ⟨by decide, by decide⟩ (Or.inr (by decide))
    have hZ2K : zK [1] Z Z2 := zK_u zK_r hZ2 (by decide)
    intro μ9 e9
    replace e9 := e9.trans (zm_wI (Z := Z) (ν := ν) hZ2 (show ((0 : Nat) : Int) = 0 from rfl) (show ((0 : Nat) : Int) = 0 from rfl) (show ((2 : Nat) : Int) = 2 from rfl) (show (1 : Int32) = i3 1 from rfl))
    subst e9
    exact zlM hP (show (0 : Int32) = i3 0 from rfl) (zu_at hZ2) ⟨hZ2I, hZ2K, zN_r⟩
  · replace hP := zE_n hP h1
    refine wz_br (i3L (show (1 : Int32) = i3 1 from rfl) (rfl : i3 a1 = i3 a1) (by omega) (by omega) (by omega) (by omega)) (fun h3 => ?_) (fun h3 => ?_)
    · replace hP := zE_p hP h3
      obtain ⟨Z4, hZ4⟩ := zx (zu Z 1 0 0 2 1)
      have hZ4I := zI_u hZ hZ4 (lo := -2147483648) (hi := 2147483647) (by decide) rfl (by omega) ⟨by decide, by decide⟩ (Or.inr (by decide))
      have hZ4K : zK [1] Z Z4 := zK_u zK_r hZ4 (by decide)
      intro μ9 e9
      replace e9 := e9.trans (zm_wI (Z := Z) (ν := ν) hZ4 (show ((0 : Nat) : Int) = 0 from rfl) (show ((0 : Nat) : Int) = 0 from rfl) (show ((2 : Nat) : Int) = 2 from rfl) (show (1 : Int32) = i3 1 from rfl))
      subst e9
      exact zlM hP (show (0 : Int32) = i3 0 from rfl) (zu_at hZ4) ⟨hZ4I, hZ4K, zN_r⟩
    · replace hP := zE_n hP h3
      obtain ⟨Z5, hZ5⟩ := zx (zu Z 1 0 0 2 0)
      have hZ5I := zI_0 hZ hZ5 (by decide) (Or.inr (by decide))
      have hZ5K : zK [1] Z Z5 := zK_u zK_r hZ5 (by decide)
      intro μ9 e9
      replace e9 := e9.trans (zm_wI (Z := Z) (ν := ν) hZ5 (show ((0 : Nat) : Int) = 0 from rfl) (show ((0 : Nat) : Int) = 0 from rfl) (show ((2 : Nat) : Int) = 2 from rfl) (show (0 : Int32) = i3 0 from rfl))
      subst e9
      refine wz_i0 (i3O (n := 2) (rfl : i3 a1 = i3 a1) (by omega) (by omega) (by omega)) ?_
      refine wz_i1 (Eq.trans (i3NE (Eq.trans (zm_rd (Z := Z5) (ν := ν) (k := 111) (show ((0 : Nat) : Int) = 0 from rfl) (show ((0 : Nat) : Int) = 0 from rfl) (i3I (y := a1) (rfl : i3 a1 = i3 a1) (by omega) (by omega) (by omega))) (congrArg i3 ((zu_ne (k' := 111) (b' := 0) (i' := 0) (j' := a1) hZ5 (fun q => absurd q.1 (by decide))).trans ((hF 111 0 a1 (by decide)).trans ((show frz 111 0 a1 = 0 from rfl)))))) (show (1 : Int32) = i3 1 from rfl) (by omega) (by omega) (by omega) (by omega)) (decide_eq_true (by omega))) ?_
      obtain ⟨Z6, hZ6⟩ := zx (zu Z5 1 0 0 2 2)
      have hZ6I := zI_u hZ5I hZ6 (lo := -2147483648) (hi := 2147483647) (by decide) rfl (by omega) ⟨by decide, by decide⟩ (Or.inr (by decide))
      have hZ6K := zK_u hZ5K hZ6 (by decide)
      intro μ9 e9
      replace e9 := e9.trans (zm_wI (Z := Z5) (ν := ν) hZ6 (show ((0 : Nat) : Int) = 0 from rfl) (show ((0 : Nat) : Int) = 0 from rfl) (show ((2 : Nat) : Int) = 2 from rfl) (show (2 : Int32) = i3 2 from rfl))
      subst e9
      exact zlM hP (show (0 : Int32) = i3 0 from rfl) (zu_at hZ6) ⟨hZ6I, hZ6K, zN_r⟩
