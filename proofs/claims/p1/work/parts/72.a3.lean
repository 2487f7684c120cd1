/-! the face at a new object, 3 (printed by api.py) -/
/- yX12_grower -/
def zg_347 (a1 : Int) (a2 : Int) : Int × Int := (if a1 < 0 then (0, 1) else (if 25 < a1 then (0, 1) else (if a2 < 0 then (0, 1) else (if 9 < a2 then (0, 1) else (0, 0)))))
theorem sg_347 {Z : qz_Z} {ν : qz_N} (hZ : zI none Z) (hF : zFm Z) {a1 : Int} (ga1 : -2147483648 ≤ a1 ∧ a1 ≤ 2147483647) {a2 : Int} (ga2 : -2147483648 ≤ a2 ∧ a2 ≤ 2147483647) (rrec : ∀ Z, qz_rm (zm Z ν) 1 0 0 36 = some (102, 0, 0)) : ∃ (Z1 : qz_Z) (ν1 : qz_N) (v t : Int), (v, t) = zg_347 a1 a2 ∧ qf_347 [.inr (.inr (some (1, 0, 0))), .inl (i3 a1), .inl (i3 a2)] (zm Z ν) = some (zm Z1 ν1, .inl (some (.inl (i3 v)))) ∧ Z1 1 0 0 2 = t ∧ (fun Z1 ν1 => zI none Z1 ∧ zK [1, 2, 101, 102] Z Z1 ∧ zN ν ν1) Z1 ν1 := by
  obtain ⟨P, hP⟩ := zx (zg_347 a1 a2)
  refine zc_M (Q := fun Z1 ν1 => zI none Z1 ∧ zK [1, 2, 101, 102] Z Z1 ∧ zN ν ν1) hP (fw_347 (i3 a1) (i3 a2) _ _ ?_)
  replace hP : zE P (zg_347 a1 a2) := hP
  unfold zg_347 at hP
  refine wz_br (i3L (rfl : i3 a1 = i3 a1) (show (0 : Int32) = i3 0 from rfl) (by omega) (by omega) (by omega) (by omega)) (fun h1 => ?_) (fun h1 => ?_)
  · replace hP := zE_p hP h1
    obtain ⟨Z2, hZ2⟩ := zx (zu Z 1 0 0 2 1)
    have hZ2I := zI_u hZ hZ2 (lo := -2147483648) (hi := 2147483647) (by decide) rfl (by omega) ⟨by decide, by decide⟩ (Or.inr (by decide))
    have hZ2K : zK [1, 2, 101, 102] Z Z2 := zK_u zK_r hZ2 (by decide)
    intro μ9 e9
    replace e9 := e9.trans (zm_wI (Z := Z) (ν := ν) hZ2 (show ((0 : Nat) : Int) = 0 from rfl) (show ((0 : Nat) : Int) = 0 from rfl) (show ((2 : Nat) : Int) = 2 from rfl) (show (1 : Int32) = i3 1 from rfl))
    subst e9
    exact zlM hP (show (0 : Int32) = i3 0 from rfl) (zu_at hZ2) ⟨hZ2I, hZ2K, zN_r⟩
  · replace hP := zE_n hP h1
    refine wz_br (i3L (show (25 : Int32) = i3 25 from rfl) (rfl : i3 a1 = i3 a1) (by omega) (by omega) (by omega) (by omega)) (fun h3 => ?_) (fun h3 => ?_)
    · replace hP := zE_p hP h3
      obtain ⟨Z4, hZ4⟩ := zx (zu Z 1 0 0 2 1)
      have hZ4I := zI_u hZ hZ4 (lo := -2147483648) (hi := 2147483647) (by decide) rfl (by omega) ⟨by decide, by decide⟩ (Or.inr (by decide))
      have hZ4K : zK [1, 2, 101, 102] Z Z4 := zK_u zK_r hZ4 (by decide)
      intro μ9 e9
      replace e9 := e9.trans (zm_wI (Z := Z) (ν := ν) hZ4 (show ((0 : Nat) : Int) = 0 from rfl) (show ((0 : Nat) : Int) = 0 from rfl) (show ((2 : Nat) : Int) = 2 from rfl) (show (1 : Int32) = i3 1 from rfl))
      subst e9
      exact zlM hP (show (0 : Int32) = i3 0 from rfl) (zu_at hZ4) ⟨hZ4I, hZ4K, zN_r⟩
    · replace hP := zE_n hP h3
      refine wz_br (i3L (rfl : i3 a2 = i3 a2) (show (0 : Int32) = i3 0 from rfl) (by omega) (by omega) (by omega) (by omega)) (fun h5 => ?_) (fun h5 => ?_)
      · replace hP := zE_p hP h5
        obtain ⟨Z6, hZ6⟩ := zx (zu Z 1 0 0 2 1)
        have hZ6I := zI_u hZ hZ6 (lo := -2147483648) (hi := 2147483647) (by decide) rfl (by omega) ⟨by decide, by decide⟩ (Or.inr (by decide))
        have hZ6K : zK [1, 2, 101, 102] Z Z6 := zK_u zK_r hZ6 (by decide)
        intro μ9 e9
        replace e9 := e9.trans (zm_wI (Z := Z) (ν := ν) hZ6 (show ((0 : Nat) : Int) = 0 from rfl) (show ((0 : Nat) : Int) = 0 from rfl) (show ((2 : Nat) : Int) = 2 from rfl) (show (1 : Int32) = i3 1 from rfl))
        subst e9
        exact zlM hP (show (0 : Int32) = i3 0 from rfl) (zu_at hZ6) ⟨hZ6I, hZ6K, zN_r⟩
      · replace hP := zE_n hP h5
        refine wz_br (i3L (show (9 : Int32) = i3 9 from rfl) (rfl : i3 a2 = i3 a2) (by omega) (by omega) (by omega) (by omega)) (fun h7 => ?_) (fun h7 => ?_)
        · replace hP := zE_p hP h7
          obtain ⟨Z8, hZ8⟩ := zx (zu Z 1 0 0 2 1)
          have hZ8I := zI_u hZ hZ8 (lo := -2147483648) (hi := 2147483647) (by decide) rfl (by omega) ⟨by decide, by decide⟩ (Or.inr (by decide))
          have hZ8K : zK [1, 2, 101, 102] Z Z8 := zK_u zK_r hZ8 (by decide)
          intro μ9 e9
          replace e9 := e9.trans (zm_wI (Z := Z) (ν := ν) hZ8 (show ((0 : Nat) : Int) = 0 from rfl) (show ((0 : Nat) : Int) = 0 from rfl) (show ((2 : Nat) : Int) = 2 from rfl) (show (1 : Int32) = i3 1 from rfl))
          subst e9
          exact zlM hP (show (0 : Int32) = i3 0 from rfl) (zu_at hZ8) ⟨hZ8I, hZ8K, zN_r⟩
        · replace hP := zE_n hP h7
          obtain ⟨Z9, hZ9⟩ := zx (zu Z 1 0 0 2 0)
          have hZ9I := zI_0 hZ hZ9 (by decide) (Or.inr (by decide))
          have hZ9K : zK [1, 2, 101, 102] Z Z9 := zK_u zK_r hZ9 (by decide)
          intro μ9 e9
          replace e9 := e9.trans (zm_wI (Z := Z) (ν := ν) hZ9 (show ((0 : Nat) : Int) = 0 from rfl) (show ((0 : Nat) : Int) = 0 from rfl) (show ((2 : Nat) : Int) = 2 from rfl) (show (0 : Int32) = i3 0 from rfl))
          subst e9
          refine wz_i0 (Eq.trans (i3Le (show (6 : Int32) = i3 6 from rfl) (Eq.trans (zm_rd (Z := Z9) (ν := ν) (k := 2) (show ((0 : Nat) : Int) = 0 from rfl) (show ((0 : Nat) : Int) = 0 from rfl) (show ((101 : Nat) : Int) = 101 from rfl)) (congrArg i3 ((zu_ne (k' := 2) (b' := 0) (i' := 0) (j' := 101) hZ9 (fun q => absurd q.1 (by decide))).trans ((hF 2 0 101 (by decide)).trans ((show frz 2 0 101 = 0 from by decide)))))) (by omega) (by omega) (by omega) (by omega)) (decide_eq_false (by omega))) ?_
          obtain ⟨Z10, hZ10⟩ := zx (zu Z9 1 0 0 2 0)
          have hZ10I := zI_0 hZ9I hZ10 (by decide) (Or.inr (by decide))
          have hZ10K := zK_u hZ9K hZ10 (by decide)
          intro μ9 e9
          replace e9 := e9.trans (zm_wI (Z := Z9) (ν := ν) hZ10 (show ((0 : Nat) : Int) = 0 from rfl) (show ((0 : Nat) : Int) = 0 from rfl) (show ((2 : Nat) : Int) = 2 from rfl) (show (0 : Int32) = i3 0 from rfl))
          subst e9
          refine wz_i0 (Eq.trans (i3NE (Eq.trans (zm_rd (Z := Z10) (ν := ν) (k := 1) (show ((0 : Nat) : Int) = 0 from rfl) (show ((0 : Nat) : Int) = 0 from rfl) (show ((35 : Nat) : Int) = 35 from rfl)) (congrArg i3 ((zu_ne (k' := 1) (b' := 0) (i' := 0) (j' := 35) hZ10 (fun q => absurd q.2.2.2 (by decide))).trans ((zu_ne (k' := 1) (b' := 0) (i' := 0) (j' := 35) hZ9 (fun q => absurd q.2.2.2 (by decide))).trans ((hF 1 0 35 (by decide)).trans ((show frz 1 0 35 = 0 from by decide))))))) (show (0 : Int32) = i3 0 from rfl) (by omega) (by omega) (by omega) (by omega)) (decide_eq_false (by omega))) ?_
          have e11 : Z10 1 0 0 34 = 0 := (zu_ne (k' := 1) (b' := 0) (i' := 0) (j' := 34) hZ10 (fun q => absurd q.2.2.2 (by decide))).trans ((zu_ne (k' := 1) (b' := 0) (i' := 0) (j' := 34) hZ9 (fun q => absurd q.2.2.2 (by decide))).trans ((hF 1 0 34 (by decide)).trans ((show frz 1 0 34 = 0 from by decide))))
          obtain ⟨Z12, hZ12, c9, hZ12I, kZ12, wZ120, wZ121, wZ122⟩ := sp_557 (ν := ν) hZ10I (a1 := (-1)) (by omega) (by omega)
          have hZ12K : zK [1, 2, 101, 102] Z Z12 := zK_t hZ10K kZ12 (by decide)
          refine wz_cV_of (zas (zcons rfl (zcons (zvi (show (-1 : Int32) = i3 (-1) from rfl)) rfl)) c9) ?_
          clear c9
          have e13 : Z12 1 0 0 37 = 0 := (wZ122).trans ((zu_ne (k' := 1) (b' := 0) (i' := 0) (j' := 37) hZ10 (fun q => absurd q.2.2.2 (by decide))).trans ((zu_ne (k' := 1) (b' := 0) (i' := 0) (j' := 37) hZ9 (fun q => absurd q.2.2.2 (by decide))).trans ((hF 1 0 37 (by decide)).trans ((show frz 1 0 37 = 0 from by decide)))))
          obtain ⟨Z14, hZ14, c9, hZ14I, kZ14, wZ140, wZ141⟩ := sp_563 (ν := ν) hZ12I (a1 := 2) (by omega) (a2 := a1) (by omega) (a3 := a2) (by omega) (a4 := 0) (by omega) (a5 := 0) (by omega) (a6 := 0) (by omega) (a7 := 0) (by omega) (by omega) rrec
          have hZ14K : zK [1, 2, 101, 102] Z Z14 := zK_t hZ12K kZ14 (by decide)
          refine wz_cV_of (zas (zcons rfl (zcons (zvi (show (2 : Int32) = i3 2 from rfl)) (zcons (zvi (rfl : i3 a1 = i3 a1)) (zcons (zvi (rfl : i3 a2 = i3 a2)) (zcons (zvi (show (0 : Int32) = i3 0 from rfl)) (zcons (zvi (show (0 : Int32) = i3 0 from rfl)) (zcons (zvi (show (0 : Int32) = i3 0 from rfl)) (zcons (zvi (show (0 : Int32) = i3 0 from rfl)) rfl)))))))) c9) ?_
          clear c9
          refine wz_i0 (i3O (n := 4400) (i3A (show (140 : Int32) = i3 140 from rfl) (i3M (show (2 : Int32) = i3 2 from rfl) (Eq.trans (zm_rd (Z := Z14) (ν := ν) (k := 2) (show ((0 : Nat) : Int) = 0 from rfl) (show ((0 : Nat) : Int) = 0 from rfl) (show ((101 : Nat) : Int) = 101 from rfl)) (congrArg i3 ((kZ14 2 (by decide) 0 0 101).trans ((kZ12 2 (by decide) 0 0 101).trans ((zu_ne (k' := 2) (b' := 0) (i' := 0) (j' := 101) hZ10 (fun q => absurd q.1 (by decide))).trans ((zu_ne (k' := 2) (b' := 0) (i' := 0) (j' := 101) hZ9 (fun q => absurd q.1 (by decide))).trans ((hF 2 0 101 (by decide)).trans ((show frz 2 0 101 = 0 from by decide))))))))))) (by omega) (by omega) (by omega)) ?_
          obtain ⟨Z15, hZ15⟩ := zx (zu Z14 2 0 0 140 a1)
          have hZ15I := zI_u hZ14I hZ15 (lo := 0) (hi := 25) (by decide) rfl (by omega) ⟨by decide, by decide⟩ (Or.inl (by decide))
          have hZ15K := zK_u hZ14K hZ15 (by decide)
          intro μ9 e9
          replace e9 := e9.trans (zm_wI (Z := Z14) (ν := ν) hZ15 (show ((0 : Nat) : Int) = 0 from rfl) (show ((0 : Nat) : Int) = 0 from rfl) (i3I (y := 140) (i3A (show (140 : Int32) = i3 140 from rfl) (i3M (show (2 : Int32) = i3 2 from rfl) (Eq.trans (zm_rd (Z := Z14) (ν := ν) (k := 2) (show ((0 : Nat) : Int) = 0 from rfl) (show ((0 : Nat) : Int) = 0 from rfl) (show ((101 : Nat) : Int) = 101 from rfl)) (congrArg i3 ((kZ14 2 (by decide) 0 0 101).trans ((kZ12 2 (by decide) 0 0 101).trans ((zu_ne (k' := 2) (b' := 0) (i' := 0) (j' := 101) hZ10 (fun q => absurd q.1 (by decide))).trans ((zu_ne (k' := 2) (b' := 0) (i' := 0) (j' := 101) hZ9 (fun q => absurd q.1 (by decide))).trans ((hF 2 0 101 (by decide)).trans ((show frz 2 0 101 = 0 from by decide))))))))))) (by omega) (by omega) (by omega)) (rfl : i3 a1 = i3 a1))
          subst e9
          refine wz_i0 (i3O (n := 4400) (i3A (i3A (show (140 : Int32) = i3 140 from rfl) (i3M (show (2 : Int32) = i3 2 from rfl) (Eq.trans (zm_rd (Z := Z14) (ν := ν) (k := 2) (show ((0 : Nat) : Int) = 0 from rfl) (show ((0 : Nat) : Int) = 0 from rfl) (show ((101 : Nat) : Int) = 101 from rfl)) (congrArg i3 ((kZ14 2 (by decide) 0 0 101).trans ((kZ12 2 (by decide) 0 0 101).trans ((zu_ne (k' := 2) (b' := 0) (i' := 0) (j' := 101) hZ10 (fun q => absurd q.1 (by decide))).trans ((zu_ne (k' := 2) (b' := 0) (i' := 0) (j' := 101) hZ9 (fun q => absurd q.1 (by decide))).trans ((hF 2 0 101 (by decide)).trans ((show frz 2 0 101 = 0 from by decide))))))))))) (show (1 : Int32) = i3 1 from rfl)) (by omega) (by omega) (by omega)) ?_
          obtain ⟨Z16, hZ16⟩ := zx (zu Z15 2 0 0 141 a2)
          have hZ16I := zI_u hZ15I hZ16 (lo := 0) (hi := 9) (by decide) rfl (by omega) ⟨by decide, by decide⟩ (Or.inl (by decide))
          have hZ16K := zK_u hZ15K hZ16 (by decide)
          intro μ9 e9
          replace e9 := e9.trans (zm_wI (Z := Z15) (ν := ν) hZ16 (show ((0 : Nat) : Int) = 0 from rfl) (show ((0 : Nat) : Int) = 0 from rfl) (i3I (y := 141) (i3A (i3A (show (140 : Int32) = i3 140 from rfl) (i3M (show (2 : Int32) = i3 2 from rfl) (Eq.trans (zm_rd (Z := Z14) (ν := ν) (k := 2) (show ((0 : Nat) : Int) = 0 from rfl) (show ((0 : Nat) : Int) = 0 from rfl) (show ((101 : Nat) : Int) = 101 from rfl)) (congrArg i3 ((kZ14 2 (by decide) 0 0 101).trans ((kZ12 2 (by decide) 0 0 101).trans ((zu_ne (k' := 2) (b' := 0) (i' := 0) (j' := 101) hZ10 (fun q => absurd q.1 (by decide))).trans ((zu_ne (k' := 2) (b' := 0) (i' := 0) (j' := 101) hZ9 (fun q => absurd q.1 (by decide))).trans ((hF 2 0 101 (by decide)).trans ((show frz 2 0 101 = 0 from by decide))))))))))) (show (1 : Int32) = i3 1 from rfl)) (by omega) (by omega) (by omega)) (rfl : i3 a2 = i3 a2))
          subst e9
          obtain ⟨Z17, hZ17⟩ := zx (zu Z16 2 0 0 101 (0 + 1))
          have hZ17I := zI_u hZ16I hZ17 (lo := 0) (hi := 6) (by decide) rfl (by omega) ⟨by decide, by decide⟩ (Or.inl (by decide))
          have hZ17K := zK_u hZ16K hZ17 (by decide)
          intro μ9 e9
          replace e9 := e9.trans (zm_wI (Z := Z16) (ν := ν) hZ17 (show ((0 : Nat) : Int) = 0 from rfl) (show ((0 : Nat) : Int) = 0 from rfl) (show ((101 : Nat) : Int) = 101 from rfl) (i3A (Eq.trans (zm_rd (Z := Z16) (ν := ν) (k := 2) (show ((0 : Nat) : Int) = 0 from rfl) (show ((0 : Nat) : Int) = 0 from rfl) (show ((101 : Nat) : Int) = 101 from rfl)) (congrArg i3 ((zu_ne (k' := 2) (b' := 0) (i' := 0) (j' := 101) hZ16 (fun q => absurd q.2.2.2 (by decide))).trans ((zu_ne (k' := 2) (b' := 0) (i' := 0) (j' := 101) hZ15 (fun q => absurd q.2.2.2 (by decide))).trans ((kZ14 2 (by decide) 0 0 101).trans ((kZ12 2 (by decide) 0 0 101).trans ((zu_ne (k' := 2) (b' := 0) (i' := 0) (j' := 101) hZ10 (fun q => absurd q.1 (by decide))).trans ((zu_ne (k' := 2) (b' := 0) (i' := 0) (j' := 101) hZ9 (fun q => absurd q.1 (by decide))).trans ((hF 2 0 101 (by decide)).trans ((show frz 2 0 101 = 0 from by decide))))))))))) (show (1 : Int32) = i3 1 from rfl)))
          subst e9
          exact zlM hP (Eq.trans (zm_rd (Z := Z14) (ν := ν) (k := 2) (show ((0 : Nat) : Int) = 0 from rfl) (show ((0 : Nat) : Int) = 0 from rfl) (show ((101 : Nat) : Int) = 101 from rfl)) (congrArg i3 ((kZ14 2 (by decide) 0 0 101).trans ((kZ12 2 (by decide) 0 0 101).trans ((zu_ne (k' := 2) (b' := 0) (i' := 0) (j' := 101) hZ10 (fun q => absurd q.1 (by decide))).trans ((zu_ne (k' := 2) (b' := 0) (i' := 0) (j' := 101) hZ9 (fun q => absurd q.1 (by decide))).trans ((hF 2 0 101 (by decide)).trans ((show frz 2 0 101 = 0 from by decide))))))))) ((zu_ne (k' := 1) (b' := 0) (i' := 0) (j' := 2) hZ17 (fun q => absurd q.1 (by decide))).trans ((zu_ne (k' := 1) (b' := 0) (i' := 0) (j' := 2) hZ16 (fun q => absurd q.1 (by decide))).trans ((zu_ne (k' := 1) (b' := 0) (i' := 0) (j' := 2) hZ15 (fun q => absurd q.1 (by decide))).trans ((wZ140).trans ((wZ120).trans (zu_at hZ10)))))) ⟨hZ17I, hZ17K, zN_r⟩

/- yX12_grown -/
def zg_348 (a1 : Int) (a2 : Int) : Int × Int := (if a1 < 0 then (0, 1) else (0, 1))
theorem sg_348 {Z : qz_Z} {ν : qz_N} (hZ : zI none Z) (hF : zFm Z) {a1 : Int} (ga1 : -2147483648 ≤ a1 ∧ a1 ≤ 2147483647) {a2 : Int} (ga2 : -2147483648 ≤ a2 ∧ a2 ≤ 2147483647) : ∃ (Z1 : qz_Z) (ν1 : qz_N) (v t : Int), (v, t) = zg_348 a1 a2 ∧ qf_348 [.inr (.inr (some (1, 0, 0))), .inl (i3 a1), .inl (i3 a2)] (zm Z ν) = some (zm Z1 ν1, .inl (some (.inl (i3 v)))) ∧ Z1 1 0 0 2 = t ∧ (fun Z1 ν1 => zI none Z1 ∧ zK [1] Z Z1 ∧ zN ν ν1) Z1 ν1 := by
  obtain ⟨P, hP⟩ := zx (zg_348 a1 a2)
  refine zc_M (Q := fun Z1 ν1 => zI none Z1 ∧ zK [1] Z Z1 ∧ zN ν ν1) hP (fw_348 (i3 a1) (i3 a2) _ _ ?_)
  replace hP : zE P (zg_348 a1 a2) := hP
  unfold zg_348 at hP
  refine wz_br (i3L (rfl : i3 a1 = i3 a1) (show (0 : Int32) = i3 0 from rfl) (by omega) (by omega) (by omega) (by omega)) (fun h1 => ?_) (fun h1 => ?_)
  · replace hP := zE_p hP h1
    obtain ⟨Z2, hZ2⟩ := zx (zu Z 1 0 0 2 1)
    have hZ2I := zI_u hZ hZ2 (lo := -2147483648) (hi := 2147483647) (by decide) rfl (by omega) ⟨by decide, by decide⟩ (Or.inr (by decide))
    have hZ2K : zK [1] Z Z2 := zK_u zK_r hZ2 (by decide)
    intro μ9 e9
    replace e9 := e9.trans (zm_wI (Z := Z) (ν := ν) hZ2 (show ((0 : Nat) : Int) = 0 from rfl) (show ((0 : Nat) : Int) = 0 from rfl) (show ((2 : Nat) : Int) = 2 from rfl) (show (1 : Int32) = i3 1 from rfl))
    subst e9
    exact zlM hP (show (0 : Int32) = i3 0 from rfl) (zu_at hZ2) ⟨hZ2I, hZ2K, zN_r⟩
  · replace hP := zE_n hP h1
    refine wz_i1 (Eq.trans (i3L (i3S (Eq.trans (zm_rd (Z := Z) (ν := ν) (k := 2) (show ((0 : Nat) : Int) = 0 from rfl) (show ((0 : Nat) : Int) = 0 from rfl) (show ((101 : Nat) : Int) = 101 from rfl)) (congrArg i3 ((hF 2 0 101 (by decide)).trans ((show frz 2 0 101 = 0 from by decide))))) (show (1 : Int32) = i3 1 from rfl)) (rfl : i3 a1 = i3 a1) (by omega) (by omega) (by omega) (by omega)) (decide_eq_true (by omega))) ?_
    obtain ⟨Z3, hZ3⟩ := zx (zu Z 1 0 0 2 1)
    have hZ3I := zI_u hZ hZ3 (lo := -2147483648) (hi := 2147483647) (by decide) rfl (by omega) ⟨by decide, by decide⟩ (Or.inr (by decide))
    have hZ3K : zK [1] Z Z3 := zK_u zK_r hZ3 (by decide)
    intro μ9 e9
    replace e9 := e9.trans (zm_wI (Z := Z) (ν := ν) hZ3 (show ((0 : Nat) : Int) = 0 from rfl) (show ((0 : Nat) : Int) = 0 from rfl) (show ((2 : Nat) : Int) = 2 from rfl) (show (1 : Int32) = i3 1 from rfl))
    subst e9
    exact zlM hP (show (0 : Int32) = i3 0 from rfl) (zu_at hZ3) ⟨hZ3I, hZ3K, zN_r⟩

/- yX12_gas -/
def zg_344 (a1 : Int) (a2 : Int) : Int × Int := (if a1 < 0 then (0, 1) else (0, 1))
theorem sg_344 {Z : qz_Z} {ν : qz_N} (hZ : zI none Z) (hF : zFm Z) {a1 : Int} (ga1 : -2147483648 ≤ a1 ∧ a1 ≤ 2147483647) {a2 : Int} (ga2 : -2147483648 ≤ a2 ∧ a2 ≤ 2147483647) : ∃ (Z1 : qz_Z) (ν1 : qz_N) (v t : Int), (v, t) = zg_344 a1 a2 ∧ qf_344 [.inr (.inr (some (1, 0, 0))), .inl (i3 a1), .inl (i3 a2)] (zm Z ν) = some (zm Z1 ν1, .inl (some (.inl (i3 v)))) ∧ Z1 1 0 0 2 = t ∧ (fun Z1 ν1 => zI none Z1 ∧ zK [1] Z Z1 ∧ zN ν ν1) Z1 ν1 := by
  obtain ⟨P, hP⟩ := zx (zg_344 a1 a2)
  refine zc_M (Q := fun Z1 ν1 => zI none Z1 ∧ zK [1] Z Z1 ∧ zN ν ν1) hP (fw_344 (i3 a1) (i3 a2) _ _ ?_)
  replace hP : zE P (zg_344 a1 a2) := hP
  unfold zg_344 at hP
  refine wz_br (i3L (rfl : i3 a1 = i3 a1) (show (0 : Int32) = i3 0 from rfl) (by omega) (by omega) (by omega) (by omega)) (fun h1 => ?_) (fun h1 => ?_)
  · replace hP := zE_p hP h1
    obtain ⟨Z2, hZ2⟩ := zx (zu Z 1 0 0 2 1)
    have hZ2I := zI_u hZ hZ2 (lo := -2147483648) (hi := 2147483647) (by decide) rfl (by omega) ⟨by decide, by decide⟩ (Or.inr (by decide))
    have hZ2K : zK [1] Z Z2 := zK_u zK_r hZ2 (by decide)
    intro μ9 e9
    replace e9 := e9.trans (zm_wI (Z := Z) (ν := ν) hZ2 (show ((0 : Nat) : Int) = 0 from rfl) (show ((0 : Nat) : Int) = 0 from rfl) (show ((2 : Nat) : Int) = 2 from rfl) (show (1 : Int32) = i3 1 from rfl))
    subst e9
    exact zlM hP (show (0 : Int32) = i3 0 from rfl) (zu_at hZ2) ⟨hZ2I, hZ2K, zN_r⟩
  · replace hP := zE_n hP h1
    refine wz_i1 (Eq.trans (i3L (i3S (Eq.trans (zm_rd (Z := Z) (ν := ν) (k := 2) (show ((0 : Nat) : Int) = 0 from rfl) (show ((0 : Nat) : Int) = 0 from rfl) (show ((1200 : Nat) : Int) = 1200 from rfl)) (congrArg i3 ((hF 2 0 1200 (by decide)).trans ((show frz 2 0 1200 = 0 from by decide))))) (show (1 : Int32) = i3 1 from rfl)) (rfl : i3 a1 = i3 a1) (by omega) (by omega) (by omega) (by omega)) (decide_eq_true (by omega))) ?_
    obtain ⟨Z3, hZ3⟩ := zx (zu Z 1 0 0 2 1)
    have hZ3I := zI_u hZ hZ3 (lo := -2147483648) (hi := 2147483647) (by decide) rfl (by omega) ⟨by decide, by decide⟩ (Or.inr (by decide))
    have hZ3K : zK [1] Z Z3 := zK_u zK_r hZ3 (by decide)
    intro μ9 e9
    replace e9 := e9.trans (zm_wI (Z := Z) (ν := ν) hZ3 (show ((0 : Nat) : Int) = 0 from rfl) (show ((0 : Nat) : Int) = 0 from rfl) (show ((2 : Nat) : Int) = 2 from rfl) (show (1 : Int32) = i3 1 from rfl))
    subst e9
    exact zlM hP (show (0 : Int32) = i3 0 from rfl) (zu_at hZ3) ⟨hZ3I, hZ3K, zN_r⟩

/- yX12_dump -/
def zg_338 (a1 : Int) : Int × Int := (if a1 < 0 then (0, 1) else (0, 1))
theorem sg_338 {Z : qz_Z} {ν : qz_N} (hZ : zI none Z) (hF : zFm Z) {a1 : Int} (ga1 : -2147483648 ≤ a1 ∧ a1 ≤ 2147483647) : ∃ (Z1 : qz_Z) (ν1 : qz_N) (v t : Int), (v, t) = zg_338 a1 ∧ qf_338 [.inr (.inr (some (1, 0, 0))), .inl (i3 a1)] (zm Z ν) = some (zm Z1 ν1, .inl (some (.inl (i3 v)))) ∧ Z1 1 0 0 2 = t ∧ (fun Z1 ν1 => zI none Z1 ∧ zK [1] Z Z1 ∧ zN ν ν1) Z1 ν1 := by
  obtain ⟨P, hP⟩ := zx (zg_338 a1)
  refine zc_M (Q := fun Z1 ν1 => zI none Z1 ∧ zK [1] Z Z1 ∧ zN ν ν1) hP (fw_338 (i3 a1) _ _ ?_)
  replace hP : zE P (zg_338 a1) := hP
  unfold zg_338 at hP
  refine wz_br (i3L (rfl : i3 a1 = i3 a1) (show (0 : Int32) = i3 0 from rfl) (by omega) (by omega) (by omega) (by omega)) (fun h1 => ?_) (fun h1 => ?_)
  · replace hP := zE_p hP h1
    obtain ⟨Z2, hZ2⟩ := zx (zu Z 1 0 0 2 1)
    have hZ2I := zI_u hZ hZ2 (lo := -2147483648) (hi := 2147483647) (by decide) rfl (by omega) ⟨by decide, by decide⟩ (Or.inr (by decide))
    have hZ2K : zK [1] Z Z2 := zK_u zK_r hZ2 (by decide)
    intro μ9 e9
    replace e9 := e9.trans (zm_wI (Z := Z) (ν := ν) hZ2 (show ((0 : Nat) : Int) = 0 from rfl) (show ((0 : Nat) : Int) = 0 from rfl) (show ((2 : Nat) : Int) = 2 from rfl) (show (1 : Int32) = i3 1 from rfl))
    subst e9
    exact zlM hP (show (0 : Int32) = i3 0 from rfl) (zu_at hZ2) ⟨hZ2I, hZ2K, zN_r⟩
  · replace hP := zE_n hP h1
    refine wz_i1 (Eq.trans (i3L (i3S (Eq.trans (zm_rd (Z := Z) (ν := ν) (k := 2) (show ((0 : Nat) : Int) = 0 from rfl) (show ((0 : Nat) : Int) = 0 from rfl) (show ((102 : Nat) : Int) = 102 from rfl)) (congrArg i3 ((hF 2 0 102 (by decide)).trans ((show frz 2 0 102 = 0 from by decide))))) (show (1 : Int32) = i3 1 from rfl)) (rfl : i3 a1 = i3 a1) (by omega) (by omega) (by omega) (by omega)) (decide_eq_true (by omega))) ?_
    obtain ⟨Z3, hZ3⟩ := zx (zu Z 1 0 0 2 1)
    have hZ3I := zI_u hZ hZ3 (lo := -2147483648) (hi := 2147483647) (by decide) rfl (by omega) ⟨by decide, by decide⟩ (Or.inr (by decide))
    have hZ3K : zK [1] Z Z3 := zK_u zK_r hZ3 (by decide)
    intro μ9 e9
    replace e9 := e9.trans (zm_wI (Z := Z) (ν := ν) hZ3 (show ((0 : Nat) : Int) = 0 from rfl) (show ((0 : Nat) : Int) = 0 from rfl) (show ((2 : Nat) : Int) = 2 from rfl) (show (1 : Int32) = i3 1 from rfl))
    subst e9
    exact zlM hP (show (0 : Int32) = i3 0 from rfl) (zu_at hZ3) ⟨hZ3I, hZ3K, zN_r⟩

/- yX12_ripe -/
def zg_494 (a1 : Int) (a2 : Int) (a3 : Int) : Int × Int := (if a1 < 0 then (0, 1) else (0, 1))
theorem sg_494 {Z : qz_Z} {ν : qz_N} (hZ : zI none Z) (hF : zFm Z) {a1 : Int} (ga1 : -2147483648 ≤ a1 ∧ a1 ≤ 2147483647) {a2 : Int} (ga2 : -2147483648 ≤ a2 ∧ a2 ≤ 2147483647) {a3 : Int} (ga3 : -2147483648 ≤ a3 ∧ a3 ≤ 2147483647) : ∃ (Z1 : qz_Z) (ν1 : qz_N) (v t : Int), (v, t) = zg_494 a1 a2 a3 ∧ qf_494 [.inr (.inr (some (1, 0, 0))), .inl (i3 a1), .inl (i3 a2), .inl (i3 a3)] (zm Z ν) = some (zm Z1 ν1, .inl (some (.inl (i3 v)))) ∧ Z1 1 0 0 2 = t ∧ (fun Z1 ν1 => zI none Z1 ∧ zK [1] Z Z1 ∧ zN ν ν1) Z1 ν1 := by
  obtain ⟨P, hP⟩ := zx (zg_494 a1 a2 a3)
  refine zc_M (Q := fun Z1 ν1 => zI none Z1 ∧ zK [1] Z Z1 ∧ zN ν ν1) hP (fw_494 (i3 a1) (i3 a2) (i3 a3) _ _ ?_)
  replace hP : zE P (zg_494 a1 a2 a3) := hP
  unfold zg_494 at hP
  refine wz_br (i3L (rfl : i3 a1 = i3 a1) (show (0 : Int32) = i3 0 from rfl) (by omega) (by omega) (by omega) (by omega)) (fun h1 => ?_) (fun h1 => ?_)
  · replace hP := zE_p hP h1
    obtain ⟨Z2, hZ2⟩ := zx (zu Z 1 0 0 2 1)
    have hZ2I := zI_u hZ hZ2 (lo := -2147483648) (hi := 2147483647) (by decide) rfl (by omega) ⟨by decide, by decide⟩ (Or.inr (by decide))
    have hZ2K : zK [1] Z Z2 := zK_u zK_r hZ2 (by decide)
    intro μ9 e9
    replace e9 := e9.trans (zm_wI (Z := Z) (ν := ν) hZ2 (show ((0 : Nat) : Int) = 0 from rfl) (show ((0 : Nat) : Int) = 0 from rfl) (show ((2 : Nat) : Int) = 2 from rfl) (show (1 : Int32) = i3 1 from rfl))
    subst e9
    exact zlM hP (show (0 : Int32) = i3 0 from rfl) (zu_at hZ2) ⟨hZ2I, hZ2K, zN_r⟩
  · replace hP := zE_n hP h1
    refine wz_i1 (Eq.trans (i3L (i3S (Eq.trans (zm_rd (Z := Z) (ν := ν) (k := 2) (show ((0 : Nat) : Int) = 0 from rfl) (show ((0 : Nat) : Int) = 0 from rfl) (show ((102 : Nat) : Int) = 102 from rfl)) (congrArg i3 ((hF 2 0 102 (by decide)).trans ((show frz 2 0 102 = 0 from by decide))))) (show (1 : Int32) = i3 1 from rfl)) (rfl : i3 a1 = i3 a1) (by omega) (by omega) (by omega) (by omega)) (decide_eq_true (by omega))) ?_
    obtain ⟨Z3, hZ3⟩ := zx (zu Z 1 0 0 2 1)
    have hZ3I := zI_u hZ hZ3 (lo := -2147483648) (hi := 2147483647) (by decide) rfl (by omega) ⟨by decide, by decide⟩ (Or.inr (by decide))
    have hZ3K : zK [1] Z Z3 := zK_u zK_r hZ3 (by decide)
    intro μ9 e9
    replace e9 := e9.trans (zm_wI (Z := Z) (ν := ν) hZ3 (show ((0 : Nat) : Int) = 0 from rfl) (show ((0 : Nat) : Int) = 0 from rfl) (show ((2 : Nat) : Int) = 2 from rfl) (show (1 : Int32) = i3 1 from rfl))
    subst e9
    exact zlM hP (show (0 : Int32) = i3 0 from rfl) (zu_at hZ3) ⟨hZ3I, hZ3K, zN_r⟩

/- yX12_cancel -/
def zg_315 (a1 : Int) : Int × Int := (if a1 < 0 then (0, 1) else (0, 1))
theorem sg_315 {Z : qz_Z} {ν : qz_N} (hZ : zI none Z) (hF : zFm Z) {a1 : Int} (ga1 : -2147483648 ≤ a1 ∧ a1 ≤ 2147483647) : ∃ (Z1 : qz_Z) (ν1 : qz_N) (v t : Int), (v, t) = zg_315 a1 ∧ qf_315 [.inr (.inr (some (1, 0, 0))), .inl (i3 a1)] (zm Z ν) = some (zm Z1 ν1, .inl (some (.inl (i3 v)))) ∧ Z1 1 0 0 2 = t ∧ (fun Z1 ν1 => zI none Z1 ∧ zK [1] Z Z1 ∧ zN ν ν1) Z1 ν1 := by
  obtain ⟨P, hP⟩ := zx (zg_315 a1)
  refine zc_M (Q := fun Z1 ν1 => zI none Z1 ∧ zK [1] Z Z1 ∧ zN ν ν1) hP (fw_315 (i3 a1) _ _ ?_)
  replace hP : zE P (zg_315 a1) := hP
  unfold zg_315 at hP
  refine wz_br (i3L (rfl : i3 a1 = i3 a1) (show (0 : Int32) = i3 0 from rfl) (by omega) (by omega) (by omega) (by omega)) (fun h1 => ?_) (fun h1 => ?_)
  · replace hP := zE_p hP h1
    obtain ⟨Z2, hZ2⟩ := zx (zu Z 1 0 0 2 1)
    have hZ2I := zI_u hZ hZ2 (lo := -2147483648) (hi := 2147483647) (by decide) rfl (by omega) ⟨by decide, by decide⟩ (Or.inr (by decide))
    have hZ2K : zK [1] Z Z2 := zK_u zK_r hZ2 (by decide)
    intro μ9 e9
    replace e9 := e9.trans (zm_wI (Z := Z) (ν := ν) hZ2 (show ((0 : Nat) : Int) = 0 from rfl) (show ((0 : Nat) : Int) = 0 from rfl) (show ((2 : Nat) : Int) = 2 from rfl) (show (1 : Int32) = i3 1 from rfl))
    subst e9
    exact zlM hP (show (0 : Int32) = i3 0 from rfl) (zu_at hZ2) ⟨hZ2I, hZ2K, zN_r⟩
  · replace hP := zE_n hP h1
    refine wz_i1 (Eq.trans (i3L (i3S (Eq.trans (zm_rd (Z := Z) (ν := ν) (k := 2) (show ((0 : Nat) : Int) = 0 from rfl) (show ((0 : Nat) : Int) = 0 from rfl) (show ((1401 : Nat) : Int) = 1401 from rfl)) (congrArg i3 ((hF 2 0 1401 (by decide)).trans ((show frz 2 0 1401 = 0 from by decide))))) (show (1 : Int32) = i3 1 from rfl)) (rfl : i3 a1 = i3 a1) (by omega) (by omega) (by omega) (by omega)) (decide_eq_true (by omega))) ?_
    obtain ⟨Z3, hZ3⟩ := zx (zu Z 1 0 0 2 1)
    have hZ3I := zI_u hZ hZ3 (lo := -2147483648) (hi := 2147483647) (by decide) rfl (by omega) ⟨by decide, by decide⟩ (Or.inr (by decide))
    have hZ3K : zK [1] Z Z3 := zK_u zK_r hZ3 (by decide)
    intro μ9 e9
    replace e9 := e9.trans (zm_wI (Z := Z) (ν := ν) hZ3 (show ((0 : Nat) : Int) = 0 from rfl) (show ((0 : Nat) : Int) = 0 from rfl) (show ((2 : Nat) : Int) = 2 from rfl) (show (1 : Int32) = i3 1 from rfl))
    subst e9
    exact zlM hP (show (0 : Int32) = i3 0 from rfl) (zu_at hZ3) ⟨hZ3I, hZ3K, zN_r⟩

/- yX12_ordered -/
def zg_442 (a1 : Int) (a2 : Int) : Int × Int := (if a1 < 0 then (0, 1) else (0, 1))
theorem sg_442 {Z : qz_Z} {ν : qz_N} (hZ : zI none Z) (hF : zFm Z) {a1 : Int} (ga1 : -2147483648 ≤ a1 ∧ a1 ≤ 2147483647) {a2 : Int} (ga2 : -2147483648 ≤ a2 ∧ a2 ≤ 2147483647) : ∃ (Z1 : qz_Z) (ν1 : qz_N) (v t : Int), (v, t) = zg_442 a1 a2 ∧ qf_442 [.inr (.inr (some (1, 0, 0))), .inl (i3 a1), .inl (i3 a2)] (zm Z ν) = some (zm Z1 ν1, .inl (some (.inl (i3 v)))) ∧ Z1 1 0 0 2 = t ∧ (fun Z1 ν1 => zI none Z1 ∧ zK [1] Z Z1 ∧ zN ν ν1) Z1 ν1 := by
  obtain ⟨P, hP⟩ := zx (zg_442 a1 a2)
  refine zc_M (Q := fun Z1 ν1 => zI none Z1 ∧ zK [1] Z Z1 ∧ zN ν ν1) hP (fw_442 (i3 a1) (i3 a2) _ _ ?_)
  replace hP : zE P (zg_442 a1 a2) := hP
  unfold zg_442 at hP
  refine wz_br (i3L (rfl : i3 a1 = i3 a1) (show (0 : Int32) = i3 0 from rfl) (by omega) (by omega) (by omega) (by omega)) (fun h1 => ?_) (fun h1 => ?_)
  · replace hP := zE_p hP h1
    obtain ⟨Z2, hZ2⟩ := zx (zu Z 1 0 0 2 1)
    have hZ2I := zI_u hZ hZ2 (lo := -2147483648) (hi := 2147483647) (by decide) rfl (by omega) ⟨by decide, by decide⟩ (Or.inr (by decide))
    have hZ2K : zK [1] Z Z2 := zK_u zK_r hZ2 (by decide)
    intro μ9 e9
    replace e9 := e9.trans (zm_wI (Z := Z) (ν := ν) hZ2 (show ((0 : Nat) : Int) = 0 from rfl) (show ((0 : Nat) : Int) = 0 from rfl) (show ((2 : Nat) : Int) = 2 from rfl) (show (1 : Int32) = i3 1 from rfl))
    subst e9
    exact zlM hP (show (0 : Int32) = i3 0 from rfl) (zu_at hZ2) ⟨hZ2I, hZ2K, zN_r⟩
  · replace hP := zE_n hP h1
    refine wz_i1 (Eq.trans (i3L (i3S (Eq.trans (zm_rd (Z := Z) (ν := ν) (k := 2) (show ((0 : Nat) : Int) = 0 from rfl) (show ((0 : Nat) : Int) = 0 from rfl) (show ((1401 : Nat) : Int) = 1401 from rfl)) (congrArg i3 ((hF 2 0 1401 (by decide)).trans ((show frz 2 0 1401 = 0 from by decide))))) (show (1 : Int32) = i3 1 from rfl)) (rfl : i3 a1 = i3 a1) (by omega) (by omega) (by omega) (by omega)) (decide_eq_true (by omega))) ?_
    obtain ⟨Z3, hZ3⟩ := zx (zu Z 1 0 0 2 1)
    have hZ3I := zI_u hZ hZ3 (lo := -2147483648) (hi := 2147483647) (by decide) rfl (by omega) ⟨by decide, by decide⟩ (Or.inr (by decide))
    have hZ3K : zK [1] Z Z3 := zK_u zK_r hZ3 (by decide)
    intro μ9 e9
    replace e9 := e9.trans (zm_wI (Z := Z) (ν := ν) hZ3 (show ((0 : Nat) : Int) = 0 from rfl) (show ((0 : Nat) : Int) = 0 from rfl) (show ((2 : Nat) : Int) = 2 from rfl) (show (1 : Int32) = i3 1 from rfl))
    subst e9
    exact zlM hP (show (0 : Int32) = i3 0 from rfl) (zu_at hZ3) ⟨hZ3I, hZ3K, zN_r⟩

/- yX12_queue -/
def zg_459 (a1 : Int) (a2 : Int) (a3 : Int) (a4 : Int) : Int × Int := (if a1 < 0 then (0, 1) else (0, 1))
theorem sg_459 {Z : qz_Z} {ν : qz_N} (hZ : zI none Z) (hF : zFm Z) {a1 : Int} (ga1 : -2147483648 ≤ a1 ∧ a1 ≤ 2147483647) {a2 : Int} (ga2 : -2147483648 ≤ a2 ∧ a2 ≤ 2147483647) {a3 : Int} (ga3 : -2147483648 ≤ a3 ∧ a3 ≤ 2147483647) {a4 : Int} (ga4 : -2147483648 ≤ a4 ∧ a4 ≤ 2147483647) : ∃ (Z1 : qz_Z) (ν1 : qz_N) (v t : Int), (v, t) = zg_459 a1 a2 a3 a4 ∧ qf_459 [.inr (.inr (some (1, 0, 0))), .inl (i3 a1), .inl (i3 a2), .inl (i3 a3), .inl (i3 a4)] (zm Z ν) = some (zm Z1 ν1, .inl (some (.inl (i3 v)))) ∧ Z1 1 0 0 2 = t ∧ (fun Z1 ν1 => zI none Z1 ∧ zK [1] Z Z1 ∧ zN ν ν1) Z1 ν1 := by
  obtain ⟨P, hP⟩ := zx (zg_459 a1 a2 a3 a4)
  refine zc_M (Q := fun Z1 ν1 => zI none Z1 ∧ zK [1] Z Z1 ∧ zN ν ν1) hP (fw_459 (i3 a1) (i3 a2) (i3 a3) (i3 a4) _ _ ?_)
  replace hP : zE P (zg_459 a1 a2 a3 a4) := hP
  unfold zg_459 at hP
  refine wz_br (i3L (rfl : i3 a1 = i3 a1) (show (0 : Int32) = i3 0 from rfl) (by omega) (by omega) (by omega) (by omega)) (fun h1 => ?_) (fun h1 => ?_)
  · replace hP := zE_p hP h1
    obtain ⟨Z2, hZ2⟩ := zx (zu Z 1 0 0 2 1)
    have hZ2I := zI_u hZ hZ2 (lo := -2147483648) (hi := 2147483647) (by decide) rfl (by omega) ⟨by decide, by decide⟩ (Or.inr (by decide))
    have hZ2K : zK [1] Z Z2 := zK_u zK_r hZ2 (by decide)
    intro μ9 e9
    replace e9 := e9.trans (zm_wI (Z := Z) (ν := ν) hZ2 (show ((0 : Nat) : Int) = 0 from rfl) (show ((0 : Nat) : Int) = 0 from rfl) (show ((2 : Nat) : Int) = 2 from rfl) (show (1 : Int32) = i3 1 from rfl))
    subst e9
    exact zlM hP (show (0 : Int32) = i3 0 from rfl) (zu_at hZ2) ⟨hZ2I, hZ2K, zN_r⟩
  · replace hP := zE_n hP h1
    refine wz_i1 (Eq.trans (i3L (i3S (Eq.trans (zm_rd (Z := Z) (ν := ν) (k := 2) (show ((0 : Nat) : Int) = 0 from rfl) (show ((0 : Nat) : Int) = 0 from rfl) (show ((3000 : Nat) : Int) = 3000 from rfl)) (congrArg i3 ((hF 2 0 3000 (by decide)).trans ((show frz 2 0 3000 = 0 from by decide))))) (show (1 : Int32) = i3 1 from rfl)) (rfl : i3 a1 = i3 a1) (by omega) (by omega) (by omega) (by omega)) (decide_eq_true (by omega))) ?_
    obtain ⟨Z3, hZ3⟩ := zx (zu Z 1 0 0 2 1)
    have hZ3I := zI_u hZ hZ3 (lo := -2147483648) (hi := 2147483647) (by decide) rfl (by omega) ⟨by decide, by decide⟩ (Or.inr (by decide))
    have hZ3K : zK [1] Z Z3 := zK_u zK_r hZ3 (by decide)
    intro μ9 e9
    replace e9 := e9.trans (zm_wI (Z := Z) (ν := ν) hZ3 (show ((0 : Nat) : Int) = 0 from rfl) (show ((0 : Nat) : Int) = 0 from rfl) (show ((2 : Nat) : Int) = 2 from rfl) (show (1 : Int32) = i3 1 from rfl))
    subst e9
    exact zlM hP (show (0 : Int32) = i3 0 from rfl) (zu_at hZ3) ⟨hZ3I, hZ3K, zN_r⟩

/- yX12_lot -/
def zg_428 (a1 : Int) (a2 : Int) (a3 : Int) : Int × Int := (if a1 < 0 then (0, 1) else (0, 1))
theorem sg_428 {Z : qz_Z} {ν : qz_N} (hZ : zI none Z) (hF : zFm Z) {a1 : Int} (ga1 : -2147483648 ≤ a1 ∧ a1 ≤ 2147483647) {a2 : Int} (ga2 : -2147483648 ≤ a2 ∧ a2 ≤ 2147483647) {a3 : Int} (ga3 : -2147483648 ≤ a3 ∧ a3 ≤ 2147483647) : ∃ (Z1 : qz_Z) (ν1 : qz_N) (v t : Int), (v, t) = zg_428 a1 a2 a3 ∧ qf_428 [.inr (.inr (some (1, 0, 0))), .inl (i3 a1), .inl (i3 a2), .inl (i3 a3)] (zm Z ν) = some (zm Z1 ν1, .inl (some (.inl (i3 v)))) ∧ Z1 1 0 0 2 = t ∧ (fun Z1 ν1 => zI none Z1 ∧ zK [1] Z Z1 ∧ zN ν ν1) Z1 ν1 := by
  obtain ⟨P, hP⟩ := zx (zg_428 a1 a2 a3)
  refine zc_M (Q := fun Z1 ν1 => zI none Z1 ∧ zK [1] Z Z1 ∧ zN ν ν1) hP (fw_428 (i3 a1) (i3 a2) (i3 a3) _ _ ?_)
  replace hP : zE P (zg_428 a1 a2 a3) := hP
  unfold zg_428 at hP
  refine wz_br (i3L (rfl : i3 a1 = i3 a1) (show (0 : Int32) = i3 0 from rfl) (by omega) (by omega) (by omega) (by omega)) (fun h1 => ?_) (fun h1 => ?_)
  · replace hP := zE_p hP h1
    obtain ⟨Z2, hZ2⟩ := zx (zu Z 1 0 0 2 1)
    have hZ2I := zI_u hZ hZ2 (lo := -2147483648) (hi := 2147483647) (by decide) rfl (by omega) ⟨by decide, by decide⟩ (Or.inr (by decide))
    have hZ2K : zK [1] Z Z2 := zK_u zK_r hZ2 (by decide)
    intro μ9 e9
    replace e9 := e9.trans (zm_wI (Z := Z) (ν := ν) hZ2 (show ((0 : Nat) : Int) = 0 from rfl) (show ((0 : Nat) : Int) = 0 from rfl) (show ((2 : Nat) : Int) = 2 from rfl) (show (1 : Int32) = i3 1 from rfl))
    subst e9
    exact zlM hP (show (0 : Int32) = i3 0 from rfl) (zu_at hZ2) ⟨hZ2I, hZ2K, zN_r⟩
  · replace hP := zE_n hP h1
    refine wz_i1 (Eq.trans (i3L (i3S (Eq.trans (zm_rd (Z := Z) (ν := ν) (k := 2) (show ((0 : Nat) : Int) = 0 from rfl) (show ((0 : Nat) : Int) = 0 from rfl) (show ((3000 : Nat) : Int) = 3000 from rfl)) (congrArg i3 ((hF 2 0 3000 (by decide)).trans ((show frz 2 0 3000 = 0 from by decide))))) (show (1 : Int32) = i3 1 from rfl)) (rfl : i3 a1 = i3 a1) (by omega) (by omega) (by omega) (by omega)) (decide_eq_true (by omega))) ?_
    obtain ⟨Z3, hZ3⟩ := zx (zu Z 1 0 0 2 1)
    have hZ3I := zI_u hZ hZ3 (lo := -2147483648) (hi := 2147483647) (by decide) rfl (by omega) ⟨by decide, by decide⟩ (Or.inr (by decide))
    have hZ3K : zK [1] Z Z3 := zK_u zK_r hZ3 (by decide)
    intro μ9 e9
    replace e9 := e9.trans (zm_wI (Z := Z) (ν := ν) hZ3 (show ((0 : Nat) : Int) = 0 from rfl) (show ((0 : Nat) : Int) = 0 from rfl) (show ((2 : Nat) : Int) = 2 from rfl) (show (1 : Int32) = i3 1 from rfl))
    subst e9
    exact zlM hP (show (0 : Int32) = i3 0 from rfl) (zu_at hZ3) ⟨hZ3I, hZ3K, zN_r⟩

/- yX12_bestStart -/
def zg_293 (a1 : Int) (a2 : Int) (a3 : Int) (a4 : Int) : Int × Int := (if a1 < 0 then (0, 1) else (0, 1))
theorem sg_293 {Z : qz_Z} {ν : qz_N} (hZ : zI none Z) (hF : zFm Z) {a1 : Int} (ga1 : -2147483648 ≤ a1 ∧ a1 ≤ 2147483647) {a2 : Int} (ga2 : -2147483648 ≤ a2 ∧ a2 ≤ 2147483647) {a3 : Int} (ga3 : -2147483648 ≤ a3 ∧ a3 ≤ 2147483647) {a4 : Int} (ga4 : -2147483648 ≤ a4 ∧ a4 ≤ 2147483647) : ∃ (Z1 : qz_Z) (ν1 : qz_N) (v t : Int), (v, t) = zg_293 a1 a2 a3 a4 ∧ qf_293 [.inr (.inr (some (1, 0, 0))), .inl (i3 a1), .inl (i3 a2), .inl (i3 a3), .inl (i3 a4)] (zm Z ν) = some (zm Z1 ν1, .inl (some (.inl (i3 v)))) ∧ Z1 1 0 0 2 = t ∧ (fun Z1 ν1 => zI none Z1 ∧ zK [1] Z Z1 ∧ zN ν ν1) Z1 ν1 := by
  obtain ⟨P, hP⟩ := zx (zg_293 a1 a2 a3 a4)
  refine zc_M (Q := fun Z1 ν1 => zI none Z1 ∧ zK [1] Z Z1 ∧ zN ν ν1) hP (fw_293 (i3 a1) (i3 a2) (i3 a3) (i3 a4) _ _ ?_)
  replace hP : zE P (zg_293 a1 a2 a3 a4) := hP
  unfold zg_293 at hP
  refine wz_br (i3L (rfl : i3 a1 = i3 a1) (show (0 : Int32) = i3 0 from rfl) (by omega) (by omega) (by omega) (by omega)) (fun h1 => ?_) (fun h1 => ?_)
  · replace hP := zE_p hP h1
    obtain ⟨Z2, hZ2⟩ := zx (zu Z 1 0 0 2 1)
    have hZ2I := zI_u hZ hZ2 (lo := -2147483648) (hi := 2147483647) (by decide) rfl (by omega) ⟨by decide, by decide⟩ (Or.inr (by decide))
    have hZ2K : zK [1] Z Z2 := zK_u zK_r hZ2 (by decide)
    intro μ9 e9
    replace e9 := e9.trans (zm_wI (Z := Z) (ν := ν) hZ2 (show ((0 : Nat) : Int) = 0 from rfl) (show ((0 : Nat) : Int) = 0 from rfl) (show ((2 : Nat) : Int) = 2 from rfl) (show (1 : Int32) = i3 1 from rfl))
    subst e9
    exact zlM hP (show (0 : Int32) = i3 0 from rfl) (zu_at hZ2) ⟨hZ2I, hZ2K, zN_r⟩
  · replace hP := zE_n hP h1
    refine wz_i1 (Eq.trans (i3L (i3S (Eq.trans (zm_rd (Z := Z) (ν := ν) (k := 2) (show ((0 : Nat) : Int) = 0 from rfl) (show ((0 : Nat) : Int) = 0 from rfl) (show ((3000 : Nat) : Int) = 3000 from rfl)) (congrArg i3 ((hF 2 0 3000 (by decide)).trans ((show frz 2 0 3000 = 0 from by decide))))) (show (1 : Int32) = i3 1 from rfl)) (rfl : i3 a1 = i3 a1) (by omega) (by omega) (by omega) (by omega)) (decide_eq_true (by omega))) ?_
    obtain ⟨Z3, hZ3⟩ := zx (zu Z 1 0 0 2 1)
    have hZ3I := zI_u hZ hZ3 (lo := -2147483648) (hi := 2147483647) (by decide) rfl (by omega) ⟨by decide, by decide⟩ (Or.inr (by decide))
    have hZ3K : zK [1] Z Z3 := zK_u zK_r hZ3 (by decide)
    intro μ9 e9
    replace e9 := e9.trans (zm_wI (Z := Z) (ν := ν) hZ3 (show ((0 : Nat) : Int) = 0 from rfl) (show ((0 : Nat) : Int) = 0 from rfl) (show ((2 : Nat) : Int) = 2 from rfl) (show (1 : Int32) = i3 1 from rfl))
    subst e9
    exact zlM hP (show (0 : Int32) = i3 0 from rfl) (zu_at hZ3) ⟨hZ3I, hZ3K, zN_r⟩

/- yX12_truck -/
def zg_539 (a1 : Int) (a2 : Int) : Int × Int := (if a1 < 10 then (0, 1) else (if 99 < a1 then (0, 1) else (if a2 < 0 then (0, 1) else (if 40 < a2 then (0, 1) else (0, 0)))))
theorem sg_539 {Z : qz_Z} {ν : qz_N} (hZ : zI none Z) (hF : zFm Z) {a1 : Int} (ga1 : -2147483648 ≤ a1 ∧ a1 ≤ 2147483647) {a2 : Int} (ga2 : -2147483648 ≤ a2 ∧ a2 ≤ 2147483647) (rrec : ∀ Z, qz_rm (zm Z ν) 1 0 0 36 = some (102, 0, 0)) : ∃ (Z1 : qz_Z) (ν1 : qz_N) (v t : Int), (v, t) = zg_539 a1 a2 ∧ qf_539 [.inr (.inr (some (1, 0, 0))), .inl (i3 a1), .inl (i3 a2)] (zm Z ν) = some (zm Z1 ν1, .inl (some (.inl (i3 v)))) ∧ Z1 1 0 0 2 = t ∧ (fun Z1 ν1 => zI none Z1 ∧ zK [1, 2, 101, 102] Z Z1 ∧ zN ν ν1) Z1 ν1 := by
  obtain ⟨P, hP⟩ := zx (zg_539 a1 a2)
  refine zc_M (Q := fun Z1 ν1 => zI none Z1 ∧ zK [1, 2, 101, 102] Z Z1 ∧ zN ν ν1) hP (fw_539 (i3 a1) (i3 a2) _ _ ?_)
  replace hP : zE P (zg_539 a1 a2) := hP
  unfold zg_539 at hP
  refine wz_br (i3L (rfl : i3 a1 = i3 a1) (show (10 : Int32) = i3 10 from rfl) (by omega) (by omega) (by omega) (by omega)) (fun h1 => ?_) (fun h1 => ?_)
  · replace hP := zE_p hP h1
    obtain ⟨Z2, hZ2⟩ := zx (zu Z 1 0 0 2 1)
    have hZ2I := zI_u hZ hZ2 (lo := -2147483648) (hi := 2147483647) (by decide) rfl (by omega) ⟨by decide, by decide⟩ (Or.inr (by decide))
    have hZ2K : zK [1, 2, 101, 102] Z Z2 := zK_u zK_r hZ2 (by decide)
    intro μ9 e9
    replace e9 := e9.trans (zm_wI (Z := Z) (ν := ν) hZ2 (show ((0 : Nat) : Int) = 0 from rfl) (show ((0 : Nat) : Int) = 0 from rfl) (show ((2 : Nat) : Int) = 2 from rfl) (show (1 : Int32) = i3 1 from rfl))
    subst e9
    exact zlM hP (show (0 : Int32) = i3 0 from rfl) (zu_at hZ2) ⟨hZ2I, hZ2K, zN_r⟩
  · replace hP := zE_n hP h1
    refine wz_br (i3L (show (99 : Int32) = i3 99 from rfl) (rfl : i3 a1 = i3 a1) (by omega) (by omega) (by omega) (by omega)) (fun h3 => ?_) (fun h3 => ?_)
    · replace hP := zE_p hP h3
      obtain ⟨Z4, hZ4⟩ := zx (zu Z 1 0 0 2 1)
      have hZ4I := zI_u hZ hZ4 (lo := -2147483648) (hi := 2147483647) (by decide) rfl (by omega) ⟨by decide, by decide⟩ (Or.inr (by decide))
      have hZ4K : zK [1, 2, 101, 102] Z Z4 := zK_u zK_r hZ4 (by decide)
      intro μ9 e9
      replace e9 := e9.trans (zm_wI (Z := Z) (ν := ν) hZ4 (show ((0 : Nat) : Int) = 0 from rfl) (show ((0 : Nat) : Int) = 0 from rfl) (show ((2 : Nat) : Int) = 2 from rfl) (show (1 : Int32) = i3 1 from rfl))
      subst e9
      exact zlM hP (show (0 : Int32) = i3 0 from rfl) (zu_at hZ4) ⟨hZ4I, hZ4K, zN_r⟩
    · replace hP := zE_n hP h3
      refine wz_br (i3L (rfl : i3 a2 = i3 a2) (show (0 : Int32) = i3 0 from rfl) (by omega) (by omega) (by omega) (by omega)) (fun h5 => ?_) (fun h5 => ?_)
      · replace hP := zE_p hP h5
        obtain ⟨Z6, hZ6⟩ := zx (zu Z 1 0 0 2 1)
        have hZ6I := zI_u hZ hZ6 (lo := -2147483648) (hi := 2147483647) (by decide) rfl (by omega) ⟨by decide, by decide⟩ (Or.inr (by decide))
        have hZ6K : zK [1, 2, 101, 102] Z Z6 := zK_u zK_r hZ6 (by decide)
        intro μ9 e9
        replace e9 := e9.trans (zm_wI (Z := Z) (ν := ν) hZ6 (show ((0 : Nat) : Int) = 0 from rfl) (show ((0 : Nat) : Int) = 0 from rfl) (show ((2 : Nat) : Int) = 2 from rfl) (show (1 : Int32) = i3 1 from rfl))
        subst e9
        exact zlM hP (show (0 : Int32) = i3 0 from rfl) (zu_at hZ6) ⟨hZ6I, hZ6K, zN_r⟩
      · replace hP := zE_n hP h5
        refine wz_br (i3L (show (40 : Int32) = i3 40 from rfl) (rfl : i3 a2 = i3 a2) (by omega) (by omega) (by omega) (by omega)) (fun h7 => ?_) (fun h7 => ?_)
        · replace hP := zE_p hP h7
          obtain ⟨Z8, hZ8⟩ := zx (zu Z 1 0 0 2 1)
          have hZ8I := zI_u hZ hZ8 (lo := -2147483648) (hi := 2147483647) (by decide) rfl (by omega) ⟨by decide, by decide⟩ (Or.inr (by decide))
          have hZ8K : zK [1, 2, 101, 102] Z Z8 := zK_u zK_r hZ8 (by decide)
          intro μ9 e9
          replace e9 := e9.trans (zm_wI (Z := Z) (ν := ν) hZ8 (show ((0 : Nat) : Int) = 0 from rfl) (show ((0 : Nat) : Int) = 0 from rfl) (show ((2 : Nat) : Int) = 2 from rfl) (show (1 : Int32) = i3 1 from rfl))
          subst e9
          exact zlM hP (show (0 : Int32) = i3 0 from rfl) (zu_at hZ8) ⟨hZ8I, hZ8K, zN_r⟩
        · replace hP := zE_n hP h7
          obtain ⟨Z9, hZ9⟩ := zx (zu Z 1 0 0 2 0)
          have hZ9I := zI_0 hZ hZ9 (by decide) (Or.inr (by decide))
          have hZ9K : zK [1, 2, 101, 102] Z Z9 := zK_u zK_r hZ9 (by decide)
          intro μ9 e9
          replace e9 := e9.trans (zm_wI (Z := Z) (ν := ν) hZ9 (show ((0 : Nat) : Int) = 0 from rfl) (show ((0 : Nat) : Int) = 0 from rfl) (show ((2 : Nat) : Int) = 2 from rfl) (show (0 : Int32) = i3 0 from rfl))
          subst e9
          refine wz_i0 (Eq.trans (i3Le (show (4 : Int32) = i3 4 from rfl) (Eq.trans (zm_rd (Z := Z9) (ν := ν) (k := 2) (show ((0 : Nat) : Int) = 0 from rfl) (show ((0 : Nat) : Int) = 0 from rfl) (show ((3200 : Nat) : Int) = 3200 from rfl)) (congrArg i3 ((zu_ne (k' := 2) (b' := 0) (i' := 0) (j' := 3200) hZ9 (fun q => absurd q.1 (by decide))).trans ((hF 2 0 3200 (by decide)).trans ((show frz 2 0 3200 = 0 from by decide)))))) (by omega) (by omega) (by omega) (by omega)) (decide_eq_false (by omega))) ?_
          obtain ⟨Z10, hZ10⟩ := zx (zu Z9 1 0 0 2 0)
          have hZ10I := zI_0 hZ9I hZ10 (by decide) (Or.inr (by decide))
          have hZ10K := zK_u hZ9K hZ10 (by decide)
          intro μ9 e9
          replace e9 := e9.trans (zm_wI (Z := Z9) (ν := ν) hZ10 (show ((0 : Nat) : Int) = 0 from rfl) (show ((0 : Nat) : Int) = 0 from rfl) (show ((2 : Nat) : Int) = 2 from rfl) (show (0 : Int32) = i3 0 from rfl))
          subst e9
          refine wz_i0 (Eq.trans (i3NE (Eq.trans (zm_rd (Z := Z10) (ν := ν) (k := 1) (show ((0 : Nat) : Int) = 0 from rfl) (show ((0 : Nat) : Int) = 0 from rfl) (show ((35 : Nat) : Int) = 35 from rfl)) (congrArg i3 ((zu_ne (k' := 1) (b' := 0) (i' := 0) (j' := 35) hZ10 (fun q => absurd q.2.2.2 (by decide))).trans ((zu_ne (k' := 1) (b' := 0) (i' := 0) (j' := 35) hZ9 (fun q => absurd q.2.2.2 (by decide))).trans ((hF 1 0 35 (by decide)).trans ((show frz 1 0 35 = 0 from by decide))))))) (show (0 : Int32) = i3 0 from rfl) (by omega) (by omega) (by omega) (by omega)) (decide_eq_false (by omega))) ?_
          have e11 : Z10 1 0 0 34 = 0 := (zu_ne (k' := 1) (b' := 0) (i' := 0) (j' := 34) hZ10 (fun q => absurd q.2.2.2 (by decide))).trans ((zu_ne (k' := 1) (b' := 0) (i' := 0) (j' := 34) hZ9 (fun q => absurd q.2.2.2 (by decide))).trans ((hF 1 0 34 (by decide)).trans ((show frz 1 0 34 = 0 from by decide))))
          obtain ⟨Z12, hZ12, c9, hZ12I, kZ12, wZ120, wZ121, wZ122⟩ := sp_557 (ν := ν) hZ10I (a1 := (-1)) (by omega) (by omega)
          have hZ12K : zK [1, 2, 101, 102] Z Z12 := zK_t hZ10K kZ12 (by decide)
          refine wz_cV_of (zas (zcons rfl (zcons (zvi (show (-1 : Int32) = i3 (-1) from rfl)) rfl)) c9) ?_
          clear c9
          have e13 : Z12 1 0 0 37 = 0 := (wZ122).trans ((zu_ne (k' := 1) (b' := 0) (i' := 0) (j' := 37) hZ10 (fun q => absurd q.2.2.2 (by decide))).trans ((zu_ne (k' := 1) (b' := 0) (i' := 0) (j' := 37) hZ9 (fun q => absurd q.2.2.2 (by decide))).trans ((hF 1 0 37 (by decide)).trans ((show frz 1 0 37 = 0 from by decide)))))
          obtain ⟨Z14, hZ14, c9, hZ14I, kZ14, wZ140, wZ141⟩ := sp_563 (ν := ν) hZ12I (a1 := 20) (by omega) (a2 := a1) (by omega) (a3 := a2) (by omega) (a4 := 0) (by omega) (a5 := 0) (by omega) (a6 := 0) (by omega) (a7 := 0) (by omega) (by omega) rrec
          have hZ14K : zK [1, 2, 101, 102] Z Z14 := zK_t hZ12K kZ14 (by decide)
          refine wz_cV_of (zas (zcons rfl (zcons (zvi (show (20 : Int32) = i3 20 from rfl)) (zcons (zvi (rfl : i3 a1 = i3 a1)) (zcons (zvi (rfl : i3 a2 = i3 a2)) (zcons (zvi (show (0 : Int32) = i3 0 from rfl)) (zcons (zvi (show (0 : Int32) = i3 0 from rfl)) (zcons (zvi (show (0 : Int32) = i3 0 from rfl)) (zcons (zvi (show (0 : Int32) = i3 0 from rfl)) rfl)))))))) c9) ?_
          clear c9
          refine wz_i0 (i3O (n := 4400) (i3A (i3A (show (3250 : Int32) = i3 3250 from rfl) (i3M (show (24 : Int32) = i3 24 from rfl) (Eq.trans (zm_rd (Z := Z14) (ν := ν) (k := 2) (show ((0 : Nat) : Int) = 0 from rfl) (show ((0 : Nat) : Int) = 0 from rfl) (show ((3200 : Nat) : Int) = 3200 from rfl)) (congrArg i3 ((kZ14 2 (by decide) 0 0 3200).trans ((kZ12 2 (by decide) 0 0 3200).trans ((zu_ne (k' := 2) (b' := 0) (i' := 0) (j' := 3200) hZ10 (fun q => absurd q.1 (by decide))).trans ((zu_ne (k' := 2) (b' := 0) (i' := 0) (j' := 3200) hZ9 (fun q => absurd q.1 (by decide))).trans ((hF 2 0 3200 (by decide)).trans ((show frz 2 0 3200 = 0 from by decide))))))))))) (show (0 : Int32) = i3 0 from rfl)) (by omega) (by omega) (by omega)) ?_
          obtain ⟨Z15, hZ15⟩ := zx (zu Z14 2 0 0 3250 a1)
          have hZ15I := zI_u hZ14I hZ15 (lo := 0) (hi := 99) (by decide) rfl (by omega) ⟨by decide, by decide⟩ (Or.inl (by decide))
          have hZ15K := zK_u hZ14K hZ15 (by decide)
          intro μ9 e9
          replace e9 := e9.trans (zm_wI (Z := Z14) (ν := ν) hZ15 (show ((0 : Nat) : Int) = 0 from rfl) (show ((0 : Nat) : Int) = 0 from rfl) (i3I (y := 3250) (i3A (i3A (show (3250 : Int32) = i3 3250 from rfl) (i3M (show (24 : Int32) = i3 24 from rfl) (Eq.trans (zm_rd (Z := Z14) (ν := ν) (k := 2) (show ((0 : Nat) : Int) = 0 from rfl) (show ((0 : Nat) : Int) = 0 from rfl) (show ((3200 : Nat) : Int) = 3200 from rfl)) (congrArg i3 ((kZ14 2 (by decide) 0 0 3200).trans ((kZ12 2 (by decide) 0 0 3200).trans ((zu_ne (k' := 2) (b' := 0) (i' := 0) (j' := 3200) hZ10 (fun q => absurd q.1 (by decide))).trans ((zu_ne (k' := 2) (b' := 0) (i' := 0) (j' := 3200) hZ9 (fun q => absurd q.1 (by decide))).trans ((hF 2 0 3200 (by decide)).trans ((show frz 2 0 3200 = 0 from by decide))))))))))) (show (0 : Int32) = i3 0 from rfl)) (by omega) (by omega) (by omega)) (rfl : i3 a1 = i3 a1))
          subst e9
          refine wz_i0 (i3O (n := 4400) (i3A (i3A (show (3250 : Int32) = i3 3250 from rfl) (i3M (show (24 : Int32) = i3 24 from rfl) (Eq.trans (zm_rd (Z := Z14) (ν := ν) (k := 2) (show ((0 : Nat) : Int) = 0 from rfl) (show ((0 : Nat) : Int) = 0 from rfl) (show ((3200 : Nat) : Int) = 3200 from rfl)) (congrArg i3 ((kZ14 2 (by decide) 0 0 3200).trans ((kZ12 2 (by decide) 0 0 3200).trans ((zu_ne (k' := 2) (b' := 0) (i' := 0) (j' := 3200) hZ10 (fun q => absurd q.1 (by decide))).trans ((zu_ne (k' := 2) (b' := 0) (i' := 0) (j' := 3200) hZ9 (fun q => absurd q.1 (by decide))).trans ((hF 2 0 3200 (by decide)).trans ((show frz 2 0 3200 = 0 from by decide))))))))))) (show (1 : Int32) = i3 1 from rfl)) (by omega) (by omega) (by omega)) ?_
          obtain ⟨Z16, hZ16⟩ := zx (zu Z15 2 0 0 3251 a2)
          have hZ16I := zI_u hZ15I hZ16 (lo := 0) (hi := 40) (by decide) rfl (by omega) ⟨by decide, by decide⟩ (Or.inl (by decide))
          have hZ16K := zK_u hZ15K hZ16 (by decide)
          intro μ9 e9
          replace e9 := e9.trans (zm_wI (Z := Z15) (ν := ν) hZ16 (show ((0 : Nat) : Int) = 0 from rfl) (show ((0 : Nat) : Int) = 0 from rfl) (i3I (y := 3251) (i3A (i3A (show (3250 : Int32) = i3 3250 from rfl) (i3M (show (24 : Int32) = i3 24 from rfl) (Eq.trans (zm_rd (Z := Z14) (ν := ν) (k := 2) (show ((0 : Nat) : Int) = 0 from rfl) (show ((0 : Nat) : Int) = 0 from rfl) (show ((3200 : Nat) : Int) = 3200 from rfl)) (congrArg i3 ((kZ14 2 (by decide) 0 0 3200).trans ((kZ12 2 (by decide) 0 0 3200).trans ((zu_ne (k' := 2) (b' := 0) (i' := 0) (j' := 3200) hZ10 (fun q => absurd q.1 (by decide))).trans ((zu_ne (k' := 2) (b' := 0) (i' := 0) (j' := 3200) hZ9 (fun q => absurd q.1 (by decide))).trans ((hF 2 0 3200 (by decide)).trans ((show frz 2 0 3200 = 0 from by decide))))))))))) (show (1 : Int32) = i3 1 from rfl)) (by omega) (by omega) (by omega)) (rfl : i3 a2 = i3 a2))
          subst e9
          refine wz_i0 (i3O (n := 4400) (i3A (i3A (show (3250 : Int32) = i3 3250 from rfl) (i3M (show (24 : Int32) = i3 24 from rfl) (Eq.trans (zm_rd (Z := Z14) (ν := ν) (k := 2) (show ((0 : Nat) : Int) = 0 from rfl) (show ((0 : Nat) : Int) = 0 from rfl) (show ((3200 : Nat) : Int) = 3200 from rfl)) (congrArg i3 ((kZ14 2 (by decide) 0 0 3200).trans ((kZ12 2 (by decide) 0 0 3200).trans ((zu_ne (k' := 2) (b' := 0) (i' := 0) (j' := 3200) hZ10 (fun q => absurd q.1 (by decide))).trans ((zu_ne (k' := 2) (b' := 0) (i' := 0) (j' := 3200) hZ9 (fun q => absurd q.1 (by decide))).trans ((hF 2 0 3200 (by decide)).trans ((show frz 2 0 3200 = 0 from by decide))))))))))) (show (3 : Int32) = i3 3 from rfl)) (by omega) (by omega) (by omega)) ?_
          obtain ⟨Z17, hZ17⟩ := zx (zu Z16 2 0 0 3253 (-1))
          have hZ17I := zI_u hZ16I hZ17 (lo := -1) (hi := 671) (by decide) rfl (by omega) ⟨by decide, by decide⟩ (Or.inl (by decide))
          have hZ17K := zK_u hZ16K hZ17 (by decide)
          intro μ9 e9
          replace e9 := e9.trans (zm_wI (Z := Z16) (ν := ν) hZ17 (show ((0 : Nat) : Int) = 0 from rfl) (show ((0 : Nat) : Int) = 0 from rfl) (i3I (y := 3253) (i3A (i3A (show (3250 : Int32) = i3 3250 from rfl) (i3M (show (24 : Int32) = i3 24 from rfl) (Eq.trans (zm_rd (Z := Z14) (ν := ν) (k := 2) (show ((0 : Nat) : Int) = 0 from rfl) (show ((0 : Nat) : Int) = 0 from rfl) (show ((3200 : Nat) : Int) = 3200 from rfl)) (congrArg i3 ((kZ14 2 (by decide) 0 0 3200).trans ((kZ12 2 (by decide) 0 0 3200).trans ((zu_ne (k' := 2) (b' := 0) (i' := 0) (j' := 3200) hZ10 (fun q => absurd q.1 (by decide))).trans ((zu_ne (k' := 2) (b' := 0) (i' := 0) (j' := 3200) hZ9 (fun q => absurd q.1 (by decide))).trans ((hF 2 0 3200 (by decide)).trans ((show frz 2 0 3200 = 0 from by decide))))))))))) (show (3 : Int32) = i3 3 from rfl)) (by omega) (by omega) (by omega)) (show (-1 : Int32) = i3 (-1) from rfl))
          subst e9
          refine wz_i0 (i3O (n := 4400) (i3A (i3A (show (3250 : Int32) = i3 3250 from rfl) (i3M (show (24 : Int32) = i3 24 from rfl) (Eq.trans (zm_rd (Z := Z14) (ν := ν) (k := 2) (show ((0 : Nat) : Int) = 0 from rfl) (show ((0 : Nat) : Int) = 0 from rfl) (show ((3200 : Nat) : Int) = 3200 from rfl)) (congrArg i3 ((kZ14 2 (by decide) 0 0 3200).trans ((kZ12 2 (by decide) 0 0 3200).trans ((zu_ne (k' := 2) (b' := 0) (i' := 0) (j' := 3200) hZ10 (fun q => absurd q.1 (by decide))).trans ((zu_ne (k' := 2) (b' := 0) (i' := 0) (j' := 3200) hZ9 (fun q => absurd q.1 (by decide))).trans ((hF 2 0 3200 (by decide)).trans ((show frz 2 0 3200 = 0 from by decide))))))))))) (show (4 : Int32) = i3 4 from rfl)) (by omega) (by omega) (by omega)) ?_
          obtain ⟨Z18, hZ18⟩ := zx (zu Z17 2 0 0 3254 (-1))
          have hZ18I := zI_u hZ17I hZ18 (lo := -1) (hi := 671) (by decide) rfl (by omega) ⟨by decide, by decide⟩ (Or.inl (by decide))
          have hZ18K := zK_u hZ17K hZ18 (by decide)
          intro μ9 e9
          replace e9 := e9.trans (zm_wI (Z := Z17) (ν := ν) hZ18 (show ((0 : Nat) : Int) = 0 from rfl) (show ((0 : Nat) : Int) = 0 from rfl) (i3I (y := 3254) (i3A (i3A (show (3250 : Int32) = i3 3250 from rfl) (i3M (show (24 : Int32) = i3 24 from rfl) (Eq.trans (zm_rd (Z := Z14) (ν := ν) (k := 2) (show ((0 : Nat) : Int) = 0 from rfl) (show ((0 : Nat) : Int) = 0 from rfl) (show ((3200 : Nat) : Int) = 3200 from rfl)) (congrArg i3 ((kZ14 2 (by decide) 0 0 3200).trans ((kZ12 2 (by decide) 0 0 3200).trans ((zu_ne (k' := 2) (b' := 0) (i' := 0) (j' := 3200) hZ10 (fun q => absurd q.1 (by decide))).trans ((zu_ne (k' := 2) (b' := 0) (i' := 0) (j' := 3200) hZ9 (fun q => absurd q.1 (by decide))).trans ((hF 2 0 3200 (by decide)).trans ((show frz 2 0 3200 = 0 from by decide))))))))))) (show (4 : Int32) = i3 4 from rfl)) (by omega) (by omega) (by omega)) (show (-1 : Int32) = i3 (-1) from rfl))
          subst e9
          obtain ⟨Z19, hZ19⟩ := zx (zu Z18 2 0 0 3200 (0 + 1))
          have hZ19I := zI_u hZ18I hZ19 (lo := 0) (hi := 4) (by decide) rfl (by omega) ⟨by decide, by decide⟩ (Or.inl (by decide))
          have hZ19K := zK_u hZ18K hZ19 (by decide)
          intro μ9 e9
          replace e9 := e9.trans (zm_wI (Z := Z18) (ν := ν) hZ19 (show ((0 : Nat) : Int) = 0 from rfl) (show ((0 : Nat) : Int) = 0 from rfl) (show ((3200 : Nat) : Int) = 3200 from rfl) (i3A (Eq.trans (zm_rd (Z := Z18) (ν := ν) (k := 2) (show ((0 : Nat) : Int) = 0 from rfl) (show ((0 : Nat) : Int) = 0 from rfl) (show ((3200 : Nat) : Int) = 3200 from rfl)) (congrArg i3 ((zu_ne (k' := 2) (b' := 0) (i' := 0) (j' := 3200) hZ18 (fun q => absurd q.2.2.2 (by decide))).trans ((zu_ne (k' := 2) (b' := 0) (i' := 0) (j' := 3200) hZ17 (fun q => absurd q.2.2.2 (by decide))).trans ((zu_ne (k' := 2) (b' := 0) (i' := 0) (j' := 3200) hZ16 (fun q => absurd q.2.2.2 (by decide))).trans ((zu_ne (k' := 2) (b' := 0) (i' := 0) (j' := 3200) hZ15 (fun q => absurd q.2.2.2 (by decide))).trans ((kZ14 2 (by decide) 0 0 3200).trans ((kZ12 2 (by decide) 0 0 3200).trans ((zu_ne (k' := 2) (b' := 0) (i' := 0) (j' := 3200) hZ10 (fun q => absurd q.1 (by decide))).trans ((zu_ne (k' := 2) (b' := 0) (i' := 0) (j' := 3200) hZ9 (fun q => absurd q.1 (by decide))).trans ((hF 2 0 3200 (by decide)).trans ((show frz 2 0 3200 = 0 from by decide))))))))))))) (show (1 : Int32) = i3 1 from rfl)))
          subst e9
          exact zlM hP (Eq.trans (zm_rd (Z := Z14) (ν := ν) (k := 2) (show ((0 : Nat) : Int) = 0 from rfl) (show ((0 : Nat) : Int) = 0 from rfl) (show ((3200 : Nat) : Int) = 3200 from rfl)) (congrArg i3 ((kZ14 2 (by decide) 0 0 3200).trans ((kZ12 2 (by decide) 0 0 3200).trans ((zu_ne (k' := 2) (b' := 0) (i' := 0) (j' := 3200) hZ10 (fun q => absurd q.1 (by decide))).trans ((zu_ne (k' := 2) (b' := 0) (i' := 0) (j' := 3200) hZ9 (fun q => absurd q.1 (by decide))).trans ((hF 2 0 3200 (by decide)).trans ((show frz 2 0 3200 = 0 from by decide))))))))) ((zu_ne (k' := 1) (b' := 0) (i' := 0) (j' := 2) hZ19 (fun q => absurd q.1 (by decide))).trans ((zu_ne (k' := 1) (b' := 0) (i' := 0) (j' := 2) hZ18 (fun q => absurd q.1 (by decide))).trans ((zu_ne (k' := 1) (b' := 0) (i' := 0) (j' := 2) hZ17 (fun q => absurd q.1 (by decide))).trans ((zu_ne (k' := 1) (b' := 0) (i' := 0) (j' := 2) hZ16 (fun q => absurd q.1 (by decide))).trans ((zu_ne (k' := 1) (b' := 0) (i' := 0) (j' := 2) hZ15 (fun q => absurd q.1 (by decide))).trans ((wZ140).trans ((wZ120).trans (zu_at hZ10)))))))) ⟨hZ19I, hZ19K, zN_r⟩

/- yX12_haul -/
def zg_350 (a1 : Int) (a2 : Int) : Int × Int := (if a1 < 0 then (0, 1) else (0, 1))
theorem sg_350 {Z : qz_Z} {ν : qz_N} (hZ : zI none Z) (hF : zFm Z) {a1 : Int} (ga1 : -2147483648 ≤ a1 ∧ a1 ≤ 2147483647) {a2 : Int} (ga2 : -2147483648 ≤ a2 ∧ a2 ≤ 2147483647) : ∃ (Z1 : qz_Z) (ν1 : qz_N) (v t : Int), (v, t) = zg_350 a1 a2 ∧ qf_350 [.inr (.inr (some (1, 0, 0))), .inl (i3 a1), .inl (i3 a2)] (zm Z ν) = some (zm Z1 ν1, .inl (some (.inl (i3 v)))) ∧ Z1 1 0 0 2 = t ∧ (fun Z1 ν1 => zI none Z1 ∧ zK [1] Z Z1 ∧ zN ν ν1) Z1 ν1 := by
  obtain ⟨P, hP⟩ := zx (zg_350 a1 a2)
  refine zc_M (Q := fun Z1 ν1 => zI none Z1 ∧ zK [1] Z Z1 ∧ zN ν ν1) hP (fw_350 (i3 a1) (i3 a2) _ _ ?_)
  replace hP : zE P (zg_350 a1 a2) := hP
  unfold zg_350 at hP
  refine wz_br (i3L (rfl : i3 a1 = i3 a1) (show (0 : Int32) = i3 0 from rfl) (by omega) (by omega) (by omega) (by omega)) (fun h1 => ?_) (fun h1 => ?_)
  · replace hP := zE_p hP h1
    obtain ⟨Z2, hZ2⟩ := zx (zu Z 1 0 0 2 1)
    have hZ2I := zI_u hZ hZ2 (lo := -2147483648) (hi := 2147483647) (by decide) rfl (by omega) ⟨by decide, by decide⟩ (Or.inr (by decide))
    have hZ2K : zK [1] Z Z2 := zK_u zK_r hZ2 (by decide)
    intro μ9 e9
    replace e9 := e9.trans (zm_wI (Z := Z) (ν := ν) hZ2 (show ((0 : Nat) : Int) = 0 from rfl) (show ((0 : Nat) : Int) = 0 from rfl) (show ((2 : Nat) : Int) = 2 from rfl) (show (1 : Int32) = i3 1 from rfl))
    subst e9
    exact zlM hP (show (0 : Int32) = i3 0 from rfl) (zu_at hZ2) ⟨hZ2I, hZ2K, zN_r⟩
  · replace hP := zE_n hP h1
    refine wz_i1 (Eq.trans (i3L (i3S (Eq.trans (zm_rd (Z := Z) (ν := ν) (k := 2) (show ((0 : Nat) : Int) = 0 from rfl) (show ((0 : Nat) : Int) = 0 from rfl) (show ((3200 : Nat) : Int) = 3200 from rfl)) (congrArg i3 ((hF 2 0 3200 (by decide)).trans ((show frz 2 0 3200 = 0 from by decide))))) (show (1 : Int32) = i3 1 from rfl)) (rfl : i3 a1 = i3 a1) (by omega) (by omega) (by omega) (by omega)) (decide_eq_true (by omega))) ?_
    obtain ⟨Z3, hZ3⟩ := zx (zu Z 1 0 0 2 1)
    have hZ3I := zI_u hZ hZ3 (lo := -2147483648) (hi := 2147483647) (by decide) rfl (by omega) ⟨by decide, by decide⟩ (Or.inr (by decide))
    have hZ3K : zK [1] Z Z3 := zK_u zK_r hZ3 (by decide)
    intro μ9 e9
    replace e9 := e9.trans (zm_wI (Z := Z) (ν := ν) hZ3 (show ((0 : Nat) : Int) = 0 from rfl) (show ((0 : Nat) : Int) = 0 from rfl) (show ((2 : Nat) : Int) = 2 from rfl) (show (1 : Int32) = i3 1 from rfl))
    subst e9
    exact zlM hP (show (0 : Int32) = i3 0 from rfl) (zu_at hZ3) ⟨hZ3I, hZ3K, zN_r⟩

/- yX12_fewest -/
def zg_341 (a1 : Int) (a2 : Int) : Int × Int := (if a2 < 0 then (0, 1) else (if 5 < a2 then (0, 1) else (if a1 < 10 then (0, 2) else (if 99 < a1 then (0, 2) else (0, 0)))))
theorem sg_341 {Z : qz_Z} {ν : qz_N} (hZ : zI none Z) (hF : zFm Z) {a1 : Int} (ga1 : -2147483648 ≤ a1 ∧ a1 ≤ 2147483647) {a2 : Int} (ga2 : -2147483648 ≤ a2 ∧ a2 ≤ 2147483647) : ∃ (Z1 : qz_Z) (ν1 : qz_N) (v t : Int), (v, t) = zg_341 a1 a2 ∧ qf_341 [.inr (.inr (some (1, 0, 0))), .inl (i3 a1), .inl (i3 a2)] (zm Z ν) = some (zm Z1 ν1, .inl (some (.inl (i3 v)))) ∧ Z1 1 0 0 2 = t ∧ (fun Z1 ν1 => zI none Z1 ∧ zK [1, 99] Z Z1 ∧ zN ν ν1) Z1 ν1 := by
  obtain ⟨P, hP⟩ := zx (zg_341 a1 a2)
  refine zc_M (Q := fun Z1 ν1 => zI none Z1 ∧ zK [1, 99] Z Z1 ∧ zN ν ν1) hP (fw_341 (i3 a1) (i3 a2) _ _ ?_)
  replace hP : zE P (zg_341 a1 a2) := hP
  unfold zg_341 at hP
  refine wz_br (i3L (rfl : i3 a2 = i3 a2) (show (0 : Int32) = i3 0 from rfl) (by omega) (by omega) (by omega) (by omega)) (fun h1 => ?_) (fun h1 => ?_)
  · replace hP := zE_p hP h1
    obtain ⟨Z2, hZ2⟩ := zx (zu Z 1 0 0 2 1)
    have hZ2I := zI_u hZ hZ2 (lo := -2147483648) (hi := 2147483647) (by decide) rfl (by omega) ⟨by decide, by decide⟩ (Or.inr (by decide))
    have hZ2K : zK [1, 99] Z Z2 := zK_u zK_r hZ2 (by decide)
    intro μ9 e9
    replace e9 := e9.trans (zm_wI (Z := Z) (ν := ν) hZ2 (show ((0 : Nat) : Int) = 0 from rfl) (show ((0 : Nat) : Int) = 0 from rfl) (show ((2 : Nat) : Int) = 2 from rfl) (show (1 : Int32) = i3 1 from rfl))
    subst e9
    exact zlM hP (show (0 : Int32) = i3 0 from rfl) (zu_at hZ2) ⟨hZ2I, hZ2K, zN_r⟩
  · replace hP := zE_n hP h1
    refine wz_br (i3L (show (5 : Int32) = i3 5 from rfl) (rfl : i3 a2 = i3 a2) (by omega) (by omega) (by omega) (by omega)) (fun h3 => ?_) (fun h3 => ?_)
    · replace hP := zE_p hP h3
      obtain ⟨Z4, hZ4⟩ := zx (zu Z 1 0 0 2 1)
      have hZ4I := zI_u hZ hZ4 (lo := -2147483648) (hi := 2147483647) (by decide) rfl (by omega) ⟨by decide, by decide⟩ (Or.inr (by decide))
      have hZ4K : zK [1, 99] Z Z4 := zK_u zK_r hZ4 (by decide)
      intro μ9 e9
      replace e9 := e9.trans (zm_wI (Z := Z) (ν := ν) hZ4 (show ((0 : Nat) : Int) = 0 from rfl) (show ((0 : Nat) : Int) = 0 from rfl) (show ((2 : Nat) : Int) = 2 from rfl) (show (1 : Int32) = i3 1 from rfl))
      subst e9
      exact zlM hP (show (0 : Int32) = i3 0 from rfl) (zu_at hZ4) ⟨hZ4I, hZ4K, zN_r⟩
    · replace hP := zE_n hP h3
      obtain ⟨Z5, hZ5⟩ := zx (zu Z 1 0 0 2 0)
      have hZ5I := zI_0 hZ hZ5 (by decide) (Or.inr (by decide))
      have hZ5K : zK [1, 99] Z Z5 := zK_u zK_r hZ5 (by decide)
      intro μ9 e9
      replace e9 := e9.trans (zm_wI (Z := Z) (ν := ν) hZ5 (show ((0 : Nat) : Int) = 0 from rfl) (show ((0 : Nat) : Int) = 0 from rfl) (show ((2 : Nat) : Int) = 2 from rfl) (show (0 : Int32) = i3 0 from rfl))
      subst e9
      refine wz_br (i3L (rfl : i3 a1 = i3 a1) (show (10 : Int32) = i3 10 from rfl) (by omega) (by omega) (by omega) (by omega)) (fun h6 => ?_) (fun h6 => ?_)
      · replace hP := zE_p hP h6
        obtain ⟨Z7, hZ7⟩ := zx (zu Z5 1 0 0 2 2)
        have hZ7I := zI_u hZ5I hZ7 (lo := -2147483648) (hi := 2147483647) (by decide) rfl (by omega) ⟨by decide, by decide⟩ (Or.inr (by decide))
        have hZ7K := zK_u hZ5K hZ7 (by decide)
        intro μ9 e9
        replace e9 := e9.trans (zm_wI (Z := Z5) (ν := ν) hZ7 (show ((0 : Nat) : Int) = 0 from rfl) (show ((0 : Nat) : Int) = 0 from rfl) (show ((2 : Nat) : Int) = 2 from rfl) (show (2 : Int32) = i3 2 from rfl))
        subst e9
        exact zlM hP (show (0 : Int32) = i3 0 from rfl) (zu_at hZ7) ⟨hZ7I, hZ7K, zN_r⟩
      · replace hP := zE_n hP h6
        refine wz_br (i3L (show (99 : Int32) = i3 99 from rfl) (rfl : i3 a1 = i3 a1) (by omega) (by omega) (by omega) (by omega)) (fun h8 => ?_) (fun h8 => ?_)
        · replace hP := zE_p hP h8
          obtain ⟨Z9, hZ9⟩ := zx (zu Z5 1 0 0 2 2)
          have hZ9I := zI_u hZ5I hZ9 (lo := -2147483648) (hi := 2147483647) (by decide) rfl (by omega) ⟨by decide, by decide⟩ (Or.inr (by decide))
          have hZ9K := zK_u hZ5K hZ9 (by decide)
          intro μ9 e9
          replace e9 := e9.trans (zm_wI (Z := Z5) (ν := ν) hZ9 (show ((0 : Nat) : Int) = 0 from rfl) (show ((0 : Nat) : Int) = 0 from rfl) (show ((2 : Nat) : Int) = 2 from rfl) (show (2 : Int32) = i3 2 from rfl))
          subst e9
          exact zlM hP (show (0 : Int32) = i3 0 from rfl) (zu_at hZ9) ⟨hZ9I, hZ9K, zN_r⟩
        · replace hP := zE_n hP h8
          obtain ⟨Z10, hZ10⟩ := zx (zu Z5 1 0 0 2 0)
          have hZ10I := zI_0 hZ5I hZ10 (by decide) (Or.inr (by decide))
          have hZ10K := zK_u hZ5K hZ10 (by decide)
          intro μ9 e9
          replace e9 := e9.trans (zm_wI (Z := Z5) (ν := ν) hZ10 (show ((0 : Nat) : Int) = 0 from rfl) (show ((0 : Nat) : Int) = 0 from rfl) (show ((2 : Nat) : Int) = 2 from rfl) (show (0 : Int32) = i3 0 from rfl))
          subst e9
          refine fw_517 _ _ _ ?_
          obtain ⟨Z11, hZ11⟩ := zx (zu Z10 1 0 0 28 0)
          have hZ11I := zI_0 hZ10I hZ11 (by decide) (Or.inr (by decide))
          have hZ11K := zK_u hZ10K hZ11 (by decide)
          intro μ9 e9
          replace e9 := e9.trans (zm_wI (Z := Z10) (ν := ν) hZ11 (show ((0 : Nat) : Int) = 0 from rfl) (show ((0 : Nat) : Int) = 0 from rfl) (show ((28 : Nat) : Int) = 28 from rfl) (show (0 : Int32) = i3 0 from rfl))
          subst e9
          refine wz_l0 sb_517_1 (fb_517_1 (i3 a2) (i3 0) _ _ _ _ (zconso rfl (zconso (zvo (rfl : i3 a2 = i3 a2)) (zconso (zvo (show (0 : Int32) = i3 0 from rfl)) rfl))) ?_)
          refine wz_i1 (Eq.trans (i3Le (Eq.trans (zm_rd (Z := Z11) (ν := ν) (k := 2) (show ((0 : Nat) : Int) = 0 from rfl) (show ((0 : Nat) : Int) = 0 from rfl) (show ((2000 : Nat) : Int) = 2000 from rfl)) (congrArg i3 ((zu_ne (k' := 2) (b' := 0) (i' := 0) (j' := 2000) hZ11 (fun q => absurd q.1 (by decide))).trans ((zu_ne (k' := 2) (b' := 0) (i' := 0) (j' := 2000) hZ10 (fun q => absurd q.1 (by decide))).trans ((zu_ne (k' := 2) (b' := 0) (i' := 0) (j' := 2000) hZ5 (fun q => absurd q.1 (by decide))).trans ((hF 2 0 2000 (by decide)).trans ((show frz 2 0 2000 = 0 from by decide)))))))) (rfl : i3 0 = i3 0) (by omega) (by omega) (by omega) (by omega)) (decide_eq_true (by omega))) ?_
          refine wz_lk0 (wz_sk0 ?_)
          refine fc_517_2  _ _ _ _ (zconso rfl (zconso rfl (zconso rfl rfl))) ?_
          refine fw_258 _ _ _ ?_
          refine wz_i0 (Eq.trans (i3L (show (10 : Int32) = i3 10 from rfl) (Eq.trans (zm_rd (Z := Z11) (ν := ν) (k := 1) (show ((0 : Nat) : Int) = 0 from rfl) (show ((0 : Nat) : Int) = 0 from rfl) (show ((28 : Nat) : Int) = 28 from rfl)) (congrArg i3 (zu_at hZ11))) (by omega) (by omega) (by omega) (by omega)) (decide_eq_false (by omega))) ?_
          refine wz_l0 sb_258_1 (fb_258_1 (i3 a1) (i3 1) (i3 0) _ _ _ _ (zconso rfl (zconso (zvo (rfl : i3 a1 = i3 a1)) (zconso (zvo (show (1 : Int32) = i3 1 from rfl)) (zconso (zvo (show (0 : Int32) = i3 0 from rfl)) rfl)))) ?_)
          refine wz_i1 (Eq.trans (i3Le (Eq.trans (zm_rd (Z := Z11) (ν := ν) (k := 1) (show ((0 : Nat) : Int) = 0 from rfl) (show ((0 : Nat) : Int) = 0 from rfl) (show ((28 : Nat) : Int) = 28 from rfl)) (congrArg i3 (zu_at hZ11))) (rfl : i3 0 = i3 0) (by omega) (by omega) (by omega) (by omega)) (decide_eq_true (by omega))) ?_
          refine wz_lk0 (wz_sk0 ?_)
          refine fc_258_2 (i3 1) _ _ _ _ (zconso rfl (zconso rfl (zconso (zvo (rfl : i3 1 = i3 1)) (zconso rfl rfl)))) ?_
          refine wz_i1 (i3B (rfl : i3 1 = i3 1) (by omega)) ?_
          refine wz_i0 (Eq.trans (i3E (rfl : i3 1 = i3 1) (show (0 : Int32) = i3 0 from rfl) (by omega) (by omega) (by omega) (by omega)) (decide_eq_false (by omega))) ?_
          obtain ⟨Z12, hZ12⟩ := zx (zu Z11 1 0 0 2 0)
          have hZ12I := zI_0 hZ11I hZ12 (by decide) (Or.inr (by decide))
          have hZ12K := zK_u hZ11K hZ12 (by decide)
          intro μ9 e9
          replace e9 := e9.trans (zm_wI (Z := Z11) (ν := ν) hZ12 (show ((0 : Nat) : Int) = 0 from rfl) (show ((0 : Nat) : Int) = 0 from rfl) (show ((2 : Nat) : Int) = 2 from rfl) (show (0 : Int32) = i3 0 from rfl))
          subst e9
          refine wz_i1 (Eq.trans (i3NE (rfl : i3 1 = i3 1) (show (0 : Int32) = i3 0 from rfl) (by omega) (by omega) (by omega) (by omega)) (decide_eq_true (by omega))) ?_
          refine fw_510 _ _ _ ?_
          obtain ⟨Z13, hZ13⟩ := zx (zu Z12 99 0 0 0 0)
          have hZ13I := zI_0 hZ12I hZ13 (by decide) (Or.inl (by decide))
          have hZ13K := zK_u hZ12K hZ13 (by decide)
          intro μ9 e9
          replace e9 := e9.trans (zm_wI (Z := Z12) (ν := ν) hZ13 (show ((0 : Nat) : Int) = 0 from rfl) (show ((0 : Nat) : Int) = 0 from rfl) (show ((0 : Nat) : Int) = 0 from rfl) (show (0 : Int32) = i3 0 from rfl))
          subst e9
          refine wz_l0 sb_510_3 (fb_510_3 (i3 a1) (i3 1) _ _ _ _ (zconso rfl (zconso (zvo (rfl : i3 a1 = i3 a1)) (zconso (zvo (show (1 : Int32) = i3 1 from rfl)) (zconso rfl (zconso rfl (zconso rfl rfl)))))) ?_)
          refine wz_i1 (Eq.trans (i3Le (Eq.trans (i3Z (fun x y => x <<< (y &&& 31)) (show (1 : Int32) = i3 1 from rfl) (Eq.trans (zm_rd (Z := Z13) (ν := ν) (k := 1) (show ((0 : Nat) : Int) = 0 from rfl) (show ((0 : Nat) : Int) = 0 from rfl) (show ((28 : Nat) : Int) = 28 from rfl)) (congrArg i3 ((zu_ne (k' := 1) (b' := 0) (i' := 0) (j' := 28) hZ13 (fun q => absurd q.1 (by decide))).trans ((zu_ne (k' := 1) (b' := 0) (i' := 0) (j' := 28) hZ12 (fun q => absurd q.2.2.2 (by decide))).trans (zu_at hZ11)))))) (show i3 (z2 (fun x y => x <<< (y &&& 31)) 1 0) = i3 1 from by decide +kernel)) (rfl : i3 1 = i3 1) (by omega) (by omega) (by omega) (by omega)) (decide_eq_true (by omega))) ?_
          refine wz_lk0 (wz_sk0 ?_)
          refine fc_510_4  _ _ _ _ (zconso rfl (zconso rfl (zconso rfl (zconso rfl (zconso rfl (zconso rfl rfl)))))) ?_
          refine wz_i0 (i3O (n := 1024) (i3S (Eq.trans (i3Z (fun x y => x <<< (y &&& 31)) (show (1 : Int32) = i3 1 from rfl) (Eq.trans (zm_rd (Z := Z13) (ν := ν) (k := 1) (show ((0 : Nat) : Int) = 0 from rfl) (show ((0 : Nat) : Int) = 0 from rfl) (show ((28 : Nat) : Int) = 28 from rfl)) (congrArg i3 ((zu_ne (k' := 1) (b' := 0) (i' := 0) (j' := 28) hZ13 (fun q => absurd q.1 (by decide))).trans ((zu_ne (k' := 1) (b' := 0) (i' := 0) (j' := 28) hZ12 (fun q => absurd q.2.2.2 (by decide))).trans (zu_at hZ11)))))) (show i3 (z2 (fun x y => x <<< (y &&& 31)) 1 0) = i3 1 from by decide +kernel)) (show (1 : Int32) = i3 1 from rfl)) (by omega) (by omega) (by omega)) ?_
          exact zlM hP (i3C (i3D (Eq.trans (zm_rd (Z := Z13) (ν := ν) (k := 99) (show ((0 : Nat) : Int) = 0 from rfl) (show ((0 : Nat) : Int) = 0 from rfl) (i3I (y := 0) (i3S (Eq.trans (i3Z (fun x y => x <<< (y &&& 31)) (show (1 : Int32) = i3 1 from rfl) (Eq.trans (zm_rd (Z := Z13) (ν := ν) (k := 1) (show ((0 : Nat) : Int) = 0 from rfl) (show ((0 : Nat) : Int) = 0 from rfl) (show ((28 : Nat) : Int) = 28 from rfl)) (congrArg i3 ((zu_ne (k' := 1) (b' := 0) (i' := 0) (j' := 28) hZ13 (fun q => absurd q.1 (by decide))).trans ((zu_ne (k' := 1) (b' := 0) (i' := 0) (j' := 28) hZ12 (fun q => absurd q.2.2.2 (by decide))).trans (zu_at hZ11)))))) (show i3 (z2 (fun x y => x <<< (y &&& 31)) 1 0) = i3 1 from by decide +kernel)) (show (1 : Int32) = i3 1 from rfl)) (by omega) (by omega) (by omega))) (congrArg i3 (zu_at hZ13))) (show (128 : Int32) = i3 128 from rfl) (by omega) (by omega) (by omega) (by omega)) (show (0 / 128 : Int) = 0 from by decide)) ((zu_ne (k' := 1) (b' := 0) (i' := 0) (j' := 2) hZ13 (fun q => absurd q.1 (by decide))).trans (zu_at hZ12)) ⟨hZ13I, hZ13K, zN_r⟩

/- yX12_looked -/
def zg_427 (a1 : Int) (a2 : Int) : Int × Int := (if a1 < 0 then (0, 1) else (0, 1))
theorem sg_427 {Z : qz_Z} {ν : qz_N} (hZ : zI none Z) (hF : zFm Z) {a1 : Int} (ga1 : -2147483648 ≤ a1 ∧ a1 ≤ 2147483647) {a2 : Int} (ga2 : -2147483648 ≤ a2 ∧ a2 ≤ 2147483647) : ∃ (Z1 : qz_Z) (ν1 : qz_N) (v t : Int), (v, t) = zg_427 a1 a2 ∧ qf_427 [.inr (.inr (some (1, 0, 0))), .inl (i3 a1), .inl (i3 a2)] (zm Z ν) = some (zm Z1 ν1, .inl (some (.inl (i3 v)))) ∧ Z1 1 0 0 2 = t ∧ (fun Z1 ν1 => zI none Z1 ∧ zK [1] Z Z1 ∧ zN ν ν1) Z1 ν1 := by
  obtain ⟨P, hP⟩ := zx (zg_427 a1 a2)
  refine zc_M (Q := fun Z1 ν1 => zI none Z1 ∧ zK [1] Z Z1 ∧ zN ν ν1) hP (fw_427 (i3 a1) (i3 a2) _ _ ?_)
  replace hP : zE P (zg_427 a1 a2) := hP
  unfold zg_427 at hP
  refine wz_br (i3L (rfl : i3 a1 = i3 a1) (show (0 : Int32) = i3 0 from rfl) (by omega) (by omega) (by omega) (by omega)) (fun h1 => ?_) (fun h1 => ?_)
  · replace hP := zE_p hP h1
    obtain ⟨Z2, hZ2⟩ := zx (zu Z 1 0 0 2 1)
    have hZ2I := zI_u hZ hZ2 (lo := -2147483648) (hi := 2147483647) (by decide) rfl (by omega) ⟨by decide, by decide⟩ (Or.inr (by decide))
    have hZ2K : zK [1] Z Z2 := zK_u zK_r hZ2 (by decide)
    intro μ9 e9
    replace e9 := e9.trans (zm_wI (Z := Z) (ν := ν) hZ2 (show ((0 : Nat) : Int) = 0 from rfl) (show ((0 : Nat) : Int) = 0 from rfl) (show ((2 : Nat) : Int) = 2 from rfl) (show (1 : Int32) = i3 1 from rfl))
    subst e9
    exact zlM hP (show (0 : Int32) = i3 0 from rfl) (zu_at hZ2) ⟨hZ2I, hZ2K, zN_r⟩
  · replace hP := zE_n hP h1
    refine wz_i1 (Eq.trans (i3L (i3S (Eq.trans (zm_rd (Z := Z) (ν := ν) (k := 2) (show ((0 : Nat) : Int) = 0 from rfl) (show ((0 : Nat) : Int) = 0 from rfl) (show ((3500 : Nat) : Int) = 3500 from rfl)) (congrArg i3 ((hF 2 0 3500 (by decide)).trans ((show frz 2 0 3500 = 0 from by decide))))) (show (1 : Int32) = i3 1 from rfl)) (rfl : i3 a1 = i3 a1) (by omega) (by omega) (by omega) (by omega)) (decide_eq_true (by omega))) ?_
    obtain ⟨Z3, hZ3⟩ := zx (zu Z 1 0 0 2 1)
    have hZ3I := zI_u hZ hZ3 (lo := -2147483648) (hi := 2147483647) (by decide) rfl (by omega) ⟨by decide, by decide⟩ (Or.inr (by decide))
    have hZ3K : zK [1] Z Z3 := zK_u zK_r hZ3 (by decide)
    intro μ9 e9
    replace e9 := e9.trans (zm_wI (Z := Z) (ν := ν) hZ3 (show ((0 : Nat) : Int) = 0 from rfl) (show ((0 : Nat) : Int) = 0 from rfl) (show ((2 : Nat) : Int) = 2 from rfl) (show (1 : Int32) = i3 1 from rfl))
    subst e9
    exact zlM hP (show (0 : Int32) = i3 0 from rfl) (zu_at hZ3) ⟨hZ3I, hZ3K, zN_r⟩

/- yX12_tariff -/
def zg_534 (a1 : Int) (a2 : Int) : Int × Int := (if a1 < 0 then (0, 1) else (if 3 < a1 then (0, 1) else (if a2 < 0 then (0, 1) else (if 99999 < a2 then (0, 1) else ((frz 2 0 (3810 + a1)), 0)))))
theorem sg_534 {Z : qz_Z} {ν : qz_N} (hZ : zI none Z) (hF : zFm Z) {a1 : Int} (ga1 : -2147483648 ≤ a1 ∧ a1 ≤ 2147483647) {a2 : Int} (ga2 : -2147483648 ≤ a2 ∧ a2 ≤ 2147483647) (rrec : ∀ Z, qz_rm (zm Z ν) 1 0 0 36 = some (102, 0, 0)) : ∃ (Z1 : qz_Z) (ν1 : qz_N) (v t : Int), (v, t) = zg_534 a1 a2 ∧ qf_534 [.inr (.inr (some (1, 0, 0))), .inl (i3 a1), .inl (i3 a2)] (zm Z ν) = some (zm Z1 ν1, .inl (some (.inl (i3 v)))) ∧ Z1 1 0 0 2 = t ∧ (fun Z1 ν1 => zI none Z1 ∧ zK [1, 2, 101, 102] Z Z1 ∧ zN ν ν1) Z1 ν1 := by
  obtain ⟨P, hP⟩ := zx (zg_534 a1 a2)
  refine zc_M (Q := fun Z1 ν1 => zI none Z1 ∧ zK [1, 2, 101, 102] Z Z1 ∧ zN ν ν1) hP (fw_534 (i3 a1) (i3 a2) _ _ ?_)
  replace hP : zE P (zg_534 a1 a2) := hP
  unfold zg_534 at hP
  refine wz_br (i3L (rfl : i3 a1 = i3 a1) (show (0 : Int32) = i3 0 from rfl) (by omega) (by omega) (by omega) (by omega)) (fun h1 => ?_) (fun h1 => ?_)
  · replace hP := zE_p hP h1
    obtain ⟨Z2, hZ2⟩ := zx (zu Z 1 0 0 2 1)
    have hZ2I := zI_u hZ hZ2 (lo := -2147483648) (hi := 2147483647) (by decide) rfl (by omega) ⟨by decide, by decide⟩ (Or.inr (by decide))
    have hZ2K : zK [1, 2, 101, 102] Z Z2 := zK_u zK_r hZ2 (by decide)
    intro μ9 e9
    replace e9 := e9.trans (zm_wI (Z := Z) (ν := ν) hZ2 (show ((0 : Nat) : Int) = 0 from rfl) (show ((0 : Nat) : Int) = 0 from rfl) (show ((2 : Nat) : Int) = 2 from rfl) (show (1 : Int32) = i3 1 from rfl))
    subst e9
    exact zlM hP (show (0 : Int32) = i3 0 from rfl) (zu_at hZ2) ⟨hZ2I, hZ2K, zN_r⟩
  · replace hP := zE_n hP h1
    refine wz_br (i3L (show (3 : Int32) = i3 3 from rfl) (rfl : i3 a1 = i3 a1) (by omega) (by omega) (by omega) (by omega)) (fun h3 => ?_) (fun h3 => ?_)
    · replace hP := zE_p hP h3
      obtain ⟨Z4, hZ4⟩ := zx (zu Z 1 0 0 2 1)
      have hZ4I := zI_u hZ hZ4 (lo := -2147483648) (hi := 2147483647) (by decide) rfl (by omega) ⟨by decide, by decide⟩ (Or.inr (by decide))
      have hZ4K : zK [1, 2, 101, 102] Z Z4 := zK_u zK_r hZ4 (by decide)
      intro μ9 e9
      replace e9 := e9.trans (zm_wI (Z := Z) (ν := ν) hZ4 (show ((0 : Nat) : Int) = 0 from rfl) (show ((0 : Nat) : Int) = 0 from rfl) (show ((2 : Nat) : Int) = 2 from rfl) (show (1 : Int32) = i3 1 from rfl))
      subst e9
      exact zlM hP (show (0 : Int32) = i3 0 from rfl) (zu_at hZ4) ⟨hZ4I, hZ4K, zN_r⟩
    · replace hP := zE_n hP h3
      refine wz_br (i3L (rfl : i3 a2 = i3 a2) (show (0 : Int32) = i3 0 from rfl) (by omega) (by omega) (by omega) (by omega)) (fun h5 => ?_) (fun h5 => ?_)
      · replace hP := zE_p hP h5
        obtain ⟨Z6, hZ6⟩ := zx (zu Z 1 0 0 2 1)
        have hZ6I := zI_u hZ hZ6 (lo := -2147483648) (hi := 2147483647) (by decide) rfl (by omega) ⟨by decide, by decide⟩ (Or.inr (by decide))
        have hZ6K : zK [1, 2, 101, 102] Z Z6 := zK_u zK_r hZ6 (by decide)
        intro μ9 e9
        replace e9 := e9.trans (zm_wI (Z := Z) (ν := ν) hZ6 (show ((0 : Nat) : Int) = 0 from rfl) (show ((0 : Nat) : Int) = 0 from rfl) (show ((2 : Nat) : Int) = 2 from rfl) (show (1 : Int32) = i3 1 from rfl))
        subst e9
        exact zlM hP (show (0 : Int32) = i3 0 from rfl) (zu_at hZ6) ⟨hZ6I, hZ6K, zN_r⟩
      · replace hP := zE_n hP h5
        refine wz_br (i3L (show (99999 : Int32) = i3 99999 from rfl) (rfl : i3 a2 = i3 a2) (by omega) (by omega) (by omega) (by omega)) (fun h7 => ?_) (fun h7 => ?_)
        · replace hP := zE_p hP h7
          obtain ⟨Z8, hZ8⟩ := zx (zu Z 1 0 0 2 1)
          have hZ8I := zI_u hZ hZ8 (lo := -2147483648) (hi := 2147483647) (by decide) rfl (by omega) ⟨by decide, by decide⟩ (Or.inr (by decide))
          have hZ8K : zK [1, 2, 101, 102] Z Z8 := zK_u zK_r hZ8 (by decide)
          intro μ9 e9
          replace e9 := e9.trans (zm_wI (Z := Z) (ν := ν) hZ8 (show ((0 : Nat) : Int) = 0 from rfl) (show ((0 : Nat) : Int) = 0 from rfl) (show ((2 : Nat) : Int) = 2 from rfl) (show (1 : Int32) = i3 1 from rfl))
          subst e9
          exact zlM hP (show (0 : Int32) = i3 0 from rfl) (zu_at hZ8) ⟨hZ8I, hZ8K, zN_r⟩
        · replace hP := zE_n hP h7
          obtain ⟨Z9, hZ9⟩ := zx (zu Z 1 0 0 2 0)
          have hZ9I := zI_0 hZ hZ9 (by decide) (Or.inr (by decide))
          have hZ9K : zK [1, 2, 101, 102] Z Z9 := zK_u zK_r hZ9 (by decide)
          intro μ9 e9
          replace e9 := e9.trans (zm_wI (Z := Z) (ν := ν) hZ9 (show ((0 : Nat) : Int) = 0 from rfl) (show ((0 : Nat) : Int) = 0 from rfl) (show ((2 : Nat) : Int) = 2 from rfl) (show (0 : Int32) = i3 0 from rfl))
          subst e9
          refine wz_i0 (Eq.trans (i3NE (Eq.trans (zm_rd (Z := Z9) (ν := ν) (k := 1) (show ((0 : Nat) : Int) = 0 from rfl) (show ((0 : Nat) : Int) = 0 from rfl) (show ((35 : Nat) : Int) = 35 from rfl)) (congrArg i3 ((zu_ne (k' := 1) (b' := 0) (i' := 0) (j' := 35) hZ9 (fun q => absurd q.2.2.2 (by decide))).trans ((hF 1 0 35 (by decide)).trans ((show frz 1 0 35 = 0 from by decide)))))) (show (0 : Int32) = i3 0 from rfl) (by omega) (by omega) (by omega) (by omega)) (decide_eq_false (by omega))) ?_
          have e10 : Z9 1 0 0 34 = 0 := (zu_ne (k' := 1) (b' := 0) (i' := 0) (j' := 34) hZ9 (fun q => absurd q.2.2.2 (by decide))).trans ((hF 1 0 34 (by decide)).trans ((show frz 1 0 34 = 0 from by decide)))
          obtain ⟨Z11, hZ11, c9, hZ11I, kZ11, wZ110, wZ111, wZ112⟩ := sp_557 (ν := ν) hZ9I (a1 := (-1)) (by omega) (by omega)
          have hZ11K : zK [1, 2, 101, 102] Z Z11 := zK_t hZ9K kZ11 (by decide)
          refine wz_cV_of (zas (zcons rfl (zcons (zvi (show (-1 : Int32) = i3 (-1) from rfl)) rfl)) c9) ?_
          clear c9
          have e12 : Z11 1 0 0 37 = 0 := (wZ112).trans ((zu_ne (k' := 1) (b' := 0) (i' := 0) (j' := 37) hZ9 (fun q => absurd q.2.2.2 (by decide))).trans ((hF 1 0 37 (by decide)).trans ((show frz 1 0 37 = 0 from by decide))))
          obtain ⟨Z13, hZ13, c9, hZ13I, kZ13, wZ130, wZ131⟩ := sp_563 (ν := ν) hZ11I (a1 := 25) (by omega) (a2 := a1) (by omega) (a3 := a2) (by omega) (a4 := 0) (by omega) (a5 := 0) (by omega) (a6 := 0) (by omega) (a7 := 0) (by omega) (by omega) rrec
          have hZ13K : zK [1, 2, 101, 102] Z Z13 := zK_t hZ11K kZ13 (by decide)
          refine wz_cV_of (zas (zcons rfl (zcons (zvi (show (25 : Int32) = i3 25 from rfl)) (zcons (zvi (rfl : i3 a1 = i3 a1)) (zcons (zvi (rfl : i3 a2 = i3 a2)) (zcons (zvi (show (0 : Int32) = i3 0 from rfl)) (zcons (zvi (show (0 : Int32) = i3 0 from rfl)) (zcons (zvi (show (0 : Int32) = i3 0 from rfl)) (zcons (zvi (show (0 : Int32) = i3 0 from rfl)) rfl)))))))) c9) ?_
          clear c9
          refine wz_i0 (i3O (n := 4400) (i3A (show (3810 : Int32) = i3 3810 from rfl) (rfl : i3 a1 = i3 a1)) (by omega) (by omega) (by omega)) ?_
          refine wz_i0 (i3O (n := 4400) (i3A (show (3810 : Int32) = i3 3810 from rfl) (rfl : i3 a1 = i3 a1)) (by omega) (by omega) (by omega)) ?_
          obtain ⟨Z14, hZ14⟩ := zx (zu Z13 2 0 0 (3810 + a1) a2)
          have hZ14I := zI_u hZ13I hZ14 (lo := 0) (hi := 99999) (by decide) (zs_3810 (by omega) (by omega)) (by omega) ⟨by decide, by decide⟩ (Or.inl (by decide))
          have hZ14K := zK_u hZ13K hZ14 (by decide)
          intro μ9 e9
          replace e9 := e9.trans (zm_wI (Z := Z13) (ν := ν) hZ14 (show ((0 : Nat) : Int) = 0 from rfl) (show ((0 : Nat) : Int) = 0 from rfl) (i3I (y := (3810 + a1)) (i3A (show (3810 : Int32) = i3 3810 from rfl) (rfl : i3 a1 = i3 a1)) (by omega) (by omega) (by omega)) (rfl : i3 a2 = i3 a2))
          subst e9
          have r15 := frz_r 2 0 (3810 + a1)
          exact zlM hP (Eq.trans (zm_rd (Z := Z13) (ν := ν) (k := 2) (show ((0 : Nat) : Int) = 0 from rfl) (show ((0 : Nat) : Int) = 0 from rfl) (i3I (y := (3810 + a1)) (i3A (show (3810 : Int32) = i3 3810 from rfl) (rfl : i3 a1 = i3 a1)) (by omega) (by omega) (by omega))) (congrArg i3 ((kZ13 2 (by decide) 0 0 (3810 + a1)).trans ((kZ11 2 (by decide) 0 0 (3810 + a1)).trans ((zu_ne (k' := 2) (b' := 0) (i' := 0) (j' := (3810 + a1)) hZ9 (fun q => absurd q.1 (by decide))).trans (hF 2 0 (3810 + a1) (by decide))))))) ((zu_ne (k' := 1) (b' := 0) (i' := 0) (j' := 2) hZ14 (fun q => absurd q.1 (by decide))).trans ((wZ130).trans ((wZ110).trans (zu_at hZ9)))) ⟨hZ14I, hZ14K, zN_r⟩

/- yX12_owed -/
def zg_444 (a1 : Int) (a2 : Int) : Int × Int := (if a1 < 0 then (0, 1) else (0, 1))
theorem sg_444 {Z : qz_Z} {ν : qz_N} (hZ : zI none Z) (hF : zFm Z) {a1 : Int} (ga1 : -2147483648 ≤ a1 ∧ a1 ≤ 2147483647) {a2 : Int} (ga2 : -2147483648 ≤ a2 ∧ a2 ≤ 2147483647) : ∃ (Z1 : qz_Z) (ν1 : qz_N) (v t : Int), (v, t) = zg_444 a1 a2 ∧ qf_444 [.inr (.inr (some (1, 0, 0))), .inl (i3 a1), .inl (i3 a2)] (zm Z ν) = some (zm Z1 ν1, .inl (some (.inl (i3 v)))) ∧ Z1 1 0 0 2 = t ∧ (fun Z1 ν1 => zI none Z1 ∧ zK [1] Z Z1 ∧ zN ν ν1) Z1 ν1 := by
  obtain ⟨P, hP⟩ := zx (zg_444 a1 a2)
  refine zc_M (Q := fun Z1 ν1 => zI none Z1 ∧ zK [1] Z Z1 ∧ zN ν ν1) hP (fw_444 (i3 a1) (i3 a2) _ _ ?_)
  replace hP : zE P (zg_444 a1 a2) := hP
  unfold zg_444 at hP
  refine wz_br (i3L (rfl : i3 a1 = i3 a1) (show (0 : Int32) = i3 0 from rfl) (by omega) (by omega) (by omega) (by omega)) (fun h1 => ?_) (fun h1 => ?_)
  · replace hP := zE_p hP h1
    obtain ⟨Z2, hZ2⟩ := zx (zu Z 1 0 0 2 1)
    have hZ2I := zI_u hZ hZ2 (lo := -2147483648) (hi := 2147483647) (by decide) rfl (by omega) ⟨by decide, by decide⟩ (Or.inr (by decide))
    have hZ2K : zK [1] Z Z2 := zK_u zK_r hZ2 (by decide)
    intro μ9 e9
    replace e9 := e9.trans (zm_wI (Z := Z) (ν := ν) hZ2 (show ((0 : Nat) : Int) = 0 from rfl) (show ((0 : Nat) : Int) = 0 from rfl) (show ((2 : Nat) : Int) = 2 from rfl) (show (1 : Int32) = i3 1 from rfl))
    subst e9
    exact zlM hP (show (0 : Int32) = i3 0 from rfl) (zu_at hZ2) ⟨hZ2I, hZ2K, zN_r⟩
  · replace hP := zE_n hP h1
    refine wz_i1 (Eq.trans (i3L (i3S (Eq.trans (zm_rd (Z := Z) (ν := ν) (k := 2) (show ((0 : Nat) : Int) = 0 from rfl) (show ((0 : Nat) : Int) = 0 from rfl) (show ((101 : Nat) : Int) = 101 from rfl)) (congrArg i3 ((hF 2 0 101 (by decide)).trans ((show frz 2 0 101 = 0 from by decide))))) (show (1 : Int32) = i3 1 from rfl)) (rfl : i3 a1 = i3 a1) (by omega) (by omega) (by omega) (by omega)) (decide_eq_true (by omega))) ?_
    obtain ⟨Z3, hZ3⟩ := zx (zu Z 1 0 0 2 1)
    have hZ3I := zI_u hZ hZ3 (lo := -2147483648) (hi := 2147483647) (by decide) rfl (by omega) ⟨by decide, by decide⟩ (Or.inr (by decide))
    have hZ3K : zK [1] Z Z3 := zK_u zK_r hZ3 (by decide)
    intro μ9 e9
    replace e9 := e9.trans (zm_wI (Z := Z) (ν := ν) hZ3 (show ((0 : Nat) : Int) = 0 from rfl) (show ((0 : Nat) : Int) = 0 from rfl) (show ((2 : Nat) : Int) = 2 from rfl) (show (1 : Int32) = i3 1 from rfl))
    subst e9
    exact zlM hP (show (0 : Int32) = i3 0 from rfl) (zu_at hZ3) ⟨hZ3I, hZ3K, zN_r⟩

/- yX12_blame -/
def zg_294 (a1 : Int) (a2 : Int) (a3 : Int) : Int × Int := (if a1 < 0 then (0, 1) else (0, 1))
theorem sg_294 {Z : qz_Z} {ν : qz_N} (hZ : zI none Z) (hF : zFm Z) {a1 : Int} (ga1 : -2147483648 ≤ a1 ∧ a1 ≤ 2147483647) {a2 : Int} (ga2 : -2147483648 ≤ a2 ∧ a2 ≤ 2147483647) {a3 : Int} (ga3 : -2147483648 ≤ a3 ∧ a3 ≤ 2147483647) : ∃ (Z1 : qz_Z) (ν1 : qz_N) (v t : Int), (v, t) = zg_294 a1 a2 a3 ∧ qf_294 [.inr (.inr (some (1, 0, 0))), .inl (i3 a1), .inl (i3 a2), .inl (i3 a3)] (zm Z ν) = some (zm Z1 ν1, .inl (some (.inl (i3 v)))) ∧ Z1 1 0 0 2 = t ∧ (fun Z1 ν1 => zI none Z1 ∧ zK [1] Z Z1 ∧ zN ν ν1) Z1 ν1 := by
  obtain ⟨P, hP⟩ := zx (zg_294 a1 a2 a3)
  refine zc_M (Q := fun Z1 ν1 => zI none Z1 ∧ zK [1] Z Z1 ∧ zN ν ν1) hP (fw_294 (i3 a1) (i3 a2) (i3 a3) _ _ ?_)
  replace hP : zE P (zg_294 a1 a2 a3) := hP
  unfold zg_294 at hP
  refine wz_br (i3L (rfl : i3 a1 = i3 a1) (show (0 : Int32) = i3 0 from rfl) (by omega) (by omega) (by omega) (by omega)) (fun h1 => ?_) (fun h1 => ?_)
  · replace hP := zE_p hP h1
    obtain ⟨Z2, hZ2⟩ := zx (zu Z 1 0 0 2 1)
    have hZ2I := zI_u hZ hZ2 (lo := -2147483648) (hi := 2147483647) (by decide) rfl (by omega) ⟨by decide, by decide⟩ (Or.inr (by decide))
    have hZ2K : zK [1] Z Z2 := zK_u zK_r hZ2 (by decide)
    intro μ9 e9
    replace e9 := e9.trans (zm_wI (Z := Z) (ν := ν) hZ2 (show ((0 : Nat) : Int) = 0 from rfl) (show ((0 : Nat) : Int) = 0 from rfl) (show ((2 : Nat) : Int) = 2 from rfl) (show (1 : Int32) = i3 1 from rfl))
    subst e9
    exact zlM hP (show (0 : Int32) = i3 0 from rfl) (zu_at hZ2) ⟨hZ2I, hZ2K, zN_r⟩
  · replace hP := zE_n hP h1
    refine wz_i1 (Eq.trans (i3L (i3S (Eq.trans (zm_rd (Z := Z) (ν := ν) (k := 2) (show ((0 : Nat) : Int) = 0 from rfl) (show ((0 : Nat) : Int) = 0 from rfl) (show ((2000 : Nat) : Int) = 2000 from rfl)) (congrArg i3 ((hF 2 0 2000 (by decide)).trans ((show frz 2 0 2000 = 0 from by decide))))) (show (1 : Int32) = i3 1 from rfl)) (rfl : i3 a1 = i3 a1) (by omega) (by omega) (by omega) (by omega)) (decide_eq_true (by omega))) ?_
    obtain ⟨Z3, hZ3⟩ := zx (zu Z 1 0 0 2 1)
    have hZ3I := zI_u hZ hZ3 (lo := -2147483648) (hi := 2147483647) (by decide) rfl (by omega) ⟨by decide, by decide⟩ (Or.inr (by decide))
    have hZ3K : zK [1] Z Z3 := zK_u zK_r hZ3 (by decide)
    intro μ9 e9
    replace e9 := e9.trans (zm_wI (Z := Z) (ν := ν) hZ3 (show ((0 : Nat) : Int) = 0 from rfl) (show ((0 : Nat) : Int) = 0 from rfl) (show ((2 : Nat) : Int) = 2 from rfl) (show (1 : Int32) = i3 1 from rfl))
    subst e9
    exact zlM hP (show (0 : Int32) = i3 0 from rfl) (zu_at hZ3) ⟨hZ3I, hZ3K, zN_r⟩

/- yX12_undo -/
def zg_541 : Int × Int := (0, 1)
theorem sg_541 {Z : qz_Z} {ν : qz_N} (hZ : zI none Z) (hF : zFm Z) : ∃ (Z1 : qz_Z) (ν1 : qz_N) (v t : Int), (v, t) = zg_541 ∧ qf_541 [.inr (.inr (some (1, 0, 0)))] (zm Z ν) = some (zm Z1 ν1, .inl (some (.inl (i3 v)))) ∧ Z1 1 0 0 2 = t ∧ (fun Z1 ν1 => zI none Z1 ∧ zK [1] Z Z1 ∧ zN ν ν1) Z1 ν1 := by
  obtain ⟨P, hP⟩ := zx (zg_541)
  refine zc_M (Q := fun Z1 ν1 => zI none Z1 ∧ zK [1] Z Z1 ∧ zN ν ν1) hP (fw_541  _ _ ?_)
  replace hP : zE P (zg_541) := hP
  unfold zg_541 at hP
  refine wz_i1 (Eq.trans (i3Le (Eq.trans (zm_rd (Z := Z) (ν := ν) (k := 1) (show ((0 : Nat) : Int) = 0 from rfl) (show ((0 : Nat) : Int) = 0 from rfl) (show ((34 : Nat) : Int) = 34 from rfl)) (congrArg i3 ((hF 1 0 34 (by decide)).trans ((show frz 1 0 34 = 0 from by decide))))) (show (0 : Int32) = i3 0 from rfl) (by omega) (by omega) (by omega) (by omega)) (decide_eq_true (by omega))) ?_
  obtain ⟨Z1, hZ1⟩ := zx (zu Z 1 0 0 2 1)
  have hZ1I := zI_u hZ hZ1 (lo := -2147483648) (hi := 2147483647) (by decide) rfl (by omega) ⟨by decide, by decide⟩ (Or.inr (by decide))
  have hZ1K : zK [1] Z Z1 := zK_u zK_r hZ1 (by decide)
  intro μ9 e9
  replace e9 := e9.trans (zm_wI (Z := Z) (ν := ν) hZ1 (show ((0 : Nat) : Int) = 0 from rfl) (show ((0 : Nat) : Int) = 0 from rfl) (show ((2 : Nat) : Int) = 2 from rfl) (show (1 : Int32) = i3 1 from rfl))
  subst e9
  exact zlM hP (show (0 : Int32) = i3 0 from rfl) (zu_at hZ1) ⟨hZ1I, hZ1K, zN_r⟩
