/-! the face at a new object, 1 (printed by api.py) -/
/- yX12_sort -/
def zg_503 (a1 : Int) (a2 : Int) (a3 : Int) (a4 : Int) (a5 : Int) : Int × Int := (if a1 < 1 then (0, 1) else (if 9 < a1 then (0, 1) else (if a2 < 0 then (0, 1) else (if 12 < a2 then (0, 1) else (if a3 < 0 then (0, 1) else (if 12 < a3 then (0, 1) else (if a4 < 100 then (0, 1) else (if 600 < a4 then (0, 1) else (if a5 < 10 then (0, 1) else (if 99 < a5 then (0, 1) else (0, 0)))))))))))
theorem sg_503 {Z : qz_Z} {ν : qz_N} (hZ : zI none Z) (hF : zFm Z) {a1 : Int} (ga1 : -2147483648 ≤ a1 ∧ a1 ≤ 2147483647) {a2 : Int} (ga2 : -2147483648 ≤ a2 ∧ a2 ≤ 2147483647) {a3 : Int} (ga3 : -2147483648 ≤ a3 ∧ a3 ≤ 2147483647) {a4 : Int} (ga4 : -2147483648 ≤ a4 ∧ a4 ≤ 2147483647) {a5 : Int} (ga5 : -2147483648 ≤ a5 ∧ a5 ≤ 2147483647) (rrec : ∀ Z, qz_rm (zm Z ν) 1 0 0 36 = some (102, 0, 0)) : ∃ (Z1 : qz_Z) (ν1 : qz_N) (v t : Int), (v, t) = zg_503 a1 a2 a3 a4 a5 ∧ qf_503 [.inr (.inr (some (1, 0, 0))), .inl (i3 a1), .inl (i3 a2), .inl (i3 a3), .inl (i3 a4), .inl (i3 a5)] (zm Z ν) = some (zm Z1 ν1, .inl (some (.inl (i3 v)))) ∧ Z1 1 0 0 2 = t ∧ (fun Z1 ν1 => zI none Z1 ∧ zK [1, 2, 101, 102] Z Z1 ∧ zN ν ν1) Z1 ν1 := by
  obtain ⟨P, hP⟩ := zx (zg_503 a1 a2 a3 a4 a5)
  refine zc_M (Q := fun Z1 ν1 => zI none Z1 ∧ zK [1, 2, 101, 102] Z Z1 ∧ zN ν ν1) hP (fw_503 (i3 a1) (i3 a2) (i3 a3) (i3 a4) (i3 a5) _ _ ?_)
  replace hP : zE P (zg_503 a1 a2 a3 a4 a5) := hP
  unfold zg_503 at hP
  refine wz_br (i3L (rfl : i3 a1 = i3 a1) (show (1 : Int32) = i3 1 from rfl) (by omega) (by omega) (by omega) (by omega)) (fun h1 => ?_) (fun h1 => ?_)
  · replace hP := zE_p hP h1
    obtain ⟨Z2, hZ2⟩ := zx (zu Z 1 0 0 2 1)
    have hZ2I := zI_u hZ hZ2 (lo := -2147483648) (hi := 2147483647) (by decide) rfl (by omega) ⟨by decide, by decide⟩ (Or.inr (by decide))
    have hZ2K : zK [1, 2, 101, 102] Z Z2 := zK_u zK_r hZ2 (by decide)
    intro μ9 e9
    replace e9 := e9.trans (zm_wI (Z := Z) (ν := ν) hZ2 (show ((0 : Nat) : Int) = 0 from rfl) (show ((0 : Nat) : Int) = 0 from rfl) (show ((2 : Nat) : Int) = 2 from rfl) (show (1 : Int32) = i3 1 from rfl))
    subst e9
    exact zlM hP (show (0 : Int32) = i3 0 from rfl) (zu_at hZ2) ⟨hZ2I, hZ2K, zN_r⟩
  · replace hP := zE_n hP h1
    refine wz_br (i3L (show (9 : Int32) = i3 9 from rfl) (rfl : i3 a1 = i3 a1) (by omega) (by omega) (by omega) (by omega)) (fun h3 => ?_) (fun h3 => ?_)
    · replace hP := zE_p hP h3
      obtain ⟨Z4, hZ4⟩ := zx (zu Z 1 0 0 2 1)
      have hZ4I := zI_u hZ hZ4 (lo := -2147483648) (hi := 2147483647) (by decide) rfl (by omega) ⟨by decide, by decide⟩ (Or.inr (by decide))
      have hZ4K : zK [1, 2, 101, 102] Z Z4 := zK_u zK_r hZ4 (by decide)
      intro μ9 e9
      replace e9 := e9.trans (zm_wI (Z := Z) (ν := ν) hZ4 (show ((0 : Nat) : Int) = 0 from rfl) (show ((0 : Nat) : Int) = 0 from rfl) (show ((2 : Nat) : Int) = 2 from rfl) (show (1 : Int32) = i3 1 from rfl))
      subst e9
      exact zlM hP (show (0 : Int32) = i3 0 from rfl) (zu_at hZ4) ⟨hZ4I, hZ4K, zN_r⟩
    · replace hP := zE_n hP h3
      refine wz_br (i3L (rfl : i3 a2 = i3 a2) (show (0 : Int32) = i3 0 from rfl) (by omega) (by omega) (by omega) (by omega)) (fun h5 => ?_) (fun h5 => ?_)
      · replace hP := zE_p hP h5
        obtain ⟨Z6, hZ6⟩ := zx (zu Z 1 0 0 2 1)
        have hZ6I := zI_u hZ hZ6 (lo := -2147483648) (hi := 2147483647) (by decide) rfl (by omega) ⟨by decide, by decide⟩ (Or.inr (by decide))
        have hZ6K : zK [1, 2, 101, 102] Z Z6 := zK_u zK_r hZ6 (by decide)
        intro μ9 e9
        replace e9 := e9.trans (zm_wI (Z := Z) (ν := ν) hZ6 (show ((0 : Nat) : Int) = 0 from rfl) (show ((0 : Nat) : Int) = 0 from rfl) (show ((2 : Nat) : Int) = 2 from rfl) (show (1 : Int32) = i3 1 from rfl))
        subst e9
        exact zlM hP (show (0 : Int32) = i3 0 from rfl) (zu_at hZ6) ⟨hZ6I, hZ6K, zN_r⟩
      · replace hP := zE_n hP h5
        refine wz_br (i3L (show (12 : Int32) = i3 12 from rfl) (rfl : i3 a2 = i3 a2) (by omega) (by omega) (by omega) (by omega)) (fun h7 => ?_) (fun h7 => ?_)
        · replace hP := zE_p hP h7
          obtain ⟨Z8, hZ8⟩ := zx (zu Z 1 0 0 2 1)
          have hZ8I := zI_u hZ hZ8 (lo := -2147483648) (hi := 2147483647) (by decide) rfl (by omega) ⟨by decide, by decide⟩ (Or.inr (by decide))
          have hZ8K : zK [1, 2, 101, 102] Z Z8 := zK_u zK_r hZ8 (by decide)
          intro μ9 e9
          replace e9 := e9.trans (zm_wI (Z := Z) (ν := ν) hZ8 (show ((0 : Nat) : Int) = 0 from rfl) (show ((0 : Nat) : Int) = 0 from rfl) (show ((2 : Nat) : Int) = 2 from rfl) (show (1 : Int32) = i3 1 from rfl))
          subst e9
          exact zlM hP (show (0 : Int32) = i3 0 from rfl) (zu_at hZ8) ⟨hZ8I, hZ8K, zN_r⟩
        · replace hP := zE_n hP h7
          refine wz_br (i3L (rfl : i3 a3 = i3 a3) (show (0 : Int32) = i3 0 from rfl) (by omega) (by omega) (by omega) (by omega)) (fun h9 => ?_) (fun h9 => ?_)
          · replace hP := zE_p hP h9
            obtain ⟨Z10, hZ10⟩ := zx (zu Z 1 0 0 2 1)
            have hZ10I := zI_u hZ hZ10 (lo := -2147483648) (hi := 2147483647) (by decide) rfl (by omega) ⟨by decide, by decide⟩ (Or.inr (by decide))
            have hZ10K : zK [1, 2, 101, 102] Z Z10 := zK_u zK_r hZ10 (by decide)
            intro μ9 e9
            replace e9 := e9.trans (zm_wI (Z := Z) (ν := ν) hZ10 (show ((0 : Nat) : Int) = 0 from rfl) (show ((0 : Nat) : Int) = 0 from rfl) (show ((2 : Nat) : Int) = 2 from rfl) (show (1 : Int32) = i3 1 from rfl))
            subst e9
            exact zlM hP (show (0 : Int32) = i3 0 from rfl) (zu_at hZ10) ⟨hZ10I, hZ10K, zN_r⟩
          · replace hP := zE_n hP h9
            refine wz_br (i3L (show (12 : Int32) = i3 12 from rfl) (rfl : i3 a3 = i3 a3) (by omega) (by omega) (by omega) (by omega)) (fun h11 => ?_) (fun h11 => ?_)
            · replace hP := zE_p hP h11
              obtain ⟨Z12, hZ12⟩ := zx (zu Z 1 0 0 2 1)
              have hZ12I := zI_u hZ hZ12 (lo := -2147483648) (hi := 2147483647) (by decide) rfl (by omega) ⟨by decide, by decide⟩ (Or.inr (by decide))
              have hZ12K : zK [1, 2, 101, 102] Z Z12 := zK_u zK_r hZ12 (by decide)
              intro μ9 e9
              replace e9 := e9.trans (zm_wI (Z := Z) (ν := ν) hZ12 (show ((0 : Nat) : Int) = 0 from rfl) (show ((0 : Nat) : Int) = 0 from rfl) (show ((2 : Nat) : Int) = 2 from rfl) (show (1 : Int32) = i3 1 from rfl))
              subst e9
              exact zlM hP (show (0 : Int32) = i3 0 from rfl) (zu_at hZ12) ⟨hZ12I, hZ12K, zN_r⟩
            · replace hP := zE_n hP h11
              refine wz_br (i3L (rfl : i3 a4 = i3 a4) (show (100 : Int32) = i3 100 from rfl) (by omega) (by omega) (by omega) (by omega)) (fun h13 => ?_) (fun h13 => ?_)
              · replace hP := zE_p hP h13
                obtain ⟨Z14, hZ14⟩ := zx (zu Z 1 0 0 2 1)
                have hZ14I := zI_u hZ hZ14 (lo := -2147483648) (hi := 2147483647) (by decide) rfl (by omega) ⟨by decide, by decide⟩ (Or.inr (by decide))
                have hZ14K : zK [1, 2, 101, 102] Z Z14 := zK_u zK_r hZ14 (by decide)
                intro μ9 e9
                replace e9 := e9.trans (zm_wI (Z := Z) (ν := ν) hZ14 (show ((0 : Nat) : Int) = 0 from rfl) (show ((0 : Nat) : Int) = 0 from rfl) (show ((2 : Nat) : Int) = 2 from rfl) (show (1 : Int32) = i3 1 from rfl))
                subst e9
                exact zlM hP (show (0 : Int32) = i3 0 from rfl) (zu_at hZ14) ⟨hZ14I, hZ14K, zN_r⟩
              · replace hP := zE_n hP h13
                refine wz_br (i3L (show (600 : Int32) = i3 600 from rfl) (rfl : i3 a4 = i3 a4) (by omega) (by omega) (by omega) (by omega)) (fun h15 => ?_) (fun h15 => ?_)
                · replace hP := zE_p hP h15
                  obtain ⟨Z16, hZ16⟩ := zx (zu Z 1 0 0 2 1)
                  have hZ16I := zI_u hZ hZ16 (lo := -2147483648) (hi := 2147483647) (by decide) rfl (by omega) ⟨by decide, by decide⟩ (Or.inr (by decide))
                  have hZ16K : zK [1, 2, 101, 102] Z Z16 := zK_u zK_r hZ16 (by decide)
                  intro μ9 e9
                  replace e9 := e9.trans (zm_wI (Z := Z) (ν := ν) hZ16 (show ((0 : Nat) : Int) = 0 from rfl) (show ((0 : Nat) : Int) = 0 from rfl) (show ((2 : Nat) : Int) = 2 from rfl) (show (1 : Int32) = i3 1 from rfl))
                  subst e9
                  exact zlM hP (show (0 : Int32) = i3 0 from rfl) (zu_at hZ16) ⟨hZ16I, hZ16K, zN_r⟩
                · replace hP := zE_n hP h15
                  refine wz_br (i3L (rfl : i3 a5 = i3 a5) (show (10 : Int32) = i3 10 from rfl) (by omega) (by omega) (by omega) (by omega)) (fun h17 => ?_) (fun h17 => ?_)
                  · replace hP := zE_p hP h17
                    obtain ⟨Z18, hZ18⟩ := zx (zu Z 1 0 0 2 1)
                    have hZ18I := zI_u hZ hZ18 (lo := -2147483648) (hi := 2147483647) (by decide) rfl (by omega) ⟨by decide, by decide⟩ (Or.inr (by decide))
                    have hZ18K : zK [1, 2, 101, 102] Z Z18 := zK_u zK_r hZ18 (by decide)
                    intro μ9 e9
                    replace e9 := e9.trans (zm_wI (Z := Z) (ν := ν) hZ18 (show ((0 : Nat) : Int) = 0 from rfl) (show ((0 : Nat) : Int) = 0 from rfl) (show ((2 : Nat) : Int) = 2 from rfl) (show (1 : Int32) = i3 1 from rfl))
                    subst e9
                    exact zlM hP (show (0 : Int32) = i3 0 from rfl) (zu_at hZ18) ⟨hZ18I, hZ18K, zN_r⟩
                  · replace hP := zE_n hP h17
                    refine wz_br (i3L (show (99 : Int32) = i3 99 from rfl) (rfl : i3 a5 = i3 a5) (by omega) (by omega) (by omega) (by omega)) (fun h19 => ?_) (fun h19 => ?_)
                    · replace hP := zE_p hP h19
                      obtain ⟨Z20, hZ20⟩ := zx (zu Z 1 0 0 2 1)
                      have hZ20I := zI_u hZ hZ20 (lo := -2147483648) (hi := 2147483647) (by decide) rfl (by omega) ⟨by decide, by decide⟩ (Or.inr (by decide))
                      have hZ20K : zK [1, 2, 101, 102] Z Z20 := zK_u zK_r hZ20 (by decide)
                      intro μ9 e9
                      replace e9 := e9.trans (zm_wI (Z := Z) (ν := ν) hZ20 (show ((0 : Nat) : Int) = 0 from rfl) (show ((0 : Nat) : Int) = 0 from rfl) (show ((2 : Nat) : Int) = 2 from rfl) (show (1 : Int32) = i3 1 from rfl))
                      subst e9
                      exact zlM hP (show (0 : Int32) = i3 0 from rfl) (zu_at hZ20) ⟨hZ20I, hZ20K, zN_r⟩
                    · replace hP := zE_n hP h19
                      obtain ⟨Z21, hZ21⟩ := zx (zu Z 1 0 0 2 0)
                      have hZ21I := zI_0 hZ hZ21 (by decide) (Or.inr (by decide))
                      have hZ21K : zK [1, 2, 101, 102] Z Z21 := zK_u zK_r hZ21 (by decide)
                      intro μ9 e9
                      replace e9 := e9.trans (zm_wI (Z := Z) (ν := ν) hZ21 (show ((0 : Nat) : Int) = 0 from rfl) (show ((0 : Nat) : Int) = 0 from rfl) (show ((2 : Nat) : Int) = 2 from rfl) (show (0 : Int32) = i3 0 from rfl))
                      subst e9
                      refine wz_i0 (Eq.trans (i3Le (show (5 : Int32) = i3 5 from rfl) (Eq.trans (zm_rd (Z := Z21) (ν := ν) (k := 2) (show ((0 : Nat) : Int) = 0 from rfl) (show ((0 : Nat) : Int) = 0 from rfl) (show ((100 : Nat) : Int) = 100 from rfl)) (congrArg i3 ((zu_ne (k' := 2) (b' := 0) (i' := 0) (j' := 100) hZ21 (fun q => absurd q.1 (by decide))).trans ((hF 2 0 100 (by decide)).trans ((show frz 2 0 100 = 0 from by decide)))))) (by omega) (by omega) (by omega) (by omega)) (decide_eq_false (by omega))) ?_
                      obtain ⟨Z22, hZ22⟩ := zx (zu Z21 1 0 0 2 0)
                      have hZ22I := zI_0 hZ21I hZ22 (by decide) (Or.inr (by decide))
                      have hZ22K := zK_u hZ21K hZ22 (by decide)
                      intro μ9 e9
                      replace e9 := e9.trans (zm_wI (Z := Z21) (ν := ν) hZ22 (show ((0 : Nat) : Int) = 0 from rfl) (show ((0 : Nat) : Int) = 0 from rfl) (show ((2 : Nat) : Int) = 2 from rfl) (show (0 : Int32) = i3 0 from rfl))
                      subst e9
                      refine wz_i0 (Eq.trans (i3NE (Eq.trans (zm_rd (Z := Z22) (ν := ν) (k := 1) (show ((0 : Nat) : Int) = 0 from rfl) (show ((0 : Nat) : Int) = 0 from rfl) (show ((35 : Nat) : Int) = 35 from rfl)) (congrArg i3 ((zu_ne (k' := 1) (b' := 0) (i' := 0) (j' := 35) hZ22 (fun q => absurd q.2.2.2 (by decide))).trans ((zu_ne (k' := 1) (b' := 0) (i' := 0) (j' := 35) hZ21 (fun q => absurd q.2.2.2 (by decide))).trans ((hF 1 0 35 (by decide)).trans ((show frz 1 0 35 = 0 from by decide))))))) (show (0 : Int32) = i3 0 from rfl) (by omega) (by omega) (by omega) (by omega)) (decide_eq_false (by omega))) ?_
                      have e23 : Z22 1 0 0 34 = 0 := (zu_ne (k' := 1) (b' := 0) (i' := 0) (j' := 34) hZ22 (fun q => absurd q.2.2.2 (by decide))).trans ((zu_ne (k' := 1) (b' := 0) (i' := 0) (j' := 34) hZ21 (fun q => absurd q.2.2.2 (by decide))).trans ((hF 1 0 34 (by decide)).trans ((show frz 1 0 34 = 0 from by decide))))
                      obtain ⟨Z24, hZ24, c9, hZ24I, kZ24, wZ240, wZ241, wZ242⟩ := sp_557 (ν := ν) hZ22I (a1 := (-1)) (by omega) (by omega)
                      have hZ24K : zK [1, 2, 101, 102] Z Z24 := zK_t hZ22K kZ24 (by decide)
                      refine wz_cV_of (zas (zcons rfl (zcons (zvi (show (-1 : Int32) = i3 (-1) from rfl)) rfl)) c9) ?_
                      clear c9
                      have e25 : Z24 1 0 0 37 = 0 := (wZ242).trans ((zu_ne (k' := 1) (b' := 0) (i' := 0) (j' := 37) hZ22 (fun q => absurd q.2.2.2 (by decide))).trans ((zu_ne (k' := 1) (b' := 0) (i' := 0) (j' := 37) hZ21 (fun q => absurd q.2.2.2 (by decide))).trans ((hF 1 0 37 (by decide)).trans ((show frz 1 0 37 = 0 from by decide)))))
                      obtain ⟨Z26, hZ26, c9, hZ26I, kZ26, wZ260, wZ261⟩ := sp_563 (ν := ν) hZ24I (a1 := 1) (by omega) (a2 := a1) (by omega) (a3 := a2) (by omega) (a4 := a3) (by omega) (a5 := a4) (by omega) (a6 := a5) (by omega) (a7 := 0) (by omega) (by omega) rrec
                      have hZ26K : zK [1, 2, 101, 102] Z Z26 := zK_t hZ24K kZ26 (by decide)
                      refine wz_cV_of (zas (zcons rfl (zcons (zvi (show (1 : Int32) = i3 1 from rfl)) (zcons (zvi (rfl : i3 a1 = i3 a1)) (zcons (zvi (rfl : i3 a2 = i3 a2)) (zcons (zvi (rfl : i3 a3 = i3 a3)) (zcons (zvi (rfl : i3 a4 = i3 a4)) (zcons (zvi (rfl : i3 a5 = i3 a5)) (zcons (zvi (show (0 : Int32) = i3 0 from rfl)) rfl)))))))) c9) ?_
                      clear c9
                      refine wz_i0 (i3O (n := 4400) (i3A (show (110 : Int32) = i3 110 from rfl) (i3M (show (5 : Int32) = i3 5 from rfl) (Eq.trans (zm_rd (Z := Z26) (ν := ν) (k := 2) (show ((0 : Nat) : Int) = 0 from rfl) (show ((0 : Nat) : Int) = 0 from rfl) (show ((100 : Nat) : Int) = 100 from rfl)) (congrArg i3 ((kZ26 2 (by decide) 0 0 100).trans ((kZ24 2 (by decide) 0 0 100).trans ((zu_ne (k' := 2) (b' := 0) (i' := 0) (j' := 100) hZ22 (fun q => absurd q.1 (by decide))).trans ((zu_ne (k' := 2) (b' := 0) (i' := 0) (j' := 100) hZ21 (fun q => absurd q.1 (by decide))).trans ((hF 2 0 100 (by decide)).trans ((show frz 2 0 100 = 0 from by decide))))))))))) (by omega) (by omega) (by omega)) ?_
                      obtain ⟨Z27, hZ27⟩ := zx (zu Z26 2 0 0 110 a1)
                      have hZ27I := zI_u hZ26I hZ27 (lo := 0) (hi := 9) (by decide) rfl (by omega) ⟨by decide, by decide⟩ (Or.inl (by decide))
                      have hZ27K := zK_u hZ26K hZ27 (by decide)
                      intro μ9 e9
                      replace e9 := e9.trans (zm_wI (Z := Z26) (ν := ν) hZ27 (show ((0 : Nat) : Int) = 0 from rfl) (show ((0 : Nat) : Int) = 0 from rfl) (i3I (y := 110) (i3A (show (110 : Int32) = i3 110 from rfl) (i3M (show (5 : Int32) = i3 5 from rfl) (Eq.trans (zm_rd (Z := Z26) (ν := ν) (k := 2) (show ((0 : Nat) : Int) = 0 from rfl) (show ((0 : Nat) : Int) = 0 from rfl) (show ((100 : Nat) : Int) = 100 from rfl)) (congrArg i3 ((kZ26 2 (by decide) 0 0 100).trans ((kZ24 2 (by decide) 0 0 100).trans ((zu_ne (k' := 2) (b' := 0) (i' := 0) (j' := 100) hZ22 (fun q => absurd q.1 (by decide))).trans ((zu_ne (k' := 2) (b' := 0) (i' := 0) (j' := 100) hZ21 (fun q => absurd q.1 (by decide))).trans ((hF 2 0 100 (by decide)).trans ((show frz 2 0 100 = 0 from by decide))))))))))) (by omega) (by omega) (by omega)) (rfl : i3 a1 = i3 a1))
                      subst e9
                      refine wz_i0 (i3O (n := 4400) (i3A (i3A (show (110 : Int32) = i3 110 from rfl) (i3M (show (5 : Int32) = i3 5 from rfl) (Eq.trans (zm_rd (Z := Z26) (ν := ν) (k := 2) (show ((0 : Nat) : Int) = 0 from rfl) (show ((0 : Nat) : Int) = 0 from rfl) (show ((100 : Nat) : Int) = 100 from rfl)) (congrArg i3 ((kZ26 2 (by decide) 0 0 100).trans ((kZ24 2 (by decide) 0 0 100).trans ((zu_ne (k' := 2) (b' := 0) (i' := 0) (j' := 100) hZ22 (fun q => absurd q.1 (by decide))).trans ((zu_ne (k' := 2) (b' := 0) (i' := 0) (j' := 100) hZ21 (fun q => absurd q.1 (by decide))).trans ((hF 2 0 100 (by decide)).trans ((show frz 2 0 100 = 0 from by decide))))))))))) (show (1 : Int32) = i3 1 from rfl)) (by omega) (by omega) (by omega)) ?_
                      obtain ⟨Z28, hZ28⟩ := zx (zu Z27 2 0 0 111 a2)
                      have hZ28I := zI_u hZ27I hZ28 (lo := 0) (hi := 12) (by decide) rfl (by omega) ⟨by decide, by decide⟩ (Or.inl (by decide))
                      have hZ28K := zK_u hZ27K hZ28 (by decide)
                      intro μ9 e9
                      replace e9 := e9.trans (zm_wI (Z := Z27) (ν := ν) hZ28 (show ((0 : Nat) : Int) = 0 from rfl) (show ((0 : Nat) : Int) = 0 from rfl) (i3I (y := 111) (i3A (i3A (show (110 : Int32) = i3 110 from rfl) (i3M (show (5 : Int32) = i3 5 from rfl) (Eq.trans (zm_rd (Z := Z26) (ν := ν) (k := 2) (show ((0 : Nat) : Int) = 0 from rfl) (show ((0 : Nat) : Int) = 0 from rfl) (show ((100 : Nat) : Int) = 100 from rfl)) (congrArg i3 ((kZ26 2 (by decide) 0 0 100).trans ((kZ24 2 (by decide) 0 0 100).trans ((zu_ne (k' := 2) (b' := 0) (i' := 0) (j' := 100) hZ22 (fun q => absurd q.1 (by decide))).trans ((zu_ne (k' := 2) (b' := 0) (i' := 0) (j' := 100) hZ21 (fun q => absurd q.1 (by decide))).trans ((hF 2 0 100 (by decide)).trans ((show frz 2 0 100 = 0 from by decide))))))))))) (show (1 : Int32) = i3 1 from rfl)) (by omega) (by omega) (by omega)) (rfl : i3 a2 = i3 a2))
                      subst e9
                      refine wz_i0 (i3O (n := 4400) (i3A (i3A (show (110 : Int32) = i3 110 from rfl) (i3M (show (5 : Int32) = i3 5 from rfl) (Eq.trans (zm_rd (Z := Z26) (ν := ν) (k := 2) (show ((0 : Nat) : Int) = 0 from rfl) (show ((0 : Nat) : Int) = 0 from rfl) (show ((100 : Nat) : Int) = 100 from rfl)) (congrArg i3 ((kZ26 2 (by decide) 0 0 100).trans ((kZ24 2 (by decide) 0 0 100).trans ((zu_ne (k' := 2) (b' := 0) (i' := 0) (j' := 100) hZ22 (fun q => absurd q.1 (by decide))).trans ((zu_ne (k' := 2) (b' := 0) (i' := 0) (j' := 100) hZ21 (fun q => absurd q.1 (by decide))).trans ((hF 2 0 100 (by decide)).trans ((show frz 2 0 100 = 0 from by decide))))))))))) (show (2 : Int32) = i3 2 from rfl)) (by omega) (by omega) (by omega)) ?_
                      obtain ⟨Z29, hZ29⟩ := zx (zu Z28 2 0 0 112 a3)
                      have hZ29I := zI_u hZ28I hZ29 (lo := 0) (hi := 12) (by decide) rfl (by omega) ⟨by decide, by decide⟩ (Or.inl (by decide))
                      have hZ29K := zK_u hZ28K hZ29 (by decide)
                      intro μ9 e9
                      replace e9 := e9.trans (zm_wI (Z := Z28) (ν := ν) hZ29 (show ((0 : Nat) : Int) = 0 from rfl) (show ((0 : Nat) : Int) = 0 from rfl) (i3I (y := 112) (i3A (i3A (show (110 : Int32) = i3 110 from rfl) (i3M (show (5 : Int32) = i3 5 from rfl) (Eq.trans (zm_rd (Z := Z26) (ν := ν) (k := 2) (show ((0 : Nat) : Int) = 0 from rfl) (show ((0 : Nat) : Int) = 0 from rfl) (show ((100 : Nat) : Int) = 100 from rfl)) (congrArg i3 ((kZ26 2 (by decide) 0 0 100).trans ((kZ24 2 (by decide) 0 0 100).trans ((zu_ne (k' := 2) (b' := 0) (i' := 0) (j' := 100) hZ22 (fun q => absurd q.1 (by decide))).trans ((zu_ne (k' := 2) (b' := 0) (i' := 0) (j' := 100) hZ21 (fun q => absurd q.1 (by decide))).trans ((hF 2 0 100 (by decide)).trans ((show frz 2 0 100 = 0 from by decide))))))))))) (show (2 : Int32) = i3 2 from rfl)) (by omega) (by omega) (by omega)) (rfl : i3 a3 = i3 a3))
                      subst e9
                      refine wz_i0 (i3O (n := 4400) (i3A (i3A (show (110 : Int32) = i3 110 from rfl) (i3M (show (5 : Int32) = i3 5 from rfl) (Eq.trans (zm_rd (Z := Z26) (ν := ν) (k := 2) (show ((0 : Nat) : Int) = 0 from rfl) (show ((0 : Nat) : Int) = 0 from rfl) (show ((100 : Nat) : Int) = 100 from rfl)) (congrArg i3 ((kZ26 2 (by decide) 0 0 100).trans ((kZ24 2 (by decide) 0 0 100).trans ((zu_ne (k' := 2) (b' := 0) (i' := 0) (j' := 100) hZ22 (fun q => absurd q.1 (by decide))).trans ((zu_ne (k' := 2) (b' := 0) (i' := 0) (j' := 100) hZ21 (fun q => absurd q.1 (by decide))).trans ((hF 2 0 100 (by decide)).trans ((show frz 2 0 100 = 0 from by decide))))))))))) (show (3 : Int32) = i3 3 from rfl)) (by omega) (by omega) (by omega)) ?_
                      obtain ⟨Z30, hZ30⟩ := zx (zu Z29 2 0 0 113 a4)
                      have hZ30I := zI_u hZ29I hZ30 (lo := 0) (hi := 600) (by decide) rfl (by omega) ⟨by decide, by decide⟩ (Or.inl (by decide))
                      have hZ30K := zK_u hZ29K hZ30 (by decide)
                      intro μ9 e9
                      replace e9 := e9.trans (zm_wI (Z := Z29) (ν := ν) hZ30 (show ((0 : Nat) : Int) = 0 from rfl) (show ((0 : Nat) : Int) = 0 from rfl) (i3I (y := 113) (i3A (i3A (show (110 : Int32) = i3 110 from rfl) (i3M (show (5 : Int32) = i3 5 from rfl) (Eq.trans (zm_rd (Z := Z26) (ν := ν) (k := 2) (show ((0 : Nat) : Int) = 0 from rfl) (show ((0 : Nat) : Int) = 0 from rfl) (show ((100 : Nat) : Int) = 100 from rfl)) (congrArg i3 ((kZ26 2 (by decide) 0 0 100).trans ((kZ24 2 (by decide) 0 0 100).trans ((zu_ne (k' := 2) (b' := 0) (i' := 0) (j' := 100) hZ22 (fun q => absurd q.1 (by decide))).trans ((zu_ne (k' := 2) (b' := 0) (i' := 0) (j' := 100) hZ21 (fun q => absurd q.1 (by decide))).trans ((hF 2 0 100 (by decide)).trans ((show frz 2 0 100 = 0 from by decide))))))))))) (show (3 : Int32) = i3 3 from rfl)) (by omega) (by omega) (by omega)) (rfl : i3 a4 = i3 a4))
                      subst e9
                      refine wz_i0 (i3O (n := 4400) (i3A (i3A (show (110 : Int32) = i3 110 from rfl) (i3M (show (5 : Int32) = i3 5 from rfl) (Eq.trans (zm_rd (Z := Z26) (ν := ν) (k := 2) (show ((0 : Nat) : Int) = 0 from rfl) (show ((0 : Nat) : Int) = 0 from rfl) (show ((100 : Nat) : Int) = 100 from rfl)) (congrArg i3 ((kZ26 2 (by decide) 0 0 100).trans ((kZ24 2 (by decide) 0 0 100).trans ((zu_ne (k' := 2) (b' := 0) (i' := 0) (j' := 100) hZ22 (fun q => absurd q.1 (by decide))).trans ((zu_ne (k' := 2) (b' := 0) (i' := 0) (j' := 100) hZ21 (fun q => absurd q.1 (by decide))).trans ((hF 2 0 100 (by decide)).trans ((show frz 2 0 100 = 0 from by decide))))))))))) (show (4 : Int32) = i3 4 from rfl)) (by omega) (by omega) (by omega)) ?_
                      obtain ⟨Z31, hZ31⟩ := zx (zu Z30 2 0 0 114 a5)
                      have hZ31I := zI_u hZ30I hZ31 (lo := 0) (hi := 99) (by decide) rfl (by omega) ⟨by decide, by decide⟩ (Or.inl (by decide))
                      have hZ31K := zK_u hZ30K hZ31 (by decide)
                      intro μ9 e9
                      replace e9 := e9.trans (zm_wI (Z := Z30) (ν := ν) hZ31 (show ((0 : Nat) : Int) = 0 from rfl) (show ((0 : Nat) : Int) = 0 from rfl) (i3I (y := 114) (i3A (i3A (show (110 : Int32) = i3 110 from rfl) (i3M (show (5 : Int32) = i3 5 from rfl) (Eq.trans (zm_rd (Z := Z26) (ν := ν) (k := 2) (show ((0 : Nat) : Int) = 0 from rfl) (show ((0 : Nat) : Int) = 0 from rfl) (show ((100 : Nat) : Int) = 100 from rfl)) (congrArg i3 ((kZ26 2 (by decide) 0 0 100).trans ((kZ24 2 (by decide) 0 0 100).trans ((zu_ne (k' := 2) (b' := 0) (i' := 0) (j' := 100) hZ22 (fun q => absurd q.1 (by decide))).trans ((zu_ne (k' := 2) (b' := 0) (i' := 0) (j' := 100) hZ21 (fun q => absurd q.1 (by decide))).trans ((hF 2 0 100 (by decide)).trans ((show frz 2 0 100 = 0 from by decide))))))))))) (show (4 : Int32) = i3 4 from rfl)) (by omega) (by omega) (by omega)) (rfl : i3 a5 = i3 a5))
                      subst e9
                      obtain ⟨Z32, hZ32⟩ := zx (zu Z31 2 0 0 100 (0 + 1))
                      have hZ32I := zI_u hZ31I hZ32 (lo := 0) (hi := 5) (by decide) rfl (by omega) ⟨by decide, by decide⟩ (Or.inl (by decide))
                      have hZ32K := zK_u hZ31K hZ32 (by decide)
                      intro μ9 e9
                      replace e9 := e9.trans (zm_wI (Z := Z31) (ν := ν) hZ32 (show ((0 : Nat) : Int) = 0 from rfl) (show ((0 : Nat) : Int) = 0 from rfl) (show ((100 : Nat) : Int) = 100 from rfl) (i3A (Eq.trans (zm_rd (Z := Z31) (ν := ν) (k := 2) (show ((0 : Nat) : Int) = 0 from rfl) (show ((0 : Nat) : Int) = 0 from rfl) (show ((100 : Nat) : Int) = 100 from rfl)) (congrArg i3 ((zu_ne (k' := 2) (b' := 0) (i' := 0) (j' := 100) hZ31 (fun q => absurd q.2.2.2 (by decide))).trans ((zu_ne (k' := 2) (b' := 0) (i' := 0) (j' := 100) hZ30 (fun q => absurd q.2.2.2 (by decide))).trans ((zu_ne (k' := 2) (b' := 0) (i' := 0) (j' := 100) hZ29 (fun q => absurd q.2.2.2 (by decide))).trans ((zu_ne (k' := 2) (b' := 0) (i' := 0) (j' := 100) hZ28 (fun q => absurd q.2.2.2 (by decide))).trans ((zu_ne (k' := 2) (b' := 0) (i' := 0) (j' := 100) hZ27 (fun q => absurd q.2.2.2 (by decide))).trans ((kZ26 2 (by decide) 0 0 100).trans ((kZ24 2 (by decide) 0 0 100).trans ((zu_ne (k' := 2) (b' := 0) (i' := 0) (j' := 100) hZ22 (fun q => absurd q.1 (by decide))).trans ((zu_ne (k' := 2) (b' := 0) (i' := 0) (j' := 100) hZ21 (fun q => absurd q.1 (by decide))).trans ((hF 2 0 100 (by decide)).trans ((show frz 2 0 100 = 0 from by decide)))))))))))))) (show (1 : Int32) = i3 1 from rfl)))
                      subst e9
                      exact zlM hP (Eq.trans (zm_rd (Z := Z26) (ν := ν) (k := 2) (show ((0 : Nat) : Int) = 0 from rfl) (show ((0 : Nat) : Int) = 0 from rfl) (show ((100 : Nat) : Int) = 100 from rfl)) (congrArg i3 ((kZ26 2 (by decide) 0 0 100).trans ((kZ24 2 (by decide) 0 0 100).trans ((zu_ne (k' := 2) (b' := 0) (i' := 0) (j' := 100) hZ22 (fun q => absurd q.1 (by decide))).trans ((zu_ne (k' := 2) (b' := 0) (i' := 0) (j' := 100) hZ21 (fun q => absurd q.1 (by decide))).trans ((hF 2 0 100 (by decide)).trans ((show frz 2 0 100 = 0 from by decide))))))))) ((zu_ne (k' := 1) (b' := 0) (i' := 0) (j' := 2) hZ32 (fun q => absurd q.1 (by decide))).trans ((zu_ne (k' := 1) (b' := 0) (i' := 0) (j' := 2) hZ31 (fun q => absurd q.1 (by decide))).trans ((zu_ne (k' := 1) (b' := 0) (i' := 0) (j' := 2) hZ30 (fun q => absurd q.1 (by decide))).trans ((zu_ne (k' := 1) (b' := 0) (i' := 0) (j' := 2) hZ29 (fun q => absurd q.1 (by decide))).trans ((zu_ne (k' := 1) (b' := 0) (i' := 0) (j' := 2) hZ28 (fun q => absurd q.1 (by decide))).trans ((zu_ne (k' := 1) (b' := 0) (i' := 0) (j' := 2) hZ27 (fun q => absurd q.1 (by decide))).trans ((wZ260).trans ((wZ240).trans (zu_at hZ22))))))))) ⟨hZ32I, hZ32K, zN_r⟩

/- yX12_grade -/
def zg_345 (a1 : Int) (a2 : Int) (a3 : Int) (a4 : Int) : Int × Int := (if a1 < 0 then (0, 1) else (0, 1))
theorem sg_345 {Z : qz_Z} {ν : qz_N} (hZ : zI none Z) (hF : zFm Z) {a1 : Int} (ga1 : -2147483648 ≤ a1 ∧ a1 ≤ 2147483647) {a2 : Int} (ga2 : -2147483648 ≤ a2 ∧ a2 ≤ 2147483647) {a3 : Int} (ga3 : -2147483648 ≤ a3 ∧ a3 ≤ 2147483647) {a4 : Int} (ga4 : -2147483648 ≤ a4 ∧ a4 ≤ 2147483647) : ∃ (Z1 : qz_Z) (ν1 : qz_N) (v t : Int), (v, t) = zg_345 a1 a2 a3 a4 ∧ qf_345 [.inr (.inr (some (1, 0, 0))), .inl (i3 a1), .inl (i3 a2), .inl (i3 a3), .inl (i3 a4)] (zm Z ν) = some (zm Z1 ν1, .inl (some (.inl (i3 v)))) ∧ Z1 1 0 0 2 = t ∧ (fun Z1 ν1 => zI none Z1 ∧ zK [1] Z Z1 ∧ zN ν ν1) Z1 ν1 := by
  obtain ⟨P, hP⟩ := zx (zg_345 a1 a2 a3 a4)
  refine zc_M (Q := fun Z1 ν1 => zI none Z1 ∧ zK [1] Z Z1 ∧ zN ν ν1) hP (fw_345 (i3 a1) (i3 a2) (i3 a3) (i3 a4) _ _ ?_)
  replace hP : zE P (zg_345 a1 a2 a3 a4) := hP
  unfold zg_345 at hP
  refine wz_br (i3L (rfl : i3 a1 = i3 a1) (show (0 : Int32) = i3 0 from rfl) (by omega) (by omega) (by omega) (by omega)) (fun h1 => ?_) (fun h1 => ?_)
  · replace hP := zE_p hP h1
    obtain ⟨Z2, hZ2⟩ := zx (zu Z 1 0 0 2 1)
    have hZ2I := zI_u hZ hZ2 (lo := -2147483648) (hi := 2147483647) (by decide) rfl (by omega) ⟨by decide, by decide⟩ (Or.inr (by decide))
    have hZ2K : zK [1] Z Z2 := zK_u zK_r hZ2 (by decide)
    intro μ9 e9
    replace e9 := e9.trans (zm_wI (Z := Z) (ν := ν) hZ2 (show ((0 : Nat) : Int) = 0 from rfl) (show ((0 : Nat) : Int) = 0 from rfl) (show ((2 : Nat) : Int) = 2 from rfl) (show (1 : Int32) = i3 1 from rfl))
    subst e9
    exact zlM hP (show (0 : Int32) = i3 0 from rfl) (zu_at hZ2) ⟨hZ2I, hZ2K, zN_r⟩
  · replace hP := zE_n hP h1
    refine wz_i1 (Eq.trans (i3L (i3S (Eq.trans (zm_rd (Z := Z) (ν := ν) (k := 2) (show ((0 : Nat) : Int) = 0 from rfl) (show ((0 : Nat) : Int) = 0 from rfl) (show ((102 : Nat) : Int) = 102 from rfl)) (congrArg i3 ((hF 2 0 102 (by decide)).trans ((show frz 2 0 102 = 0 from by decide))))) (show (1 : Int32) = i3 1 from rfl)) (rfl : i3 a1 = i3 a1) (by omega) (by omega) (by omega) (by omega)) (decide_eq_true (by omega))) ?_
    obtain ⟨Z3, hZ3⟩ := zx (zu Z 1 0 0 2 1)
    have hZ3I := zI_u hZ hZ3 (lo := -2147483648) (hi := 2147483647) (by decide) rfl (by omega) ⟨by decide, by decide⟩ (Or.inr (by decide))
    have hZ3K : zK [1] Z Z3 := zK_u zK_r hZ3 (by decide)
    intro μ9 e9
    replace e9 := e9.trans (zm_wI (Z := Z) (ν := ν) hZ3 (show ((0 : Nat) : Int) = 0 from rfl) (show ((0 : Nat) : Int) = 0 from rfl) (show ((2 : Nat) : Int) = 2 from rfl) (show (1 : Int32) = i3 1 from rfl))
    subst e9
    exact zlM hP (show (0 : Int32) = i3 0 from rfl) (zu_at hZ3) ⟨hZ3I, hZ3K, zN_r⟩

/- yX12_set -/
def zg_500 (a1 : Int) (a2 : Int) : Int × Int := (if a1 < 0 then (0, 1) else (0, 1))
theorem sg_500 {Z : qz_Z} {ν : qz_N} (hZ : zI none Z) (hF : zFm Z) {a1 : Int} (ga1 : -2147483648 ≤ a1 ∧ a1 ≤ 2147483647) {a2 : Int} (ga2 : -2147483648 ≤ a2 ∧ a2 ≤ 2147483647) : ∃ (Z1 : qz_Z) (ν1 : qz_N) (v t : Int), (v, t) = zg_500 a1 a2 ∧ qf_500 [.inr (.inr (some (1, 0, 0))), .inl (i3 a1), .inl (i3 a2)] (zm Z ν) = some (zm Z1 ν1, .inl (some (.inl (i3 v)))) ∧ Z1 1 0 0 2 = t ∧ (fun Z1 ν1 => zI none Z1 ∧ zK [1] Z Z1 ∧ zN ν ν1) Z1 ν1 := by
  obtain ⟨P, hP⟩ := zx (zg_500 a1 a2)
  refine zc_M (Q := fun Z1 ν1 => zI none Z1 ∧ zK [1] Z Z1 ∧ zN ν ν1) hP (fw_500 (i3 a1) (i3 a2) _ _ ?_)
  replace hP : zE P (zg_500 a1 a2) := hP
  unfold zg_500 at hP
  refine wz_br (i3L (rfl : i3 a1 = i3 a1) (show (0 : Int32) = i3 0 from rfl) (by omega) (by omega) (by omega) (by omega)) (fun h1 => ?_) (fun h1 => ?_)
  · replace hP := zE_p hP h1
    obtain ⟨Z2, hZ2⟩ := zx (zu Z 1 0 0 2 1)
    have hZ2I := zI_u hZ hZ2 (lo := -2147483648) (hi := 2147483647) (by decide) rfl (by omega) ⟨by decide, by decide⟩ (Or.inr (by decide))
    have hZ2K : zK [1] Z Z2 := zK_u zK_r hZ2 (by decide)
    intro μ9 e9
    replace e9 := e9.trans (zm_wI (Z := Z) (ν := ν) hZ2 (show ((0 : Nat) : Int) = 0 from rfl) (show ((0 : Nat) : Int) = 0 from rfl) (show ((2 : Nat) : Int) = 2 from rfl) (show (1 : Int32) = i3 1 from rfl))
    subst e9
    exact zlM hP (show (0 : Int32) = i3 0 from rfl) (zu_at hZ2) ⟨hZ2I, hZ2K, zN_r⟩
  · replace hP := zE_n hP h1
    refine wz_i1 (Eq.trans (i3L (i3S (Eq.trans (zm_rd (Z := Z) (ν := ν) (k := 2) (show ((0 : Nat) : Int) = 0 from rfl) (show ((0 : Nat) : Int) = 0 from rfl) (show ((1200 : Nat) : Int) = 1200 from rfl)) (congrArg i3 ((hF 2 0 1200 (by decide)).trans ((show frz 2 0 1200 = 0 from by decide))))) (show (1 : Int32) = i3 1 from rfl)) (rfl : i3 a1 = i3 a1) (by omega) (by omega) (by omega) (by omega)) (decide_eq_true (by omega))) ?_
    obtain ⟨Z3, hZ3⟩ := zx (zu Z 1 0 0 2 1)
    have hZ3I := zI_u hZ hZ3 (lo := -2147483648) (hi := 2147483647) (by decide) rfl (by omega) ⟨by decide, by decide⟩ (Or.inr (by decide))
    have hZ3K : zK [1] Z Z3 := zK_u zK_r hZ3 (by decide)
    intro μ9 e9
    replace e9 := e9.trans (zm_wI (Z := Z) (ν := ν) hZ3 (show ((0 : Nat) : Int) = 0 from rfl) (show ((0 : Nat) : Int) = 0 from rfl) (show ((2 : Nat) : Int) = 2 from rfl) (show (1 : Int32) = i3 1 from rfl))
    subst e9
    exact zlM hP (show (0 : Int32) = i3 0 from rfl) (zu_at hZ3) ⟨hZ3I, hZ3K, zN_r⟩

/- yX12_put -/
def zg_453 (a1 : Int) (a2 : Int) : Int × Int := (if a2 ≠ (-1) then (if a1 < 0 then (0, 1) else (0, 1)) else (if a1 < 0 then (0, 1) else (0, 1)))
theorem sg_453 {Z : qz_Z} {ν : qz_N} (hZ : zI none Z) (hF : zFm Z) {a1 : Int} (ga1 : -2147483648 ≤ a1 ∧ a1 ≤ 2147483647) {a2 : Int} (ga2 : -2147483648 ≤ a2 ∧ a2 ≤ 2147483647) : ∃ (Z1 : qz_Z) (ν1 : qz_N) (v t : Int), (v, t) = zg_453 a1 a2 ∧ qf_453 [.inr (.inr (some (1, 0, 0))), .inl (i3 a1), .inl (i3 a2)] (zm Z ν) = some (zm Z1 ν1, .inl (some (.inl (i3 v)))) ∧ Z1 1 0 0 2 = t ∧ (fun Z1 ν1 => zI none Z1 ∧ zK [1] Z Z1 ∧ zN ν ν1) Z1 ν1 := by
  obtain ⟨P, hP⟩ := zx (zg_453 a1 a2)
  refine zc_M (Q := fun Z1 ν1 => zI none Z1 ∧ zK [1] Z Z1 ∧ zN ν ν1) hP (fw_453 (i3 a1) (i3 a2) _ _ ?_)
  replace hP : zE P (zg_453 a1 a2) := hP
  unfold zg_453 at hP
  refine wz_br (i3NE (rfl : i3 a2 = i3 a2) (show (-1 : Int32) = i3 (-1) from rfl) (by omega) (by omega) (by omega) (by omega)) (fun h1 => ?_) (fun h1 => ?_)
  · replace hP := zE_p hP h1
    refine wz_br (i3L (rfl : i3 a1 = i3 a1) (show (0 : Int32) = i3 0 from rfl) (by omega) (by omega) (by omega) (by omega)) (fun h2 => ?_) (fun h2 => ?_)
    · replace hP := zE_p hP h2
      obtain ⟨Z3, hZ3⟩ := zx (zu Z 1 0 0 2 1)
      have hZ3I := zI_u hZ hZ3 (lo := -2147483648) (hi := 2147483647) (by decide) rfl (by omega) ⟨by decide, by decide⟩ (Or.inr (by decide))
      have hZ3K : zK [1] Z Z3 := zK_u zK_r hZ3 (by decide)
      intro μ9 e9
      replace e9 := e9.trans (zm_wI (Z := Z) (ν := ν) hZ3 (show ((0 : Nat) : Int) = 0 from rfl) (show ((0 : Nat) : Int) = 0 from rfl) (show ((2 : Nat) : Int) = 2 from rfl) (show (1 : Int32) = i3 1 from rfl))
      subst e9
      exact zlM hP (show (0 : Int32) = i3 0 from rfl) (zu_at hZ3) ⟨hZ3I, hZ3K, zN_r⟩
    · replace hP := zE_n hP h2
      refine wz_i1 (Eq.trans (i3L (i3S (Eq.trans (zm_rd (Z := Z) (ν := ν) (k := 2) (show ((0 : Nat) : Int) = 0 from rfl) (show ((0 : Nat) : Int) = 0 from rfl) (show ((102 : Nat) : Int) = 102 from rfl)) (congrArg i3 ((hF 2 0 102 (by decide)).trans ((show frz 2 0 102 = 0 from by decide))))) (show (1 : Int32) = i3 1 from rfl)) (rfl : i3 a1 = i3 a1) (by omega) (by omega) (by omega) (by omega)) (decide_eq_true (by omega))) ?_
      obtain ⟨Z4, hZ4⟩ := zx (zu Z 1 0 0 2 1)
      have hZ4I := zI_u hZ hZ4 (lo := -2147483648) (hi := 2147483647) (by decide) rfl (by omega) ⟨by decide, by decide⟩ (Or.inr (by decide))
      have hZ4K : zK [1] Z Z4 := zK_u zK_r hZ4 (by decide)
      intro μ9 e9
      replace e9 := e9.trans (zm_wI (Z := Z) (ν := ν) hZ4 (show ((0 : Nat) : Int) = 0 from rfl) (show ((0 : Nat) : Int) = 0 from rfl) (show ((2 : Nat) : Int) = 2 from rfl) (show (1 : Int32) = i3 1 from rfl))
      subst e9
      exact zlM hP (show (0 : Int32) = i3 0 from rfl) (zu_at hZ4) ⟨hZ4I, hZ4K, zN_r⟩
  · replace hP := zE_n hP h1
    refine wz_br (i3L (rfl : i3 a1 = i3 a1) (show (0 : Int32) = i3 0 from rfl) (by omega) (by omega) (by omega) (by omega)) (fun h5 => ?_) (fun h5 => ?_)
    · replace hP := zE_p hP h5
      obtain ⟨Z6, hZ6⟩ := zx (zu Z 1 0 0 2 1)
      have hZ6I := zI_u hZ hZ6 (lo := -2147483648) (hi := 2147483647) (by decide) rfl (by omega) ⟨by decide, by decide⟩ (Or.inr (by decide))
      have hZ6K : zK [1] Z Z6 := zK_u zK_r hZ6 (by decide)
      intro μ9 e9
      replace e9 := e9.trans (zm_wI (Z := Z) (ν := ν) hZ6 (show ((0 : Nat) : Int) = 0 from rfl) (show ((0 : Nat) : Int) = 0 from rfl) (show ((2 : Nat) : Int) = 2 from rfl) (show (1 : Int32) = i3 1 from rfl))
      subst e9
      exact zlM hP (show (0 : Int32) = i3 0 from rfl) (zu_at hZ6) ⟨hZ6I, hZ6K, zN_r⟩
    · replace hP := zE_n hP h5
      refine wz_i1 (Eq.trans (i3L (i3S (Eq.trans (zm_rd (Z := Z) (ν := ν) (k := 2) (show ((0 : Nat) : Int) = 0 from rfl) (show ((0 : Nat) : Int) = 0 from rfl) (show ((102 : Nat) : Int) = 102 from rfl)) (congrArg i3 ((hF 2 0 102 (by decide)).trans ((show frz 2 0 102 = 0 from by decide))))) (show (1 : Int32) = i3 1 from rfl)) (rfl : i3 a1 = i3 a1) (by omega) (by omega) (by omega) (by omega)) (decide_eq_true (by omega))) ?_
      obtain ⟨Z7, hZ7⟩ := zx (zu Z 1 0 0 2 1)
      have hZ7I := zI_u hZ hZ7 (lo := -2147483648) (hi := 2147483647) (by decide) rfl (by omega) ⟨by decide, by decide⟩ (Or.inr (by decide))
      have hZ7K : zK [1] Z Z7 := zK_u zK_r hZ7 (by decide)
      intro μ9 e9
      replace e9 := e9.trans (zm_wI (Z := Z) (ν := ν) hZ7 (show ((0 : Nat) : Int) = 0 from rfl) (show ((0 : Nat) : Int) = 0 from rfl) (show ((2 : Nat) : Int) = 2 from rfl) (show (1 : Int32) = i3 1 from rfl))
      subst e9
      exact zlM hP (show (0 : Int32) = i3 0 from rfl) (zu_at hZ7) ⟨hZ7I, hZ7K, zN_r⟩

/- yX12_pallet -/
def zg_448 (a1 : Int) (a2 : Int) : Int × Int := (if a1 < 0 then (0, 1) else (0, 1))
theorem sg_448 {Z : qz_Z} {ν : qz_N} (hZ : zI none Z) (hF : zFm Z) {a1 : Int} (ga1 : -2147483648 ≤ a1 ∧ a1 ≤ 2147483647) {a2 : Int} (ga2 : -2147483648 ≤ a2 ∧ a2 ≤ 2147483647) : ∃ (Z1 : qz_Z) (ν1 : qz_N) (v t : Int), (v, t) = zg_448 a1 a2 ∧ qf_448 [.inr (.inr (some (1, 0, 0))), .inl (i3 a1), .inl (i3 a2)] (zm Z ν) = some (zm Z1 ν1, .inl (some (.inl (i3 v)))) ∧ Z1 1 0 0 2 = t ∧ (fun Z1 ν1 => zI none Z1 ∧ zK [1] Z Z1 ∧ zN ν ν1) Z1 ν1 := by
  obtain ⟨P, hP⟩ := zx (zg_448 a1 a2)
  refine zc_M (Q := fun Z1 ν1 => zI none Z1 ∧ zK [1] Z Z1 ∧ zN ν ν1) hP (fw_448 (i3 a1) (i3 a2) _ _ ?_)
  replace hP : zE P (zg_448 a1 a2) := hP
  unfold zg_448 at hP
  refine wz_br (i3L (rfl : i3 a1 = i3 a1) (show (0 : Int32) = i3 0 from rfl) (by omega) (by omega) (by omega) (by omega)) (fun h1 => ?_) (fun h1 => ?_)
  · replace hP := zE_p hP h1
    obtain ⟨Z2, hZ2⟩ := zx (zu Z 1 0 0 2 1)
    have hZ2I := zI_u hZ hZ2 (lo := -2147483648) (hi := 2147483647) (by decide) rfl (by omega) ⟨by decide, by decide⟩ (Or.inr (by decide))
    have hZ2K : zK [1] Z Z2 := zK_u zK_r hZ2 (by decide)
    intro μ9 e9
    replace e9 := e9.trans (zm_wI (Z := Z) (ν := ν) hZ2 (show ((0 : Nat) : Int) = 0 from rfl) (show ((0 : Nat) : Int) = 0 from rfl) (show ((2 : Nat) : Int) = 2 from rfl) (show (1 : Int32) = i3 1 from rfl))
    subst e9
    exact zlM hP (show (0 : Int32) = i3 0 from rfl) (zu_at hZ2) ⟨hZ2I, hZ2K, zN_r⟩
  · replace hP := zE_n hP h1
    refine wz_i1 (Eq.trans (i3L (i3S (Eq.trans (zm_rd (Z := Z) (ν := ν) (k := 2) (show ((0 : Nat) : Int) = 0 from rfl) (show ((0 : Nat) : Int) = 0 from rfl) (show ((102 : Nat) : Int) = 102 from rfl)) (congrArg i3 ((hF 2 0 102 (by decide)).trans ((show frz 2 0 102 = 0 from by decide))))) (show (1 : Int32) = i3 1 from rfl)) (rfl : i3 a1 = i3 a1) (by omega) (by omega) (by omega) (by omega)) (decide_eq_true (by omega))) ?_
    obtain ⟨Z3, hZ3⟩ := zx (zu Z 1 0 0 2 1)
    have hZ3I := zI_u hZ hZ3 (lo := -2147483648) (hi := 2147483647) (by decide) rfl (by omega) ⟨by decide, by decide⟩ (Or.inr (by decide))
    have hZ3K : zK [1] Z Z3 := zK_u zK_r hZ3 (by decide)
    intro μ9 e9
    replace e9 := e9.trans (zm_wI (Z := Z) (ν := ν) hZ3 (show ((0 : Nat) : Int) = 0 from rfl) (show ((0 : Nat) : Int) = 0 from rfl) (show ((2 : Nat) : Int) = 2 from rfl) (show (1 : Int32) = i3 1 from rfl))
    subst e9
    exact zlM hP (show (0 : Int32) = i3 0 from rfl) (zu_at hZ3) ⟨hZ3I, hZ3K, zN_r⟩

/- yX12_order -/
def zg_441 (a1 : Int) (a2 : Int) (a3 : Int) (a4 : Int) (a5 : Int) (a6 : Int) : Int × Int := (if a3 < 0 then (if a1 < 0 then (0, 1) else (0, 1)) else (if 3 < a3 then (if a1 < 0 then (0, 1) else (0, 1)) else (if a4 < 1 then (if a1 < 0 then (0, 1) else (0, 1)) else (if 99 < a4 then (if a1 < 0 then (0, 1) else (0, 1)) else (if a5 < 1 then (if a1 < 0 then (0, 1) else (0, 1)) else (if 9999 < a5 then (if a1 < 0 then (0, 1) else (0, 1)) else (if a6 < 1 then (if a1 < 0 then (0, 1) else (0, 1)) else (if 127 < a6 then (if a1 < 0 then (0, 1) else (0, 1)) else (if a1 < 0 then (0, 1) else (0, 1))))))))))
theorem sg_441 {Z : qz_Z} {ν : qz_N} (hZ : zI none Z) (hF : zFm Z) {a1 : Int} (ga1 : -2147483648 ≤ a1 ∧ a1 ≤ 2147483647) {a2 : Int} (ga2 : -2147483648 ≤ a2 ∧ a2 ≤ 2147483647) {a3 : Int} (ga3 : -2147483648 ≤ a3 ∧ a3 ≤ 2147483647) {a4 : Int} (ga4 : -2147483648 ≤ a4 ∧ a4 ≤ 2147483647) {a5 : Int} (ga5 : -2147483648 ≤ a5 ∧ a5 ≤ 2147483647) {a6 : Int} (ga6 : -2147483648 ≤ a6 ∧ a6 ≤ 2147483647) : ∃ (Z1 : qz_Z) (ν1 : qz_N) (v t : Int), (v, t) = zg_441 a1 a2 a3 a4 a5 a6 ∧ qf_441 [.inr (.inr (some (1, 0, 0))), .inl (i3 a1), .inl (i3 a2), .inl (i3 a3), .inl (i3 a4), .inl (i3 a5), .inl (i3 a6)] (zm Z ν) = some (zm Z1 ν1, .inl (some (.inl (i3 v)))) ∧ Z1 1 0 0 2 = t ∧ (fun Z1 ν1 => zI none Z1 ∧ zK [1] Z Z1 ∧ zN ν ν1) Z1 ν1 := by
  obtain ⟨P, hP⟩ := zx (zg_441 a1 a2 a3 a4 a5 a6)
  refine zc_M (Q := fun Z1 ν1 => zI none Z1 ∧ zK [1] Z Z1 ∧ zN ν ν1) hP (fw_441 (i3 a1) (i3 a2) (i3 a3) (i3 a4) (i3 a5) (i3 a6) _ _ ?_)
  replace hP : zE P (zg_441 a1 a2 a3 a4 a5 a6) := hP
  unfold zg_441 at hP
  refine wz_br (i3L (rfl : i3 a3 = i3 a3) (show (0 : Int32) = i3 0 from rfl) (by omega) (by omega) (by omega) (by omega)) (fun h1 => ?_) (fun h1 => ?_)
  · replace hP := zE_p hP h1
    refine wz_br (i3L (rfl : i3 a1 = i3 a1) (show (0 : Int32) = i3 0 from rfl) (by omega) (by omega) (by omega) (by omega)) (fun h2 => ?_) (fun h2 => ?_)
    · replace hP := zE_p hP h2
      obtain ⟨Z3, hZ3⟩ := zx (zu Z 1 0 0 2 1)
      have hZ3I := zI_u hZ hZ3 (lo := -2147483648) (hi := 2147483647) (by decide) rfl (by omega) ⟨by decide, by decide⟩ (Or.inr (by decide))
      have hZ3K : zK [1] Z Z3 := zK_u zK_r hZ3 (by decide)
      intro μ9 e9
      replace e9 := e9.trans (zm_wI (Z := Z) (ν := ν) hZ3 (show ((0 : Nat) : Int) = 0 from rfl) (show ((0 : Nat) : Int) = 0 from rfl) (show ((2 : Nat) : Int) = 2 from rfl) (show (1 : Int32) = i3 1 from rfl))
      subst e9
      exact zlM hP (show (0 : Int32) = i3 0 from rfl) (zu_at hZ3) ⟨hZ3I, hZ3K, zN_r⟩
    · replace hP := zE_n hP h2
      refine wz_i1 (Eq.trans (i3L (i3S (Eq.trans (zm_rd (Z := Z) (ν := ν) (k := 2) (show ((0 : Nat) : Int) = 0 from rfl) (show ((0 : Nat) : Int) = 0 from rfl) (show ((1400 : Nat) : Int) = 1400 from rfl)) (congrArg i3 ((hF 2 0 1400 (by decide)).trans ((show frz 2 0 1400 = 0 from by decide))))) (show (1 : Int32) = i3 1 from rfl)) (rfl : i3 a1 = i3 a1) (by omega) (by omega) (by omega) (by omega)) (decide_eq_true (by omega))) ?_
      obtain ⟨Z4, hZ4⟩ := zx (zu Z 1 0 0 2 1)
      have hZ4I := zI_u hZ hZ4 (lo := -2147483648) (hi := 2147483647) (by decide) rfl (by omega) ⟨by decide, by decide⟩ (Or.inr (by decide))
      have hZ4K : zK [1] Z Z4 := zK_u zK_r hZ4 (by decide)
      intro μ9 e9
      replace e9 := e9.trans (zm_wI (Z := Z) (ν := ν) hZ4 (show ((0 : Nat) : Int) = 0 from rfl) (show ((0 : Nat) : Int) = 0 from rfl) (show ((2 : Nat) : Int) = 2 from rfl) (show (1 : Int32) = i3 1 from rfl))
      subst e9
      exact zlM hP (show (0 : Int32) = i3 0 from rfl) (zu_at hZ4) ⟨hZ4I, hZ4K, zN_r⟩
  · replace hP := zE_n hP h1
    refine wz_br (i3L (show (3 : Int32) = i3 3 from rfl) (rfl : i3 a3 = i3 a3) (by omega) (by omega) (by omega) (by omega)) (fun h5 => ?_) (fun h5 => ?_)
    · replace hP := zE_p hP h5
      refine wz_br (i3L (rfl : i3 a1 = i3 a1) (show (0 : Int32) = i3 0 from rfl) (by omega) (by omega) (by omega) (by omega)) (fun h6 => ?_) (fun h6 => ?_)
      · replace hP := zE_p hP h6
        obtain ⟨Z7, hZ7⟩ := zx (zu Z 1 0 0 2 1)
        have hZ7I := zI_u hZ hZ7 (lo := -2147483648) (hi := 2147483647) (by decide) rfl (by omega) ⟨by decide, by decide⟩ (Or.inr (by decide))
        have hZ7K : zK [1] Z Z7 := zK_u zK_r hZ7 (by decide)
        intro μ9 e9
        replace e9 := e9.trans (zm_wI (Z := Z) (ν := ν) hZ7 (show ((0 : Nat) : Int) = 0 from rfl) (show ((0 : Nat) : Int) = 0 from rfl) (show ((2 : Nat) : Int) = 2 from rfl) (show (1 : Int32) = i3 1 from rfl))
        subst e9
        exact zlM hP (show (0 : Int32) = i3 0 from rfl) (zu_at hZ7) ⟨hZ7I, hZ7K, zN_r⟩
      · replace hP := zE_n hP h6
        refine wz_i1 (Eq.trans (i3L (i3S (Eq.trans (zm_rd (Z := Z) (ν := ν) (k := 2) (show ((0 : Nat) : Int) = 0 from rfl) (show ((0 : Nat) : Int) = 0 from rfl) (show ((1400 : Nat) : Int) = 1400 from rfl)) (congrArg i3 ((hF 2 0 1400 (by decide)).trans ((show frz 2 0 1400 = 0 from by decide))))) (show (1 : Int32) = i3 1 from rfl)) (rfl : i3 a1 = i3 a1) (by omega) (by omega) (by omega) (by omega)) (decide_eq_true (by omega))) ?_
        obtain ⟨Z8, hZ8⟩ := zx (zu Z 1 0 0 2 1)
        have hZ8I := zI_u hZ hZ8 (lo := -2147483648) (hi := 2147483647) (by decide) rfl (by omega) ⟨by decide, by decide⟩ (Or.inr (by decide))
        have hZ8K : zK [1] Z Z8 := zK_u zK_r hZ8 (by decide)
        intro μ9 e9
        replace e9 := e9.trans (zm_wI (Z := Z) (ν := ν) hZ8 (show ((0 : Nat) : Int) = 0 from rfl) (show ((0 : Nat) : Int) = 0 from rfl) (show ((2 : Nat) : Int) = 2 from rfl) (show (1 : Int32) = i3 1 from rfl))
        subst e9
        exact zlM hP (show (0 : Int32) = i3 0 from rfl) (zu_at hZ8) ⟨hZ8I, hZ8K, zN_r⟩
    · replace hP := zE_n hP h5
      refine wz_br (i3L (rfl : i3 a4 = i3 a4) (show (1 : Int32) = i3 1 from rfl) (by omega) (by omega) (by omega) (by omega)) (fun h9 => ?_) (fun h9 => ?_)
      · replace hP := zE_p hP h9
        refine wz_br (i3L (rfl : i3 a1 = i3 a1) (show (0 : Int32) = i3 0 from rfl) (by omega) (by omega) (by omega) (by omega)) (fun h10 => ?_) (fun h10 => ?_)
        · replace hP := zE_p hP h10
          obtain ⟨Z11, hZ11⟩ := zx (zu Z 1 0 0 2 1)
          have hZ11I := zI_u hZ hZ11 (lo := -2147483648) (hi := 2147483647) (by decide) rfl (by omega) ⟨by decide, by decide⟩ (Or.inr (by decide))
          have hZ11K : zK [1] Z Z11 := zK_u zK_r hZ11 (by decide)
          intro μ9 e9
          replace e9 := e9.trans (zm_wI (Z := Z) (ν := ν) hZ11 (show ((0 : Nat) : Int) = 0 from rfl) (show ((0 : Nat) : Int) = 0 from rfl) (show ((2 : Nat) : Int) = 2 from rfl) (show (1 : Int32) = i3 1 from rfl))
          subst e9
          exact zlM hP (show (0 : Int32) = i3 0 from rfl) (zu_at hZ11) ⟨hZ11I, hZ11K, zN_r⟩
        · replace hP := zE_n hP h10
          refine wz_i1 (Eq.trans (i3L (i3S (Eq.trans (zm_rd (Z := Z) (ν := ν) (k := 2) (show ((0 : Nat) : Int) = 0 from rfl) (show ((0 : Nat) : Int) = 0 from rfl) (show ((1400 : Nat) : Int) = 1400 from rfl)) (congrArg i3 ((hF 2 0 1400 (by decide)).trans ((show frz 2 0 1400 = 0 from by decide))))) (show (1 : Int32) = i3 1 from rfl)) (rfl : i3 a1 = i3 a1) (by omega) (by omega) (by omega) (by omega)) (decide_eq_true (by omega))) ?_
          obtain ⟨Z12, hZ12⟩ := zx (zu Z 1 0 0 2 1)
          have hZ12I := zI_u hZ hZ12 (lo := -2147483648) (hi := 2147483647) (by decide) rfl (by omega) ⟨by decide, by decide⟩ (Or.inr (by decide))
          have hZ12K : zK [1] Z Z12 := zK_u zK_r hZ12 (by decide)
          intro μ9 e9
          replace e9 := e9.trans (zm_wI (Z := Z) (ν := ν) hZ12 (show ((0 : Nat) : Int) = 0 from rfl) (show ((0 : Nat) : Int) = 0 from rfl) (show ((2 : Nat) : Int) = 2 from rfl) (show (1 : Int32) = i3 1 from rfl))
          subst e9
          exact zlM hP (show (0 : Int32) = i3 0 from rfl) (zu_at hZ12) ⟨hZ12I, hZ12K, zN_r⟩
      · replace hP := zE_n hP h9
        refine wz_br (i3L (show (99 : Int32) = i3 99 from rfl) (rfl : i3 a4 = i3 a4) (by omega) (by omega) (by omega) (by omega)) (fun h13 => ?_) (fun h13 => ?_)
        · replace hP := zE_p hP h13
          refine wz_br (i3L (rfl : i3 a1 = i3 a1) (show (0 : Int32) = i3 0 from rfl) (by omega) (by omega) (by omega) (by omega)) (fun h14 => ?_) (fun h14 => ?_)
          · replace hP := zE_p hP h14
            obtain ⟨Z15, hZ15⟩ := zx (zu Z 1 0 0 2 1)
            have hZ15I := zI_u hZ hZ15 (lo := -2147483648) (hi := 2147483647) (by decide) rfl (by omega) ⟨by decide, by decide⟩ (Or.inr (by decide))
            have hZ15K : zK [1] Z Z15 := zK_u zK_r hZ15 (by decide)
            intro μ9 e9
            replace e9 := e9.trans (zm_wI (Z := Z) (ν := ν) hZ15 (show ((0 : Nat) : Int) = 0 from rfl) (show ((0 : Nat) : Int) = 0 from rfl) (show ((2 : Nat) : Int) = 2 from rfl) (show (1 : Int32) = i3 1 from rfl))
            subst e9
            exact zlM hP (show (0 : Int32) = i3 0 from rfl) (zu_at hZ15) ⟨hZ15I, hZ15K, zN_r⟩
          · replace hP := zE_n hP h14
            refine wz_i1 (Eq.trans (i3L (i3S (Eq.trans (zm_rd (Z := Z) (ν := ν) (k := 2) (show ((0 : Nat) : Int) = 0 from rfl) (show ((0 : Nat) : Int) = 0 from rfl) (show ((1400 : Nat) : Int) = 1400 from rfl)) (congrArg i3 ((hF 2 0 1400 (by decide)).trans ((show frz 2 0 1400 = 0 from by decide))))) (show (1 : Int32) = i3 1 from rfl)) (rfl : i3 a1 = i3 a1) (by omega) (by omega) (by omega) (by omega)) (decide_eq_true (by omega))) ?_
            obtain ⟨Z16, hZ16⟩ := zx (zu Z 1 0 0 2 1)
            have hZ16I := zI_u hZ hZ16 (lo := -2147483648) (hi := 2147483647) (by decide) rfl (by omega) ⟨by decide, by decide⟩ (Or.inr (by decide))
            have hZ16K : zK [1] Z Z16 := zK_u zK_r hZ16 (by decide)
            intro μ9 e9
            replace e9 := e9.trans (zm_wI (Z := Z) (ν := ν) hZ16 (show ((0 : Nat) : Int) = 0 from rfl) (show ((0 : Nat) : Int) = 0 from rfl) (show ((2 : Nat) : Int) = 2 from rfl) (show (1 : Int32) = i3 1 from rfl))
            subst e9
            exact zlM hP (show (0 : Int32) = i3 0 from rfl) (zu_at hZ16) ⟨hZ16I, hZ16K, zN_r⟩
        · replace hP := zE_n hP h13
          refine wz_br (i3L (rfl : i3 a5 = i3 a5) (show (1 : Int32) = i3 1 from rfl) (by omega) (by omega) (by omega) (by omega)) (fun h17 => ?_) (fun h17 => ?_)
          · replace hP := zE_p hP h17
            refine wz_br (i3L (rfl : i3 a1 = i3 a1) (show (0 : Int32) = i3 0 from rfl) (by omega) (by omega) (by omega) (by omega)) (fun h18 => ?_) (fun h18 => ?_)
            · replace hP := zE_p hP h18
              obtain ⟨Z19, hZ19⟩ := zx (zu Z 1 0 0 2 1)
              have hZ19I := zI_u hZ hZ19 (lo := -2147483648) (hi := 2147483647) (by decide) rfl (by omega) ⟨by decide, by decide⟩ (Or.inr (by decide))
              have hZ19K : zK [1] Z Z19 := zK_u zK_r hZ19 (by decide)
              intro μ9 e9
              replace e9 := e9.trans (zm_wI (Z := Z) (ν := ν) hZ19 (show ((0 : Nat) : Int) = 0 from rfl) (show ((0 : Nat) : Int) = 0 from rfl) (show ((2 : Nat) : Int) = 2 from rfl) (show (1 : Int32) = i3 1 from rfl))
              subst e9
              exact zlM hP (show (0 : Int32) = i3 0 from rfl) (zu_at hZ19) ⟨hZ19I, hZ19K, zN_r⟩
            · replace hP := zE_n hP h18
              refine wz_i1 (Eq.trans (i3L (i3S (Eq.trans (zm_rd (Z := Z) (ν := ν) (k := 2) (show ((0 : Nat) : Int) = 0 from rfl) (show ((0 : Nat) : Int) = 0 from rfl) (show ((1400 : Nat) : Int) = 1400 from rfl)) (congrArg i3 ((hF 2 0 1400 (by decide)).trans ((show frz 2 0 1400 = 0 from by decide))))) (show (1 : Int32) = i3 1 from rfl)) (rfl : i3 a1 = i3 a1) (by omega) (by omega) (by omega) (by omega)) (decide_eq_true (by omega))) ?_
              obtain ⟨Z20, hZ20⟩ := zx (zu Z 1 0 0 2 1)
              have hZ20I := zI_u hZ hZ20 (lo := -2147483648) (hi := 2147483647) (by decide) rfl (by omega) ⟨by decide, by decide⟩ (Or.inr (by decide))
              have hZ20K : zK [1] Z Z20 := zK_u zK_r hZ20 (by decide)
              intro μ9 e9
              replace e9 := e9.trans (zm_wI (Z := Z) (ν := ν) hZ20 (show ((0 : Nat) : Int) = 0 from rfl) (show ((0 : Nat) : Int) = 0 from rfl) (show ((2 : Nat) : Int) = 2 from rfl) (show (1 : Int32) = i3 1 from rfl))
              subst e9
              exact zlM hP (show (0 : Int32) = i3 0 from rfl) (zu_at hZ20) ⟨hZ20I, hZ20K, zN_r⟩
          · replace hP := zE_n hP h17
            refine wz_br (i3L (show (9999 : Int32) = i3 9999 from rfl) (rfl : i3 a5 = i3 a5) (by omega) (by omega) (by omega) (by omega)) (fun h21 => ?_) (fun h21 => ?_)
            · replace hP := zE_p hP h21
              refine wz_br (i3L (rfl : i3 a1 = i3 a1) (show (0 : Int32) = i3 0 from rfl) (by omega) (by omega) (by omega) (by omega)) (fun h22 => ?_) (fun h22 => ?_)
              · replace hP := zE_p hP h22
                obtain ⟨Z23, hZ23⟩ := zx (zu Z 1 0 0 2 1)
                have hZ23I := zI_u hZ hZ23 (lo := -2147483648) (hi := 2147483647) (by decide) rfl (by omega) ⟨by decide, by decide⟩ (Or.inr (by decide))
                have hZ23K : zK [1] Z Z23 := zK_u zK_r hZ23 (by decide)
                intro μ9 e9
                replace e9 := e9.trans (zm_wI (Z := Z) (ν := ν) hZ23 (show ((0 : Nat) : Int) = 0 from rfl) (show ((0 : Nat) : Int) = 0 from rfl) (show ((2 : Nat) : Int) = 2 from rfl) (show (1 : Int32) = i3 1 from rfl))
                subst e9
                exact zlM hP (show (0 : Int32) = i3 0 from rfl) (zu_at hZ23) ⟨hZ23I, hZ23K, zN_r⟩
              · replace hP := zE_n hP h22
                refine wz_i1 (Eq.trans (i3L (i3S (Eq.trans (zm_rd (Z := Z) (ν := ν) (k := 2) (show ((0 : Nat) : Int) = 0 from rfl) (show ((0 : Nat) : Int) = 0 from rfl) (show ((1400 : Nat) : Int) = 1400 from rfl)) (congrArg i3 ((hF 2 0 1400 (by decide)).trans ((show frz 2 0 1400 = 0 from by decide))))) (show (1 : Int32) = i3 1 from rfl)) (rfl : i3 a1 = i3 a1) (by omega) (by omega) (by omega) (by omega)) (decide_eq_true (by omega))) ?_
                obtain ⟨Z24, hZ24⟩ := zx (zu Z 1 0 0 2 1)
                have hZ24I := zI_u hZ hZ24 (lo := -2147483648) (hi := 2147483647) (by decide) rfl (by omega) ⟨by decide, by decide⟩ (Or.inr (by decide))
                have hZ24K : zK [1] Z Z24 := zK_u zK_r hZ24 (by decide)
                intro μ9 e9
                replace e9 := e9.trans (zm_wI (Z := Z) (ν := ν) hZ24 (show ((0 : Nat) : Int) = 0 from rfl) (show ((0 : Nat) : Int) = 0 from rfl) (show ((2 : Nat) : Int) = 2 from rfl) (show (1 : Int32) = i3 1 from rfl))
                subst e9
                exact zlM hP (show (0 : Int32) = i3 0 from rfl) (zu_at hZ24) ⟨hZ24I, hZ24K, zN_r⟩
            · replace hP := zE_n hP h21
              refine wz_br (i3L (rfl : i3 a6 = i3 a6) (show (1 : Int32) = i3 1 from rfl) (by omega) (by omega) (by omega) (by omega)) (fun h25 => ?_) (fun h25 => ?_)
              · replace hP := zE_p hP h25
                refine wz_br (i3L (rfl : i3 a1 = i3 a1) (show (0 : Int32) = i3 0 from rfl) (by omega) (by omega) (by omega) (by omega)) (fun h26 => ?_) (fun h26 => ?_)
                · replace hP := zE_p hP h26
                  obtain ⟨Z27, hZ27⟩ := zx (zu Z 1 0 0 2 1)
                  have hZ27I := zI_u hZ hZ27 (lo := -2147483648) (hi := 2147483647) (by decide) rfl (by omega) ⟨by decide, by decide⟩ (Or.inr (by decide))
                  have hZ27K : zK [1] Z Z27 := zK_u zK_r hZ27 (by decide)
                  intro μ9 e9
                  replace e9 := e9.trans (zm_wI (Z := Z) (ν := ν) hZ27 (show ((0 : Nat) : Int) = 0 from rfl) (show ((0 : Nat) : Int) = 0 from rfl) (show ((2 : Nat) : Int) = 2 from rfl) (show (1 : Int32) = i3 1 from rfl))
                  subst e9
                  exact zlM hP (show (0 : Int32) = i3 0 from rfl) (zu_at hZ27) ⟨hZ27I, hZ27K, zN_r⟩
                · replace hP := zE_n hP h26
                  refine wz_i1 (Eq.trans (i3L (i3S (Eq.trans (zm_rd (Z := Z) (ν := ν) (k := 2) (show ((0 : Nat) : Int) = 0 from rfl) (show ((0 : Nat) : Int) = 0 from rfl) (show ((1400 : Nat) : Int) = 1400 from rfl)) (congrArg i3 ((hF 2 0 1400 (by decide)).trans ((show frz 2 0 1400 = 0 from by decide))))) (show (1 : Int32) = i3 1 from rfl)) (rfl : i3 a1 = i3 a1) (by omega) (by omega) (by omega) (by omega)) (decide_eq_true (by omega))) ?_
                  obtain ⟨Z28, hZ28⟩ := zx (zu Z 1 0 0 2 1)
                  have hZ28I := zI_u hZ hZ28 (lo := -2147483648) (hi := 2147483647) (by decide) rfl (by omega) ⟨by decide, by decide⟩ (Or.inr (by decide))
                  have hZ28K : zK [1] Z Z28 := zK_u zK_r hZ28 (by decide)
                  intro μ9 e9
                  replace e9 := e9.trans (zm_wI (Z := Z) (ν := ν) hZ28 (show ((0 : Nat) : Int) = 0 from rfl) (show ((0 : Nat) : Int) = 0 from rfl) (show ((2 : Nat) : Int) = 2 from rfl) (show (1 : Int32) = i3 1 from rfl))
                  subst e9
                  exact zlM hP (show (0 : Int32) = i3 0 from rfl) (zu_at hZ28) ⟨hZ28I, hZ28K, zN_r⟩
              · replace hP := zE_n hP h25
                refine wz_br (i3L (show (127 : Int32) = i3 127 from rfl) (rfl : i3 a6 = i3 a6) (by omega) (by omega) (by omega) (by omega)) (fun h29 => ?_) (fun h29 => ?_)
                · replace hP := zE_p hP h29
                  refine wz_br (i3L (rfl : i3 a1 = i3 a1) (show (0 : Int32) = i3 0 from rfl) (by omega) (by omega) (by omega) (by omega)) (fun h30 => ?_) (fun h30 => ?_)
                  · replace hP := zE_p hP h30
                    obtain ⟨Z31, hZ31⟩ := zx (zu Z 1 0 0 2 1)
                    have hZ31I := zI_u hZ hZ31 (lo := -2147483648) (hi := 2147483647) (by decide) rfl (by omega) ⟨by decide, by decide⟩ (Or.inr (by decide))
                    have hZ31K : zK [1] Z Z31 := zK_u zK_r hZ31 (by decide)
                    intro μ9 e9
                    replace e9 := e9.trans (zm_wI (Z := Z) (ν := ν) hZ31 (show ((0 : Nat) : Int) = 0 from rfl) (show ((0 : Nat) : Int) = 0 from rfl) (show ((2 : Nat) : Int) = 2 from rfl) (show (1 : Int32) = i3 1 from rfl))
                    subst e9
                    exact zlM hP (show (0 : Int32) = i3 0 from rfl) (zu_at hZ31) ⟨hZ31I, hZ31K, zN_r⟩
                  · replace hP := zE_n hP h30
                    refine wz_i1 (Eq.trans (i3L (i3S (Eq.trans (zm_rd (Z := Z) (ν := ν) (k := 2) (show ((0 : Nat) : Int) = 0 from rfl) (show ((0 : Nat) : Int) = 0 from rfl) (show ((1400 : Nat) : Int) = 1400 from rfl)) (congrArg i3 ((hF 2 0 1400 (by decide)).trans ((show frz 2 0 1400 = 0 from by decide))))) (show (1 : Int32) = i3 1 from rfl)) (rfl : i3 a1 = i3 a1) (by omega) (by omega) (by omega) (by omega)) (decide_eq_true (by omega))) ?_
                    obtain ⟨Z32, hZ32⟩ := zx (zu Z 1 0 0 2 1)
                    have hZ32I := zI_u hZ hZ32 (lo := -2147483648) (hi := 2147483647) (by decide) rfl (by omega) ⟨by decide, by decide⟩ (Or.inr (by decide))
                    have hZ32K : zK [1] Z Z32 := zK_u zK_r hZ32 (by decide)
                    intro μ9 e9
                    replace e9 := e9.trans (zm_wI (Z := Z) (ν := ν) hZ32 (show ((0 : Nat) : Int) = 0 from rfl) (show ((0 : Nat) : Int) = 0 from rfl) (show ((2 : Nat) : Int) = 2 from rfl) (show (1 : Int32) = i3 1 from rfl))
                    subst e9
                    exact zlM hP (show (0 : Int32) = i3 0 from rfl) (zu_at hZ32) ⟨hZ32I, hZ32K, zN_r⟩
                · replace hP := zE_n hP h29
                  refine wz_br (i3L (rfl : i3 a1 = i3 a1) (show (0 : Int32) = i3 0 from rfl) (by omega) (by omega) (by omega) (by omega)) (fun h33 => ?_) (fun h33 => ?_)
                  · replace hP := zE_p hP h33
                    obtain ⟨Z34, hZ34⟩ := zx (zu Z 1 0 0 2 1)
                    have hZ34I := zI_u hZ hZ34 (lo := -2147483648) (hi := 2147483647) (by decide) rfl (by omega) ⟨by decide, by decide⟩ (Or.inr (by decide))
                    have hZ34K : zK [1] Z Z34 := zK_u zK_r hZ34 (by decide)
                    intro μ9 e9
                    replace e9 := e9.trans (zm_wI (Z := Z) (ν := ν) hZ34 (show ((0 : Nat) : Int) = 0 from rfl) (show ((0 : Nat) : Int) = 0 from rfl) (show ((2 : Nat) : Int) = 2 from rfl) (show (1 : Int32) = i3 1 from rfl))
                    subst e9
                    exact zlM hP (show (0 : Int32) = i3 0 from rfl) (zu_at hZ34) ⟨hZ34I, hZ34K, zN_r⟩
                  · replace hP := zE_n hP h33
                    refine wz_i1 (Eq.trans (i3L (i3S (Eq.trans (zm_rd (Z := Z) (ν := ν) (k := 2) (show ((0 : Nat) : Int) = 0 from rfl) (show ((0 : Nat) : Int) = 0 from rfl) (show ((1400 : Nat) : Int) = 1400 from rfl)) (congrArg i3 ((hF 2 0 1400 (by decide)).trans ((show frz 2 0 1400 = 0 from by decide))))) (show (1 : Int32) = i3 1 from rfl)) (rfl : i3 a1 = i3 a1) (by omega) (by omega) (by omega) (by omega)) (decide_eq_true (by omega))) ?_
                    obtain ⟨Z35, hZ35⟩ := zx (zu Z 1 0 0 2 1)
                    have hZ35I := zI_u hZ hZ35 (lo := -2147483648) (hi := 2147483647) (by decide) rfl (by omega) ⟨by decide, by decide⟩ (Or.inr (by decide))
                    have hZ35K : zK [1] Z Z35 := zK_u zK_r hZ35 (by decide)
                    intro μ9 e9
                    replace e9 := e9.trans (zm_wI (Z := Z) (ν := ν) hZ35 (show ((0 : Nat) : Int) = 0 from rfl) (show ((0 : Nat) : Int) = 0 from rfl) (show ((2 : Nat) : Int) = 2 from rfl) (show (1 : Int32) = i3 1 from rfl))
                    subst e9
                    exact zlM hP (show (0 : Int32) = i3 0 from rfl) (zu_at hZ35) ⟨hZ35I, hZ35K, zN_r⟩

/- yX12_owes -/
def zg_445 (a1 : Int) (a2 : Int) : Int × Int := (if a1 < 0 then (0, 1) else (0, 1))
theorem sg_445 {Z : qz_Z} {ν : qz_N} (hZ : zI none Z) (hF : zFm Z) {a1 : Int} (ga1 : -2147483648 ≤ a1 ∧ a1 ≤ 2147483647) {a2 : Int} (ga2 : -2147483648 ≤ a2 ∧ a2 ≤ 2147483647) : ∃ (Z1 : qz_Z) (ν1 : qz_N) (v t : Int), (v, t) = zg_445 a1 a2 ∧ qf_445 [.inr (.inr (some (1, 0, 0))), .inl (i3 a1), .inl (i3 a2)] (zm Z ν) = some (zm Z1 ν1, .inl (some (.inl (i3 v)))) ∧ Z1 1 0 0 2 = t ∧ (fun Z1 ν1 => zI none Z1 ∧ zK [1] Z Z1 ∧ zN ν ν1) Z1 ν1 := by
  obtain ⟨P, hP⟩ := zx (zg_445 a1 a2)
  refine zc_M (Q := fun Z1 ν1 => zI none Z1 ∧ zK [1] Z Z1 ∧ zN ν ν1) hP (fw_445 (i3 a1) (i3 a2) _ _ ?_)
  replace hP : zE P (zg_445 a1 a2) := hP
  unfold zg_445 at hP
  refine wz_br (i3L (rfl : i3 a1 = i3 a1) (show (0 : Int32) = i3 0 from rfl) (by omega) (by omega) (by omega) (by omega)) (fun h1 => ?_) (fun h1 => ?_)
  · replace hP := zE_p hP h1
    obtain ⟨Z2, hZ2⟩ := zx (zu Z 1 0 0 2 1)
    have hZ2I := zI_u hZ hZ2 (lo := -2147483648) (hi := 2147483647) (by decide) rfl (by omega) ⟨by decide, by decide⟩ (Or.inr (by decide))
    have hZ2K : zK [1] Z Z2 := zK_u zK_r hZ2 (by decide)
    intro μ9 e9
    replace e9 := e9.trans (zm_wI (Z := Z) (ν := ν) hZ2 (show ((0 : Nat) : Int) = 0 from rfl) (show ((0 : Nat) : Int) = 0 from rfl) (show ((2 : Nat) : Int) = 2 from rfl) (show (1 : Int32) = i3 1 from rfl))
    subst e9
    exact zlM hP (show (0 : Int32) = i3 0 from rfl) (zu_at hZ2) ⟨hZ2I, hZ2K, zN_r⟩
  · replace hP := zE_n hP h1
    refine wz_i1 (Eq.trans (i3L (i3S (Eq.trans (zm_rd (Z := Z) (ν := ν) (k := 2) (show ((0 : Nat) : Int) = 0 from rfl) (show ((0 : Nat) : Int) = 0 from rfl) (show ((1400 : Nat) : Int) = 1400 from rfl)) (congrArg i3 ((hF 2 0 1400 (by decide)).trans ((show frz 2 0 1400 = 0 from by decide))))) (show (1 : Int32) = i3 1 from rfl)) (rfl : i3 a1 = i3 a1) (by omega) (by omega) (by omega) (by omega)) (decide_eq_true (by omega))) ?_
    obtain ⟨Z3, hZ3⟩ := zx (zu Z 1 0 0 2 1)
    have hZ3I := zI_u hZ hZ3 (lo := -2147483648) (hi := 2147483647) (by decide) rfl (by omega) ⟨by decide, by decide⟩ (Or.inr (by decide))
    have hZ3K : zK [1] Z Z3 := zK_u zK_r hZ3 (by decide)
    intro μ9 e9
    replace e9 := e9.trans (zm_wI (Z := Z) (ν := ν) hZ3 (show ((0 : Nat) : Int) = 0 from rfl) (show ((0 : Nat) : Int) = 0 from rfl) (show ((2 : Nat) : Int) = 2 from rfl) (show (1 : Int32) = i3 1 from rfl))
    subst e9
    exact zlM hP (show (0 : Int32) = i3 0 from rfl) (zu_at hZ3) ⟨hZ3I, hZ3K, zN_r⟩

/- yX12_clock -/
def zg_316 (a1 : Int) (a2 : Int) (a3 : Int) (a4 : Int) (a5 : Int) : Int × Int := (if a1 < 0 then (0, 1) else (if 23 < a1 then (0, 1) else (if a2 < 1 then (0, 1) else (if 6 < a2 then (0, 1) else (if 24 < (a1 + a2) then (0, 1) else (if a3 < 1 then (0, 1) else (if 6 < a3 then (0, 1) else (if a4 < 1 then (0, 1) else (if 500 < a4 then (0, 1) else (if a5 < 0 then (0, 1) else (if 9 < a5 then (0, 1) else (0, 0))))))))))))
theorem sg_316 {Z : qz_Z} {ν : qz_N} (hZ : zI none Z) (hF : zFm Z) {a1 : Int} (ga1 : -2147483648 ≤ a1 ∧ a1 ≤ 2147483647) {a2 : Int} (ga2 : -2147483648 ≤ a2 ∧ a2 ≤ 2147483647) {a3 : Int} (ga3 : -2147483648 ≤ a3 ∧ a3 ≤ 2147483647) {a4 : Int} (ga4 : -2147483648 ≤ a4 ∧ a4 ≤ 2147483647) {a5 : Int} (ga5 : -2147483648 ≤ a5 ∧ a5 ≤ 2147483647) (rrec : ∀ Z, qz_rm (zm Z ν) 1 0 0 36 = some (102, 0, 0)) : ∃ (Z1 : qz_Z) (ν1 : qz_N) (v t : Int), (v, t) = zg_316 a1 a2 a3 a4 a5 ∧ qf_316 [.inr (.inr (some (1, 0, 0))), .inl (i3 a1), .inl (i3 a2), .inl (i3 a3), .inl (i3 a4), .inl (i3 a5)] (zm Z ν) = some (zm Z1 ν1, .inl (some (.inl (i3 v)))) ∧ Z1 1 0 0 2 = t ∧ (fun Z1 ν1 => zI none Z1 ∧ zK [1, 2, 101, 102] Z Z1 ∧ zN ν ν1) Z1 ν1 := by
  obtain ⟨P, hP⟩ := zx (zg_316 a1 a2 a3 a4 a5)
  refine zc_M (Q := fun Z1 ν1 => zI none Z1 ∧ zK [1, 2, 101, 102] Z Z1 ∧ zN ν ν1) hP (fw_316 (i3 a1) (i3 a2) (i3 a3) (i3 a4) (i3 a5) _ _ ?_)
  replace hP : zE P (zg_316 a1 a2 a3 a4 a5) := hP
  unfold zg_316 at hP
  refine wz_br (i3L (rfl : i3 a1 = i3 a1) (show (0 : Int32) = i3 0 from rfl) (by omega) (by omega) (by omega) (by omega)) (fun h1 => ?_) (fun h1 => ?_)
  · replace hP := zE_p hP h1
    obtain ⟨Z2, hZ2⟩ := zx (zu Z 1 0 0 2 1)
    have hZ2I := zI_u hZ hZ2 (lo := -2147483648) (hi := 2147483647) (by decide) rfl (by omega) ⟨by decide, by decide⟩ (Or.inr (by decide))
    have hZ2K : zK [1, 2, 101, 102] Z Z2 := zK_u zK_r hZ2 (by decide)
    intro μ9 e9
    replace e9 := e9.trans (zm_wI (Z := Z) (ν := ν) hZ2 (show ((0 : Nat) : Int) = 0 from rfl) (show ((0 : Nat) : Int) = 0 from rfl) (show ((2 : Nat) : Int) = 2 from rfl) (show (1 : Int32) = i3 1 from rfl))
    subst e9
    exact zlM hP (show (0 : Int32) = i3 0 from rfl) (zu_at hZ2) ⟨hZ2I, hZ2K, zN_r⟩
  · replace hP := zE_n hP h1
    refine wz_br (i3L (show (23 : Int32) = i3 23 from rfl) (rfl : i3 a1 = i3 a1) (by omega) (by omega) (by omega) (by omega)) (fun h3 => ?_) (fun h3 => ?_)
    · replace hP := zE_p hP h3
      obtain ⟨Z4, hZ4⟩ := zx (zu Z 1 0 0 2 1)
      have hZ4I := zI_u hZ hZ4 (lo := -2147483648) (hi := 2147483647) (by decide) rfl (by omega) ⟨by decide, by decide⟩ (Or.inr (by decide))
      have hZ4K : zK [1, 2, 101, 102] Z Z4 := zK_u zK_r hZ4 (by decide)
      intro μ9 e9
      replace e9 := e9.trans (zm_wI (Z := Z) (ν := ν) hZ4 (show ((0 : Nat) : Int) = 0 from rfl) (show ((0 : Nat) : Int) = 0 from rfl) (show ((2 : Nat) : Int) = 2 from rfl) (show (1 : Int32) = i3 1 from rfl))
      subst e9
      exact zlM hP (show (0 : Int32) = i3 0 from rfl) (zu_at hZ4) ⟨hZ4I, hZ4K, zN_r⟩
    · replace hP := zE_n hP h3
      refine wz_br (i3L (rfl : i3 a2 = i3 a2) (show (1 : Int32) = i3 1 from rfl) (by omega) (by omega) (by omega) (by omega)) (fun h5 => ?_) (fun h5 => ?_)
      · replace hP := zE_p hP h5
        obtain ⟨Z6, hZ6⟩ := zx (zu Z 1 0 0 2 1)
        have hZ6I := zI_u hZ hZ6 (lo := -2147483648) (hi := 2147483647) (by decide) rfl (by omega) ⟨by decide, by decide⟩ (Or.inr (by decide))
        have hZ6K : zK [1, 2, 101, 102] Z Z6 := zK_u zK_r hZ6 (by decide)
        intro μ9 e9
        replace e9 := e9.trans (zm_wI (Z := Z) (ν := ν) hZ6 (show ((0 : Nat) : Int) = 0 from rfl) (show ((0 : Nat) : Int) = 0 from rfl) (show ((2 : Nat) : Int) = 2 from rfl) (show (1 : Int32) = i3 1 from rfl))
        subst e9
        exact zlM hP (show (0 : Int32) = i3 0 from rfl) (zu_at hZ6) ⟨hZ6I, hZ6K, zN_r⟩
      · replace hP := zE_n hP h5
        refine wz_br (i3L (show (6 : Int32) = i3 6 from rfl) (rfl : i3 a2 = i3 a2) (by omega) (by omega) (by omega) (by omega)) (fun h7 => ?_) (fun h7 => ?_)
        · replace hP := zE_p hP h7
          obtain ⟨Z8, hZ8⟩ := zx (zu Z 1 0 0 2 1)
          have hZ8I := zI_u hZ hZ8 (lo := -2147483648) (hi := 2147483647) (by decide) rfl (by omega) ⟨by decide, by decide⟩ (Or.inr (by decide))
          have hZ8K : zK [1, 2, 101, 102] Z Z8 := zK_u zK_r hZ8 (by decide)
          intro μ9 e9
          replace e9 := e9.trans (zm_wI (Z := Z) (ν := ν) hZ8 (show ((0 : Nat) : Int) = 0 from rfl) (show ((0 : Nat) : Int) = 0 from rfl) (show ((2 : Nat) : Int) = 2 from rfl) (show (1 : Int32) = i3 1 from rfl))
          subst e9
          exact zlM hP (show (0 : Int32) = i3 0 from rfl) (zu_at hZ8) ⟨hZ8I, hZ8K, zN_r⟩
        · replace hP := zE_n hP h7
          refine wz_i0 (Eq.trans (i3L (i3A (rfl : i3 a1 = i3 a1) (rfl : i3 a2 = i3 a2)) (show (1 : Int32) = i3 1 from rfl) (by omega) (by omega) (by omega) (by omega)) (decide_eq_false (by omega))) ?_
          refine wz_br (i3L (show (24 : Int32) = i3 24 from rfl) (i3A (rfl : i3 a1 = i3 a1) (rfl : i3 a2 = i3 a2)) (by omega) (by omega) (by omega) (by omega)) (fun h9 => ?_) (fun h9 => ?_)
          · replace hP := zE_p hP h9
            obtain ⟨Z10, hZ10⟩ := zx (zu Z 1 0 0 2 1)
            have hZ10I := zI_u hZ hZ10 (lo := -2147483648) (hi := 2147483647) (by decide) rfl (by omega) ⟨by decide, by decide⟩ (Or.inr (by decide))
            have hZ10K : zK [1, 2, 101, 102] Z Z10 := zK_u zK_r hZ10 (by decide)
            intro μ9 e9
            replace e9 := e9.trans (zm_wI (Z := Z) (ν := ν) hZ10 (show ((0 : Nat) : Int) = 0 from rfl) (show ((0 : Nat) : Int) = 0 from rfl) (show ((2 : Nat) : Int) = 2 from rfl) (show (1 : Int32) = i3 1 from rfl))
            subst e9
            exact zlM hP (show (0 : Int32) = i3 0 from rfl) (zu_at hZ10) ⟨hZ10I, hZ10K, zN_r⟩
          · replace hP := zE_n hP h9
            refine wz_br (i3L (rfl : i3 a3 = i3 a3) (show (1 : Int32) = i3 1 from rfl) (by omega) (by omega) (by omega) (by omega)) (fun h11 => ?_) (fun h11 => ?_)
            · replace hP := zE_p hP h11
              obtain ⟨Z12, hZ12⟩ := zx (zu Z 1 0 0 2 1)
              have hZ12I := zI_u hZ hZ12 (lo := -2147483648) (hi := 2147483647) (by decide) rfl (by omega) ⟨by decide, by decide⟩ (Or.inr (by decide))
              have hZ12K : zK [1, 2, 101, 102] Z Z12 := zK_u zK_r hZ12 (by decide)
              intro μ9 e9
              replace e9 := e9.trans (zm_wI (Z := Z) (ν := ν) hZ12 (show ((0 : Nat) : Int) = 0 from rfl) (show ((0 : Nat) : Int) = 0 from rfl) (show ((2 : Nat) : Int) = 2 from rfl) (show (1 : Int32) = i3 1 from rfl))
              subst e9
              exact zlM hP (show (0 : Int32) = i3 0 from rfl) (zu_at hZ12) ⟨hZ12I, hZ12K, zN_r⟩
            · replace hP := zE_n hP h11
              refine wz_br (i3L (show (6 : Int32) = i3 6 from rfl) (rfl : i3 a3 = i3 a3) (by omega) (by omega) (by omega) (by omega)) (fun h13 => ?_) (fun h13 => ?_)
              · replace hP := zE_p hP h13
                obtain ⟨Z14, hZ14⟩ := zx (zu Z 1 0 0 2 1)
                have hZ14I := zI_u hZ hZ14 (lo := -2147483648) (hi := 2147483647) (by decide) rfl (by omega) ⟨by decide, by decide⟩ (Or.inr (by decide))
                have hZ14K : zK [1, 2, 101, 102] Z Z14 := zK_u zK_r hZ14 (by decide)
                intro μ9 e9
                replace e9 := e9.trans (zm_wI (Z := Z) (ν := ν) hZ14 (show ((0 : Nat) : Int) = 0 from rfl) (show ((0 : Nat) : Int) = 0 from rfl) (show ((2 : Nat) : Int) = 2 from rfl) (show (1 : Int32) = i3 1 from rfl))
                subst e9
                exact zlM hP (show (0 : Int32) = i3 0 from rfl) (zu_at hZ14) ⟨hZ14I, hZ14K, zN_r⟩
              · replace hP := zE_n hP h13
                refine wz_br (i3L (rfl : i3 a4 = i3 a4) (show (1 : Int32) = i3 1 from rfl) (by omega) (by omega) (by omega) (by omega)) (fun h15 => ?_) (fun h15 => ?_)
                · replace hP := zE_p hP h15
                  obtain ⟨Z16, hZ16⟩ := zx (zu Z 1 0 0 2 1)
                  have hZ16I := zI_u hZ hZ16 (lo := -2147483648) (hi := 2147483647) (by decide) rfl (by omega) ⟨by decide, by decide⟩ (Or.inr (by decide))
                  have hZ16K : zK [1, 2, 101, 102] Z Z16 := zK_u zK_r hZ16 (by decide)
                  intro μ9 e9
                  replace e9 := e9.trans (zm_wI (Z := Z) (ν := ν) hZ16 (show ((0 : Nat) : Int) = 0 from rfl) (show ((0 : Nat) : Int) = 0 from rfl) (show ((2 : Nat) : Int) = 2 from rfl) (show (1 : Int32) = i3 1 from rfl))
                  subst e9
                  exact zlM hP (show (0 : Int32) = i3 0 from rfl) (zu_at hZ16) ⟨hZ16I, hZ16K, zN_r⟩
                · replace hP := zE_n hP h15
                  refine wz_br (i3L (show (500 : Int32) = i3 500 from rfl) (rfl : i3 a4 = i3 a4) (by omega) (by omega) (by omega) (by omega)) (fun h17 => ?_) (fun h17 => ?_)
                  · replace hP := zE_p hP h17
                    obtain ⟨Z18, hZ18⟩ := zx (zu Z 1 0 0 2 1)
                    have hZ18I := zI_u hZ hZ18 (lo := -2147483648) (hi := 2147483647) (by decide) rfl (by omega) ⟨by decide, by decide⟩ (Or.inr (by decide))
                    have hZ18K : zK [1, 2, 101, 102] Z Z18 := zK_u zK_r hZ18 (by decide)
                    intro μ9 e9
                    replace e9 := e9.trans (zm_wI (Z := Z) (ν := ν) hZ18 (show ((0 : Nat) : Int) = 0 from rfl) (show ((0 : Nat) : Int) = 0 from rfl) (show ((2 : Nat) : Int) = 2 from rfl) (show (1 : Int32) = i3 1 from rfl))
                    subst e9
                    exact zlM hP (show (0 : Int32) = i3 0 from rfl) (zu_at hZ18) ⟨hZ18I, hZ18K, zN_r⟩
                  · replace hP := zE_n hP h17
                    refine wz_br (i3L (rfl : i3 a5 = i3 a5) (show (0 : Int32) = i3 0 from rfl) (by omega) (by omega) (by omega) (by omega)) (fun h19 => ?_) (fun h19 => ?_)
                    · replace hP := zE_p hP h19
                      obtain ⟨Z20, hZ20⟩ := zx (zu Z 1 0 0 2 1)
                      have hZ20I := zI_u hZ hZ20 (lo := -2147483648) (hi := 2147483647) (by decide) rfl (by omega) ⟨by decide, by decide⟩ (Or.inr (by decide))
                      have hZ20K : zK [1, 2, 101, 102] Z Z20 := zK_u zK_r hZ20 (by decide)
                      intro μ9 e9
                      replace e9 := e9.trans (zm_wI (Z := Z) (ν := ν) hZ20 (show ((0 : Nat) : Int) = 0 from rfl) (show ((0 : Nat) : Int) = 0 from rfl) (show ((2 : Nat) : Int) = 2 from rfl) (show (1 : Int32) = i3 1 from rfl))
                      subst e9
                      exact zlM hP (show (0 : Int32) = i3 0 from rfl) (zu_at hZ20) ⟨hZ20I, hZ20K, zN_r⟩
                    · replace hP := zE_n hP h19
                      refine wz_br (i3L (show (9 : Int32) = i3 9 from rfl) (rfl : i3 a5 = i3 a5) (by omega) (by omega) (by omega) (by omega)) (fun h21 => ?_) (fun h21 => ?_)
                      · replace hP := zE_p hP h21
                        obtain ⟨Z22, hZ22⟩ := zx (zu Z 1 0 0 2 1)
                        have hZ22I := zI_u hZ hZ22 (lo := -2147483648) (hi := 2147483647) (by decide) rfl (by omega) ⟨by decide, by decide⟩ (Or.inr (by decide))
                        have hZ22K : zK [1, 2, 101, 102] Z Z22 := zK_u zK_r hZ22 (by decide)
                        intro μ9 e9
                        replace e9 := e9.trans (zm_wI (Z := Z) (ν := ν) hZ22 (show ((0 : Nat) : Int) = 0 from rfl) (show ((0 : Nat) : Int) = 0 from rfl) (show ((2 : Nat) : Int) = 2 from rfl) (show (1 : Int32) = i3 1 from rfl))
                        subst e9
                        exact zlM hP (show (0 : Int32) = i3 0 from rfl) (zu_at hZ22) ⟨hZ22I, hZ22K, zN_r⟩
                      · replace hP := zE_n hP h21
                        obtain ⟨Z23, hZ23⟩ := zx (zu Z 1 0 0 2 0)
                        have hZ23I := zI_0 hZ hZ23 (by decide) (Or.inr (by decide))
                        have hZ23K : zK [1, 2, 101, 102] Z Z23 := zK_u zK_r hZ23 (by decide)
                        intro μ9 e9
                        replace e9 := e9.trans (zm_wI (Z := Z) (ν := ν) hZ23 (show ((0 : Nat) : Int) = 0 from rfl) (show ((0 : Nat) : Int) = 0 from rfl) (show ((2 : Nat) : Int) = 2 from rfl) (show (0 : Int32) = i3 0 from rfl))
                        subst e9
                        refine wz_i0 (Eq.trans (i3Le (show (2 : Int32) = i3 2 from rfl) (Eq.trans (zm_rd (Z := Z23) (ν := ν) (k := 2) (show ((0 : Nat) : Int) = 0 from rfl) (show ((0 : Nat) : Int) = 0 from rfl) (show ((3000 : Nat) : Int) = 3000 from rfl)) (congrArg i3 ((zu_ne (k' := 2) (b' := 0) (i' := 0) (j' := 3000) hZ23 (fun q => absurd q.1 (by decide))).trans ((hF 2 0 3000 (by decide)).trans ((show frz 2 0 3000 = 0 from by decide)))))) (by omega) (by omega) (by omega) (by omega)) (decide_eq_false (by omega))) ?_
                        obtain ⟨Z24, hZ24⟩ := zx (zu Z23 1 0 0 2 0)
                        have hZ24I := zI_0 hZ23I hZ24 (by decide) (Or.inr (by decide))
                        have hZ24K := zK_u hZ23K hZ24 (by decide)
                        intro μ9 e9
                        replace e9 := e9.trans (zm_wI (Z := Z23) (ν := ν) hZ24 (show ((0 : Nat) : Int) = 0 from rfl) (show ((0 : Nat) : Int) = 0 from rfl) (show ((2 : Nat) : Int) = 2 from rfl) (show (0 : Int32) = i3 0 from rfl))
                        subst e9
                        refine wz_i0 (Eq.trans (i3NE (Eq.trans (zm_rd (Z := Z24) (ν := ν) (k := 1) (show ((0 : Nat) : Int) = 0 from rfl) (show ((0 : Nat) : Int) = 0 from rfl) (show ((35 : Nat) : Int) = 35 from rfl)) (congrArg i3 ((zu_ne (k' := 1) (b' := 0) (i' := 0) (j' := 35) hZ24 (fun q => absurd q.2.2.2 (by decide))).trans ((zu_ne (k' := 1) (b' := 0) (i' := 0) (j' := 35) hZ23 (fun q => absurd q.2.2.2 (by decide))).trans ((hF 1 0 35 (by decide)).trans ((show frz 1 0 35 = 0 from by decide))))))) (show (0 : Int32) = i3 0 from rfl) (by omega) (by omega) (by omega) (by omega)) (decide_eq_false (by omega))) ?_
                        have e25 : Z24 1 0 0 34 = 0 := (zu_ne (k' := 1) (b' := 0) (i' := 0) (j' := 34) hZ24 (fun q => absurd q.2.2.2 (by decide))).trans ((zu_ne (k' := 1) (b' := 0) (i' := 0) (j' := 34) hZ23 (fun q => absurd q.2.2.2 (by decide))).trans ((hF 1 0 34 (by decide)).trans ((show frz 1 0 34 = 0 from by decide))))
                        obtain ⟨Z26, hZ26, c9, hZ26I, kZ26, wZ260, wZ261, wZ262⟩ := sp_557 (ν := ν) hZ24I (a1 := (-1)) (by omega) (by omega)
                        have hZ26K : zK [1, 2, 101, 102] Z Z26 := zK_t hZ24K kZ26 (by decide)
                        refine wz_cV_of (zas (zcons rfl (zcons (zvi (show (-1 : Int32) = i3 (-1) from rfl)) rfl)) c9) ?_
                        clear c9
                        have e27 : Z26 1 0 0 37 = 0 := (wZ262).trans ((zu_ne (k' := 1) (b' := 0) (i' := 0) (j' := 37) hZ24 (fun q => absurd q.2.2.2 (by decide))).trans ((zu_ne (k' := 1) (b' := 0) (i' := 0) (j' := 37) hZ23 (fun q => absurd q.2.2.2 (by decide))).trans ((hF 1 0 37 (by decide)).trans ((show frz 1 0 37 = 0 from by decide)))))
                        obtain ⟨Z28, hZ28, c9, hZ28I, kZ28, wZ280, wZ281⟩ := sp_563 (ν := ν) hZ26I (a1 := 15) (by omega) (a2 := a1) (by omega) (a3 := a2) (by omega) (a4 := a3) (by omega) (a5 := a4) (by omega) (a6 := a5) (by omega) (a7 := 0) (by omega) (by omega) rrec
                        have hZ28K : zK [1, 2, 101, 102] Z Z28 := zK_t hZ26K kZ28 (by decide)
                        refine wz_cV_of (zas (zcons rfl (zcons (zvi (show (15 : Int32) = i3 15 from rfl)) (zcons (zvi (rfl : i3 a1 = i3 a1)) (zcons (zvi (rfl : i3 a2 = i3 a2)) (zcons (zvi (rfl : i3 a3 = i3 a3)) (zcons (zvi (rfl : i3 a4 = i3 a4)) (zcons (zvi (rfl : i3 a5 = i3 a5)) (zcons (zvi (show (0 : Int32) = i3 0 from rfl)) rfl)))))))) c9) ?_
                        clear c9
                        refine fw_297 _ _ _ _ _ _ _ ?_
                        obtain ⟨Z29, hZ29⟩ := zx (zu Z28 2 0 0 3000 (0 + 1))
                        have hZ29I := zI_u hZ28I hZ29 (lo := 0) (hi := 2) (by decide) rfl (by omega) ⟨by decide, by decide⟩ (Or.inl (by decide))
                        have hZ29K := zK_u hZ28K hZ29 (by decide)
                        intro μ9 e9
                        replace e9 := e9.trans (zm_wI (Z := Z28) (ν := ν) hZ29 (show ((0 : Nat) : Int) = 0 from rfl) (show ((0 : Nat) : Int) = 0 from rfl) (show ((3000 : Nat) : Int) = 3000 from rfl) (i3A (Eq.trans (zm_rd (Z := Z28) (ν := ν) (k := 2) (show ((0 : Nat) : Int) = 0 from rfl) (show ((0 : Nat) : Int) = 0 from rfl) (show ((3000 : Nat) : Int) = 3000 from rfl)) (congrArg i3 ((kZ28 2 (by decide) 0 0 3000).trans ((kZ26 2 (by decide) 0 0 3000).trans ((zu_ne (k' := 2) (b' := 0) (i' := 0) (j' := 3000) hZ24 (fun q => absurd q.1 (by decide))).trans ((zu_ne (k' := 2) (b' := 0) (i' := 0) (j' := 3000) hZ23 (fun q => absurd q.1 (by decide))).trans ((hF 2 0 3000 (by decide)).trans ((show frz 2 0 3000 = 0 from by decide))))))))) (show (1 : Int32) = i3 1 from rfl)))
                        subst e9
                        refine wz_i0 (i3O (n := 4400) (i3A (i3A (show (3010 : Int32) = i3 3010 from rfl) (i3M (show (60 : Int32) = i3 60 from rfl) (Eq.trans (zm_rd (Z := Z28) (ν := ν) (k := 2) (show ((0 : Nat) : Int) = 0 from rfl) (show ((0 : Nat) : Int) = 0 from rfl) (show ((3000 : Nat) : Int) = 3000 from rfl)) (congrArg i3 ((kZ28 2 (by decide) 0 0 3000).trans ((kZ26 2 (by decide) 0 0 3000).trans ((zu_ne (k' := 2) (b' := 0) (i' := 0) (j' := 3000) hZ24 (fun q => absurd q.1 (by decide))).trans ((zu_ne (k' := 2) (b' := 0) (i' := 0) (j' := 3000) hZ23 (fun q => absurd q.1 (by decide))).trans ((hF 2 0 3000 (by decide)).trans ((show frz 2 0 3000 = 0 from by decide))))))))))) (show (0 : Int32) = i3 0 from rfl)) (by omega) (by omega) (by omega)) ?_
                        obtain ⟨Z30, hZ30⟩ := zx (zu Z29 2 0 0 3010 a1)
                        have hZ30I := zI_u hZ29I hZ30 (lo := 0) (hi := 23) (by decide) rfl (by omega) ⟨by decide, by decide⟩ (Or.inl (by decide))
                        have hZ30K := zK_u hZ29K hZ30 (by decide)
                        intro μ9 e9
                        replace e9 := e9.trans (zm_wI (Z := Z29) (ν := ν) hZ30 (show ((0 : Nat) : Int) = 0 from rfl) (show ((0 : Nat) : Int) = 0 from rfl) (i3I (y := 3010) (i3A (i3A (show (3010 : Int32) = i3 3010 from rfl) (i3M (show (60 : Int32) = i3 60 from rfl) (Eq.trans (zm_rd (Z := Z28) (ν := ν) (k := 2) (show ((0 : Nat) : Int) = 0 from rfl) (show ((0 : Nat) : Int) = 0 from rfl) (show ((3000 : Nat) : Int) = 3000 from rfl)) (congrArg i3 ((kZ28 2 (by decide) 0 0 3000).trans ((kZ26 2 (by decide) 0 0 3000).trans ((zu_ne (k' := 2) (b' := 0) (i' := 0) (j' := 3000) hZ24 (fun q => absurd q.1 (by decide))).trans ((zu_ne (k' := 2) (b' := 0) (i' := 0) (j' := 3000) hZ23 (fun q => absurd q.1 (by decide))).trans ((hF 2 0 3000 (by decide)).trans ((show frz 2 0 3000 = 0 from by decide))))))))))) (show (0 : Int32) = i3 0 from rfl)) (by omega) (by omega) (by omega)) (rfl : i3 a1 = i3 a1))
                        subst e9
                        refine wz_i0 (i3O (n := 4400) (i3A (i3A (show (3010 : Int32) = i3 3010 from rfl) (i3M (show (60 : Int32) = i3 60 from rfl) (Eq.trans (zm_rd (Z := Z28) (ν := ν) (k := 2) (show ((0 : Nat) : Int) = 0 from rfl) (show ((0 : Nat) : Int) = 0 from rfl) (show ((3000 : Nat) : Int) = 3000 from rfl)) (congrArg i3 ((kZ28 2 (by decide) 0 0 3000).trans ((kZ26 2 (by decide) 0 0 3000).trans ((zu_ne (k' := 2) (b' := 0) (i' := 0) (j' := 3000) hZ24 (fun q => absurd q.1 (by decide))).trans ((zu_ne (k' := 2) (b' := 0) (i' := 0) (j' := 3000) hZ23 (fun q => absurd q.1 (by decide))).trans ((hF 2 0 3000 (by decide)).trans ((show frz 2 0 3000 = 0 from by decide))))))))))) (show (1 : Int32) = i3 1 from rfl)) (by omega) (by omega) (by omega)) ?_
                        obtain ⟨Z31, hZ31⟩ := zx (zu Z30 2 0 0 3011 a2)
                        have hZ31I := zI_u hZ30I hZ31 (lo := 0) (hi := 6) (by decide) rfl (by omega) ⟨by decide, by decide⟩ (Or.inl (by decide))
                        have hZ31K := zK_u hZ30K hZ31 (by decide)
                        intro μ9 e9
                        replace e9 := e9.trans (zm_wI (Z := Z30) (ν := ν) hZ31 (show ((0 : Nat) : Int) = 0 from rfl) (show ((0 : Nat) : Int) = 0 from rfl) (i3I (y := 3011) (i3A (i3A (show (3010 : Int32) = i3 3010 from rfl) (i3M (show (60 : Int32) = i3 60 from rfl) (Eq.trans (zm_rd (Z := Z28) (ν := ν) (k := 2) (show ((0 : Nat) : Int) = 0 from rfl) (show ((0 : Nat) : Int) = 0 from rfl) (show ((3000 : Nat) : Int) = 3000 from rfl)) (congrArg i3 ((kZ28 2 (by decide) 0 0 3000).trans ((kZ26 2 (by decide) 0 0 3000).trans ((zu_ne (k' := 2) (b' := 0) (i' := 0) (j' := 3000) hZ24 (fun q => absurd q.1 (by decide))).trans ((zu_ne (k' := 2) (b' := 0) (i' := 0) (j' := 3000) hZ23 (fun q => absurd q.1 (by decide))).trans ((hF 2 0 3000 (by decide)).trans ((show frz 2 0 3000 = 0 from by decide))))))))))) (show (1 : Int32) = i3 1 from rfl)) (by omega) (by omega) (by omega)) (rfl : i3 a2 = i3 a2))
                        subst e9
                        refine wz_i0 (i3O (n := 4400) (i3A (i3A (show (3010 : Int32) = i3 3010 from rfl) (i3M (show (60 : Int32) = i3 60 from rfl) (Eq.trans (zm_rd (Z := Z28) (ν := ν) (k := 2) (show ((0 : Nat) : Int) = 0 from rfl) (show ((0 : Nat) : Int) = 0 from rfl) (show ((3000 : Nat) : Int) = 3000 from rfl)) (congrArg i3 ((kZ28 2 (by decide) 0 0 3000).trans ((kZ26 2 (by decide) 0 0 3000).trans ((zu_ne (k' := 2) (b' := 0) (i' := 0) (j' := 3000) hZ24 (fun q => absurd q.1 (by decide))).trans ((zu_ne (k' := 2) (b' := 0) (i' := 0) (j' := 3000) hZ23 (fun q => absurd q.1 (by decide))).trans ((hF 2 0 3000 (by decide)).trans ((show frz 2 0 3000 = 0 from by decide))))))))))) (show (2 : Int32) = i3 2 from rfl)) (by omega) (by omega) (by omega)) ?_
                        obtain ⟨Z32, hZ32⟩ := zx (zu Z31 2 0 0 3012 a3)
                        have hZ32I := zI_u hZ31I hZ32 (lo := 0) (hi := 6) (by decide) rfl (by omega) ⟨by decide, by decide⟩ (Or.inl (by decide))
                        have hZ32K := zK_u hZ31K hZ32 (by decide)
                        intro μ9 e9
                        replace e9 := e9.trans (zm_wI (Z := Z31) (ν := ν) hZ32 (show ((0 : Nat) : Int) = 0 from rfl) (show ((0 : Nat) : Int) = 0 from rfl) (i3I (y := 3012) (i3A (i3A (show (3010 : Int32) = i3 3010 from rfl) (i3M (show (60 : Int32) = i3 60 from rfl) (Eq.trans (zm_rd (Z := Z28) (ν := ν) (k := 2) (show ((0 : Nat) : Int) = 0 from rfl) (show ((0 : Nat) : Int) = 0 from rfl) (show ((3000 : Nat) : Int) = 3000 from rfl)) (congrArg i3 ((kZ28 2 (by decide) 0 0 3000).trans ((kZ26 2 (by decide) 0 0 3000).trans ((zu_ne (k' := 2) (b' := 0) (i' := 0) (j' := 3000) hZ24 (fun q => absurd q.1 (by decide))).trans ((zu_ne (k' := 2) (b' := 0) (i' := 0) (j' := 3000) hZ23 (fun q => absurd q.1 (by decide))).trans ((hF 2 0 3000 (by decide)).trans ((show frz 2 0 3000 = 0 from by decide))))))))))) (show (2 : Int32) = i3 2 from rfl)) (by omega) (by omega) (by omega)) (rfl : i3 a3 = i3 a3))
                        subst e9
                        refine wz_i0 (i3O (n := 4400) (i3A (i3A (show (3010 : Int32) = i3 3010 from rfl) (i3M (show (60 : Int32) = i3 60 from rfl) (Eq.trans (zm_rd (Z := Z28) (ν := ν) (k := 2) (show ((0 : Nat) : Int) = 0 from rfl) (show ((0 : Nat) : Int) = 0 from rfl) (show ((3000 : Nat) : Int) = 3000 from rfl)) (congrArg i3 ((kZ28 2 (by decide) 0 0 3000).trans ((kZ26 2 (by decide) 0 0 3000).trans ((zu_ne (k' := 2) (b' := 0) (i' := 0) (j' := 3000) hZ24 (fun q => absurd q.1 (by decide))).trans ((zu_ne (k' := 2) (b' := 0) (i' := 0) (j' := 3000) hZ23 (fun q => absurd q.1 (by decide))).trans ((hF 2 0 3000 (by decide)).trans ((show frz 2 0 3000 = 0 from by decide))))))))))) (show (3 : Int32) = i3 3 from rfl)) (by omega) (by omega) (by omega)) ?_
                        obtain ⟨Z33, hZ33⟩ := zx (zu Z32 2 0 0 3013 a4)
                        have hZ33I := zI_u hZ32I hZ33 (lo := 0) (hi := 500) (by decide) rfl (by omega) ⟨by decide, by decide⟩ (Or.inl (by decide))
                        have hZ33K := zK_u hZ32K hZ33 (by decide)
                        intro μ9 e9
                        replace e9 := e9.trans (zm_wI (Z := Z32) (ν := ν) hZ33 (show ((0 : Nat) : Int) = 0 from rfl) (show ((0 : Nat) : Int) = 0 from rfl) (i3I (y := 3013) (i3A (i3A (show (3010 : Int32) = i3 3010 from rfl) (i3M (show (60 : Int32) = i3 60 from rfl) (Eq.trans (zm_rd (Z := Z28) (ν := ν) (k := 2) (show ((0 : Nat) : Int) = 0 from rfl) (show ((0 : Nat) : Int) = 0 from rfl) (show ((3000 : Nat) : Int) = 3000 from rfl)) (congrArg i3 ((kZ28 2 (by decide) 0 0 3000).trans ((kZ26 2 (by decide) 0 0 3000).trans ((zu_ne (k' := 2) (b' := 0) (i' := 0) (j' := 3000) hZ24 (fun q => absurd q.1 (by decide))).trans ((zu_ne (k' := 2) (b' := 0) (i' := 0) (j' := 3000) hZ23 (fun q => absurd q.1 (by decide))).trans ((hF 2 0 3000 (by decide)).trans ((show frz 2 0 3000 = 0 from by decide))))))))))) (show (3 : Int32) = i3 3 from rfl)) (by omega) (by omega) (by omega)) (rfl : i3 a4 = i3 a4))
                        subst e9
                        refine wz_i0 (i3O (n := 4400) (i3A (i3A (show (3010 : Int32) = i3 3010 from rfl) (i3M (show (60 : Int32) = i3 60 from rfl) (Eq.trans (zm_rd (Z := Z28) (ν := ν) (k := 2) (show ((0 : Nat) : Int) = 0 from rfl) (show ((0 : Nat) : Int) = 0 from rfl) (show ((3000 : Nat) : Int) = 3000 from rfl)) (congrArg i3 ((kZ28 2 (by decide) 0 0 3000).trans ((kZ26 2 (by decide) 0 0 3000).trans ((zu_ne (k' := 2) (b' := 0) (i' := 0) (j' := 3000) hZ24 (fun q => absurd q.1 (by decide))).trans ((zu_ne (k' := 2) (b' := 0) (i' := 0) (j' := 3000) hZ23 (fun q => absurd q.1 (by decide))).trans ((hF 2 0 3000 (by decide)).trans ((show frz 2 0 3000 = 0 from by decide))))))))))) (show (4 : Int32) = i3 4 from rfl)) (by omega) (by omega) (by omega)) ?_
                        obtain ⟨Z34, hZ34⟩ := zx (zu Z33 2 0 0 3014 a5)
                        have hZ34I := zI_u hZ33I hZ34 (lo := 0) (hi := 9) (by decide) rfl (by omega) ⟨by decide, by decide⟩ (Or.inl (by decide))
                        have hZ34K := zK_u hZ33K hZ34 (by decide)
                        intro μ9 e9
                        replace e9 := e9.trans (zm_wI (Z := Z33) (ν := ν) hZ34 (show ((0 : Nat) : Int) = 0 from rfl) (show ((0 : Nat) : Int) = 0 from rfl) (i3I (y := 3014) (i3A (i3A (show (3010 : Int32) = i3 3010 from rfl) (i3M (show (60 : Int32) = i3 60 from rfl) (Eq.trans (zm_rd (Z := Z28) (ν := ν) (k := 2) (show ((0 : Nat) : Int) = 0 from rfl) (show ((0 : Nat) : Int) = 0 from rfl) (show ((3000 : Nat) : Int) = 3000 from rfl)) (congrArg i3 ((kZ28 2 (by decide) 0 0 3000).trans ((kZ26 2 (by decide) 0 0 3000).trans ((zu_ne (k' := 2) (b' := 0) (i' := 0) (j' := 3000) hZ24 (fun q => absurd q.1 (by decide))).trans ((zu_ne (k' := 2) (b' := 0) (i' := 0) (j' := 3000) hZ23 (fun q => absurd q.1 (by decide))).trans ((hF 2 0 3000 (by decide)).trans ((show frz 2 0 3000 = 0 from by decide))))))))))) (show (4 : Int32) = i3 4 from rfl)) (by omega) (by omega) (by omega)) (rfl : i3 a5 = i3 a5))
                        subst e9
                        refine wz_i0 (i3O (n := 4400) (i3A (i3A (show (3010 : Int32) = i3 3010 from rfl) (i3M (show (60 : Int32) = i3 60 from rfl) (Eq.trans (zm_rd (Z := Z28) (ν := ν) (k := 2) (show ((0 : Nat) : Int) = 0 from rfl) (show ((0 : Nat) : Int) = 0 from rfl) (show ((3000 : Nat) : Int) = 3000 from rfl)) (congrArg i3 ((kZ28 2 (by decide) 0 0 3000).trans ((kZ26 2 (by decide) 0 0 3000).trans ((zu_ne (k' := 2) (b' := 0) (i' := 0) (j' := 3000) hZ24 (fun q => absurd q.1 (by decide))).trans ((zu_ne (k' := 2) (b' := 0) (i' := 0) (j' := 3000) hZ23 (fun q => absurd q.1 (by decide))).trans ((hF 2 0 3000 (by decide)).trans ((show frz 2 0 3000 = 0 from by decide))))))))))) (show (6 : Int32) = i3 6 from rfl)) (by omega) (by omega) (by omega)) ?_
                        obtain ⟨Z35, hZ35⟩ := zx (zu Z34 2 0 0 3016 (-1))
                        have hZ35I := zI_u hZ34I hZ35 (lo := -1) (hi := 9999) (by decide) rfl (by omega) ⟨by decide, by decide⟩ (Or.inl (by decide))
                        have hZ35K := zK_u hZ34K hZ35 (by decide)
                        intro μ9 e9
                        replace e9 := e9.trans (zm_wI (Z := Z34) (ν := ν) hZ35 (show ((0 : Nat) : Int) = 0 from rfl) (show ((0 : Nat) : Int) = 0 from rfl) (i3I (y := 3016) (i3A (i3A (show (3010 : Int32) = i3 3010 from rfl) (i3M (show (60 : Int32) = i3 60 from rfl) (Eq.trans (zm_rd (Z := Z28) (ν := ν) (k := 2) (show ((0 : Nat) : Int) = 0 from rfl) (show ((0 : Nat) : Int) = 0 from rfl) (show ((3000 : Nat) : Int) = 3000 from rfl)) (congrArg i3 ((kZ28 2 (by decide) 0 0 3000).trans ((kZ26 2 (by decide) 0 0 3000).trans ((zu_ne (k' := 2) (b' := 0) (i' := 0) (j' := 3000) hZ24 (fun q => absurd q.1 (by decide))).trans ((zu_ne (k' := 2) (b' := 0) (i' := 0) (j' := 3000) hZ23 (fun q => absurd q.1 (by decide))).trans ((hF 2 0 3000 (by decide)).trans ((show frz 2 0 3000 = 0 from by decide))))))))))) (show (6 : Int32) = i3 6 from rfl)) (by omega) (by omega) (by omega)) (show (-1 : Int32) = i3 (-1) from rfl))
                        subst e9
                        refine wz_i0 (i3O (n := 4400) (i3A (i3A (show (3010 : Int32) = i3 3010 from rfl) (i3M (show (60 : Int32) = i3 60 from rfl) (Eq.trans (zm_rd (Z := Z28) (ν := ν) (k := 2) (show ((0 : Nat) : Int) = 0 from rfl) (show ((0 : Nat) : Int) = 0 from rfl) (show ((3000 : Nat) : Int) = 3000 from rfl)) (congrArg i3 ((kZ28 2 (by decide) 0 0 3000).trans ((kZ26 2 (by decide) 0 0 3000).trans ((zu_ne (k' := 2) (b' := 0) (i' := 0) (j' := 3000) hZ24 (fun q => absurd q.1 (by decide))).trans ((zu_ne (k' := 2) (b' := 0) (i' := 0) (j' := 3000) hZ23 (fun q => absurd q.1 (by decide))).trans ((hF 2 0 3000 (by decide)).trans ((show frz 2 0 3000 = 0 from by decide))))))))))) (show (7 : Int32) = i3 7 from rfl)) (by omega) (by omega) (by omega)) ?_
                        obtain ⟨Z36, hZ36⟩ := zx (zu Z35 2 0 0 3017 (-1))
                        have hZ36I := zI_u hZ35I hZ36 (lo := -1) (hi := 47) (by decide) rfl (by omega) ⟨by decide, by decide⟩ (Or.inl (by decide))
                        have hZ36K := zK_u hZ35K hZ36 (by decide)
                        intro μ9 e9
                        replace e9 := e9.trans (zm_wI (Z := Z35) (ν := ν) hZ36 (show ((0 : Nat) : Int) = 0 from rfl) (show ((0 : Nat) : Int) = 0 from rfl) (i3I (y := 3017) (i3A (i3A (show (3010 : Int32) = i3 3010 from rfl) (i3M (show (60 : Int32) = i3 60 from rfl) (Eq.trans (zm_rd (Z := Z28) (ν := ν) (k := 2) (show ((0 : Nat) : Int) = 0 from rfl) (show ((0 : Nat) : Int) = 0 from rfl) (show ((3000 : Nat) : Int) = 3000 from rfl)) (congrArg i3 ((kZ28 2 (by decide) 0 0 3000).trans ((kZ26 2 (by decide) 0 0 3000).trans ((zu_ne (k' := 2) (b' := 0) (i' := 0) (j' := 3000) hZ24 (fun q => absurd q.1 (by decide))).trans ((zu_ne (k' := 2) (b' := 0) (i' := 0) (j' := 3000) hZ23 (fun q => absurd q.1 (by decide))).trans ((hF 2 0 3000 (by decide)).trans ((show frz 2 0 3000 = 0 from by decide))))))))))) (show (7 : Int32) = i3 7 from rfl)) (by omega) (by omega) (by omega)) (show (-1 : Int32) = i3 (-1) from rfl))
                        subst e9
                        exact zlM hP (Eq.trans (zm_rd (Z := Z28) (ν := ν) (k := 2) (show ((0 : Nat) : Int) = 0 from rfl) (show ((0 : Nat) : Int) = 0 from rfl) (show ((3000 : Nat) : Int) = 3000 from rfl)) (congrArg i3 ((kZ28 2 (by decide) 0 0 3000).trans ((kZ26 2 (by decide) 0 0 3000).trans ((zu_ne (k' := 2) (b' := 0) (i' := 0) (j' := 3000) hZ24 (fun q => absurd q.1 (by decide))).trans ((zu_ne (k' := 2) (b' := 0) (i' := 0) (j' := 3000) hZ23 (fun q => absurd q.1 (by decide))).trans ((hF 2 0 3000 (by decide)).trans ((show frz 2 0 3000 = 0 from by decide))))))))) ((zu_ne (k' := 1) (b' := 0) (i' := 0) (j' := 2) hZ36 (fun q => absurd q.1 (by decide))).trans ((zu_ne (k' := 1) (b' := 0) (i' := 0) (j' := 2) hZ35 (fun q => absurd q.1 (by decide))).trans ((zu_ne (k' := 1) (b' := 0) (i' := 0) (j' := 2) hZ34 (fun q => absurd q.1 (by decide))).trans ((zu_ne (k' := 1) (b' := 0) (i' := 0) (j' := 2) hZ33 (fun q => absurd q.1 (by decide))).trans ((zu_ne (k' := 1) (b' := 0) (i' := 0) (j' := 2) hZ32 (fun q => absurd q.1 (by decide))).trans ((zu_ne (k' := 1) (b' := 0) (i' := 0) (j' := 2) hZ31 (fun q => absurd q.1 (by decide))).trans ((zu_ne (k' := 1) (b' := 0) (i' := 0) (j' := 2) hZ30 (fun q => absurd q.1 (by decide))).trans ((zu_ne (k' := 1) (b' := 0) (i' := 0) (j' := 2) hZ29 (fun q => absurd q.1 (by decide))).trans ((wZ280).trans ((wZ260).trans (zu_at hZ24))))))))))) ⟨hZ36I, hZ36K, zN_r⟩

/- yX12_hand -/
def zg_349 (a1 : Int) (a2 : Int) : Int × Int := (if a1 < 0 then (0, 1) else (0, 1))
theorem sg_349 {Z : qz_Z} {ν : qz_N} (hZ : zI none Z) (hF : zFm Z) {a1 : Int} (ga1 : -2147483648 ≤ a1 ∧ a1 ≤ 2147483647) {a2 : Int} (ga2 : -2147483648 ≤ a2 ∧ a2 ≤ 2147483647) : ∃ (Z1 : qz_Z) (ν1 : qz_N) (v t : Int), (v, t) = zg_349 a1 a2 ∧ qf_349 [.inr (.inr (some (1, 0, 0))), .inl (i3 a1), .inl (i3 a2)] (zm Z ν) = some (zm Z1 ν1, .inl (some (.inl (i3 v)))) ∧ Z1 1 0 0 2 = t ∧ (fun Z1 ν1 => zI none Z1 ∧ zK [1] Z Z1 ∧ zN ν ν1) Z1 ν1 := by
  obtain ⟨P, hP⟩ := zx (zg_349 a1 a2)
  refine zc_M (Q := fun Z1 ν1 => zI none Z1 ∧ zK [1] Z Z1 ∧ zN ν ν1) hP (fw_349 (i3 a1) (i3 a2) _ _ ?_)
  replace hP : zE P (zg_349 a1 a2) := hP
  unfold zg_349 at hP
  refine wz_br (i3L (rfl : i3 a1 = i3 a1) (show (0 : Int32) = i3 0 from rfl) (by omega) (by omega) (by omega) (by omega)) (fun h1 => ?_) (fun h1 => ?_)
  · replace hP := zE_p hP h1
    obtain ⟨Z2, hZ2⟩ := zx (zu Z 1 0 0 2 1)
    have hZ2I := zI_u hZ hZ2 (lo := -2147483648) (hi := 2147483647) (by decide) rfl (by omega) ⟨by decide, by decide⟩ (Or.inr (by decide))
    have hZ2K : zK [1] Z Z2 := zK_u zK_r hZ2 (by decide)
    intro μ9 e9
    replace e9 := e9.trans (zm_wI (Z := Z) (ν := ν) hZ2 (show ((0 : Nat) : Int) = 0 from rfl) (show ((0 : Nat) : Int) = 0 from rfl) (show ((2 : Nat) : Int) = 2 from rfl) (show (1 : Int32) = i3 1 from rfl))
    subst e9
    exact zlM hP (show (0 : Int32) = i3 0 from rfl) (zu_at hZ2) ⟨hZ2I, hZ2K, zN_r⟩
  · replace hP := zE_n hP h1
    refine wz_i1 (Eq.trans (i3L (i3S (Eq.trans (zm_rd (Z := Z) (ν := ν) (k := 2) (show ((0 : Nat) : Int) = 0 from rfl) (show ((0 : Nat) : Int) = 0 from rfl) (show ((3000 : Nat) : Int) = 3000 from rfl)) (congrArg i3 ((hF 2 0 3000 (by decide)).trans ((show frz 2 0 3000 = 0 from by decide))))) (show (1 : Int32) = i3 1 from rfl)) (rfl : i3 a1 = i3 a1) (by omega) (by omega) (by omega) (by omega)) (decide_eq_true (by omega))) ?_
    obtain ⟨Z3, hZ3⟩ := zx (zu Z 1 0 0 2 1)
    have hZ3I := zI_u hZ hZ3 (lo := -2147483648) (hi := 2147483647) (by decide) rfl (by omega) ⟨by decide, by decide⟩ (Or.inr (by decide))
    have hZ3K : zK [1] Z Z3 := zK_u zK_r hZ3 (by decide)
    intro μ9 e9
    replace e9 := e9.trans (zm_wI (Z := Z) (ν := ν) hZ3 (show ((0 : Nat) : Int) = 0 from rfl) (show ((0 : Nat) : Int) = 0 from rfl) (show ((2 : Nat) : Int) = 2 from rfl) (show (1 : Int32) = i3 1 from rfl))
    subst e9
    exact zlM hP (show (0 : Int32) = i3 0 from rfl) (zu_at hZ3) ⟨hZ3I, hZ3K, zN_r⟩

/- yX12_bestRow -/
def zg_292 (a1 : Int) (a2 : Int) : Int × Int := (if a1 < 0 then (0, 1) else (0, 1))
theorem sg_292 {Z : qz_Z} {ν : qz_N} (hZ : zI none Z) (hF : zFm Z) {a1 : Int} (ga1 : -2147483648 ≤ a1 ∧ a1 ≤ 2147483647) {a2 : Int} (ga2 : -2147483648 ≤ a2 ∧ a2 ≤ 2147483647) : ∃ (Z1 : qz_Z) (ν1 : qz_N) (v t : Int), (v, t) = zg_292 a1 a2 ∧ qf_292 [.inr (.inr (some (1, 0, 0))), .inl (i3 a1), .inl (i3 a2)] (zm Z ν) = some (zm Z1 ν1, .inl (some (.inl (i3 v)))) ∧ Z1 1 0 0 2 = t ∧ (fun Z1 ν1 => zI none Z1 ∧ zK [1] Z Z1 ∧ zN ν ν1) Z1 ν1 := by
  obtain ⟨P, hP⟩ := zx (zg_292 a1 a2)
  refine zc_M (Q := fun Z1 ν1 => zI none Z1 ∧ zK [1] Z Z1 ∧ zN ν ν1) hP (fw_292 (i3 a1) (i3 a2) _ _ ?_)
  replace hP : zE P (zg_292 a1 a2) := hP
  unfold zg_292 at hP
  refine wz_br (i3L (rfl : i3 a1 = i3 a1) (show (0 : Int32) = i3 0 from rfl) (by omega) (by omega) (by omega) (by omega)) (fun h1 => ?_) (fun h1 => ?_)
  · replace hP := zE_p hP h1
    obtain ⟨Z2, hZ2⟩ := zx (zu Z 1 0 0 2 1)
    have hZ2I := zI_u hZ hZ2 (lo := -2147483648) (hi := 2147483647) (by decide) rfl (by omega) ⟨by decide, by decide⟩ (Or.inr (by decide))
    have hZ2K : zK [1] Z Z2 := zK_u zK_r hZ2 (by decide)
    intro μ9 e9
    replace e9 := e9.trans (zm_wI (Z := Z) (ν := ν) hZ2 (show ((0 : Nat) : Int) = 0 from rfl) (show ((0 : Nat) : Int) = 0 from rfl) (show ((2 : Nat) : Int) = 2 from rfl) (show (1 : Int32) = i3 1 from rfl))
    subst e9
    exact zlM hP (show (0 : Int32) = i3 0 from rfl) (zu_at hZ2) ⟨hZ2I, hZ2K, zN_r⟩
  · replace hP := zE_n hP h1
    refine wz_i1 (Eq.trans (i3L (i3S (Eq.trans (zm_rd (Z := Z) (ν := ν) (k := 2) (show ((0 : Nat) : Int) = 0 from rfl) (show ((0 : Nat) : Int) = 0 from rfl) (show ((3000 : Nat) : Int) = 3000 from rfl)) (congrArg i3 ((hF 2 0 3000 (by decide)).trans ((show frz 2 0 3000 = 0 from by decide))))) (show (1 : Int32) = i3 1 from rfl)) (rfl : i3 a1 = i3 a1) (by omega) (by omega) (by omega) (by omega)) (decide_eq_true (by omega))) ?_
    obtain ⟨Z3, hZ3⟩ := zx (zu Z 1 0 0 2 1)
    have hZ3I := zI_u hZ hZ3 (lo := -2147483648) (hi := 2147483647) (by decide) rfl (by omega) ⟨by decide, by decide⟩ (Or.inr (by decide))
    have hZ3K : zK [1] Z Z3 := zK_u zK_r hZ3 (by decide)
    intro μ9 e9
    replace e9 := e9.trans (zm_wI (Z := Z) (ν := ν) hZ3 (show ((0 : Nat) : Int) = 0 from rfl) (show ((0 : Nat) : Int) = 0 from rfl) (show ((2 : Nat) : Int) = 2 from rfl) (show (1 : Int32) = i3 1 from rfl))
    subst e9
    exact zlM hP (show (0 : Int32) = i3 0 from rfl) (zu_at hZ3) ⟨hZ3I, hZ3K, zN_r⟩

/- yX12_docks -/
def zg_336 (a1 : Int) : Int × Int := (if a1 < 1 then (0, 1) else (if 4 < a1 then (0, 1) else (2, 0)))
theorem sg_336 {Z : qz_Z} {ν : qz_N} (hZ : zI none Z) (hF : zFm Z) {a1 : Int} (ga1 : -2147483648 ≤ a1 ∧ a1 ≤ 2147483647) (rrec : ∀ Z, qz_rm (zm Z ν) 1 0 0 36 = some (102, 0, 0)) : ∃ (Z1 : qz_Z) (ν1 : qz_N) (v t : Int), (v, t) = zg_336 a1 ∧ qf_336 [.inr (.inr (some (1, 0, 0))), .inl (i3 a1)] (zm Z ν) = some (zm Z1 ν1, .inl (some (.inl (i3 v)))) ∧ Z1 1 0 0 2 = t ∧ (fun Z1 ν1 => zI none Z1 ∧ zK [1, 2, 101, 102] Z Z1 ∧ zN ν ν1) Z1 ν1 := by
  obtain ⟨P, hP⟩ := zx (zg_336 a1)
  refine zc_M (Q := fun Z1 ν1 => zI none Z1 ∧ zK [1, 2, 101, 102] Z Z1 ∧ zN ν ν1) hP (fw_336 (i3 a1) _ _ ?_)
  replace hP : zE P (zg_336 a1) := hP
  unfold zg_336 at hP
  refine wz_br (i3L (rfl : i3 a1 = i3 a1) (show (1 : Int32) = i3 1 from rfl) (by omega) (by omega) (by omega) (by omega)) (fun h1 => ?_) (fun h1 => ?_)
  · replace hP := zE_p hP h1
    obtain ⟨Z2, hZ2⟩ := zx (zu Z 1 0 0 2 1)
    have hZ2I := zI_u hZ hZ2 (lo := -2147483648) (hi := 2147483647) (by decide) rfl (by omega) ⟨by decide, by decide⟩ (Or.inr (by decide))
    have hZ2K : zK [1, 2, 101, 102] Z Z2 := zK_u zK_r hZ2 (by decide)
    intro μ9 e9
    replace e9 := e9.trans (zm_wI (Z := Z) (ν := ν) hZ2 (show ((0 : Nat) : Int) = 0 from rfl) (show ((0 : Nat) : Int) = 0 from rfl) (show ((2 : Nat) : Int) = 2 from rfl) (show (1 : Int32) = i3 1 from rfl))
    subst e9
    exact zlM hP (show (0 : Int32) = i3 0 from rfl) (zu_at hZ2) ⟨hZ2I, hZ2K, zN_r⟩
  · replace hP := zE_n hP h1
    refine wz_br (i3L (show (4 : Int32) = i3 4 from rfl) (rfl : i3 a1 = i3 a1) (by omega) (by omega) (by omega) (by omega)) (fun h3 => ?_) (fun h3 => ?_)
    · replace hP := zE_p hP h3
      obtain ⟨Z4, hZ4⟩ := zx (zu Z 1 0 0 2 1)
      have hZ4I := zI_u hZ hZ4 (lo := -2147483648) (hi := 2147483647) (by decide) rfl (by omega) ⟨by decide, by decide⟩ (Or.inr (by decide))
      have hZ4K : zK [1, 2, 101, 102] Z Z4 := zK_u zK_r hZ4 (by decide)
      intro μ9 e9
      replace e9 := e9.trans (zm_wI (Z := Z) (ν := ν) hZ4 (show ((0 : Nat) : Int) = 0 from rfl) (show ((0 : Nat) : Int) = 0 from rfl) (show ((2 : Nat) : Int) = 2 from rfl) (show (1 : Int32) = i3 1 from rfl))
      subst e9
      exact zlM hP (show (0 : Int32) = i3 0 from rfl) (zu_at hZ4) ⟨hZ4I, hZ4K, zN_r⟩
    · replace hP := zE_n hP h3
      obtain ⟨Z5, hZ5⟩ := zx (zu Z 1 0 0 2 0)
      have hZ5I := zI_0 hZ hZ5 (by decide) (Or.inr (by decide))
      have hZ5K : zK [1, 2, 101, 102] Z Z5 := zK_u zK_r hZ5 (by decide)
      intro μ9 e9
      replace e9 := e9.trans (zm_wI (Z := Z) (ν := ν) hZ5 (show ((0 : Nat) : Int) = 0 from rfl) (show ((0 : Nat) : Int) = 0 from rfl) (show ((2 : Nat) : Int) = 2 from rfl) (show (0 : Int32) = i3 0 from rfl))
      subst e9
      refine fw_508  _ _ ?_
      refine wz_l0 sb_508_1 (fb_508_1 (i3 0) (i3 0) _ _ _ _ (zconso rfl (zconso (zvo (show (0 : Int32) = i3 0 from rfl)) (zconso (zvo (show (0 : Int32) = i3 0 from rfl)) rfl))) ?_)
      refine wz_i1 (Eq.trans (i3Le (Eq.trans (zm_rd (Z := Z5) (ν := ν) (k := 2) (show ((0 : Nat) : Int) = 0 from rfl) (show ((0 : Nat) : Int) = 0 from rfl) (show ((3200 : Nat) : Int) = 3200 from rfl)) (congrArg i3 ((zu_ne (k' := 2) (b' := 0) (i' := 0) (j' := 3200) hZ5 (fun q => absurd q.1 (by decide))).trans ((hF 2 0 3200 (by decide)).trans ((show frz 2 0 3200 = 0 from by decide)))))) (rfl : i3 0 = i3 0) (by omega) (by omega) (by omega) (by omega)) (decide_eq_true (by omega))) ?_
      refine wz_lk0 (wz_sk0 ?_)
      refine fc_508_2 (i3 0) _ _ _ _ (zconso rfl (zconso (zvo (rfl : i3 0 = i3 0)) (zconso rfl rfl))) ?_
      refine wz_i0 (Eq.trans (i3L (rfl : i3 a1 = i3 a1) (rfl : i3 0 = i3 0) (by omega) (by omega) (by omega) (by omega)) (decide_eq_false (by omega))) ?_
      obtain ⟨Z6, hZ6⟩ := zx (zu Z5 1 0 0 2 0)
      have hZ6I := zI_0 hZ5I hZ6 (by decide) (Or.inr (by decide))
      have hZ6K := zK_u hZ5K hZ6 (by decide)
      intro μ9 e9
      replace e9 := e9.trans (zm_wI (Z := Z5) (ν := ν) hZ6 (show ((0 : Nat) : Int) = 0 from rfl) (show ((0 : Nat) : Int) = 0 from rfl) (show ((2 : Nat) : Int) = 2 from rfl) (show (0 : Int32) = i3 0 from rfl))
      subst e9
      refine wz_i0 (Eq.trans (i3NE (Eq.trans (zm_rd (Z := Z6) (ν := ν) (k := 1) (show ((0 : Nat) : Int) = 0 from rfl) (show ((0 : Nat) : Int) = 0 from rfl) (show ((35 : Nat) : Int) = 35 from rfl)) (congrArg i3 ((zu_ne (k' := 1) (b' := 0) (i' := 0) (j' := 35) hZ6 (fun q => absurd q.2.2.2 (by decide))).trans ((zu_ne (k' := 1) (b' := 0) (i' := 0) (j' := 35) hZ5 (fun q => absurd q.2.2.2 (by decide))).trans ((hF 1 0 35 (by decide)).trans ((show frz 1 0 35 = 0 from by decide))))))) (show (0 : Int32) = i3 0 from rfl) (by omega) (by omega) (by omega) (by omega)) (decide_eq_false (by omega))) ?_
      have e7 : Z6 1 0 0 34 = 0 := (zu_ne (k' := 1) (b' := 0) (i' := 0) (j' := 34) hZ6 (fun q => absurd q.2.2.2 (by decide))).trans ((zu_ne (k' := 1) (b' := 0) (i' := 0) (j' := 34) hZ5 (fun q => absurd q.2.2.2 (by decide))).trans ((hF 1 0 34 (by decide)).trans ((show frz 1 0 34 = 0 from by decide))))
      obtain ⟨Z8, hZ8, c9, hZ8I, kZ8, wZ80, wZ81, wZ82⟩ := sp_557 (ν := ν) hZ6I (a1 := (-1)) (by omega) (by omega)
      have hZ8K : zK [1, 2, 101, 102] Z Z8 := zK_t hZ6K kZ8 (by decide)
      refine wz_cV_of (zas (zcons rfl (zcons (zvi (show (-1 : Int32) = i3 (-1) from rfl)) rfl)) c9) ?_
      clear c9
      have e9 : Z8 1 0 0 37 = 0 := (wZ82).trans ((zu_ne (k' := 1) (b' := 0) (i' := 0) (j' := 37) hZ6 (fun q => absurd q.2.2.2 (by decide))).trans ((zu_ne (k' := 1) (b' := 0) (i' := 0) (j' := 37) hZ5 (fun q => absurd q.2.2.2 (by decide))).trans ((hF 1 0 37 (by decide)).trans ((show frz 1 0 37 = 0 from by decide)))))
      obtain ⟨Z10, hZ10, c9, hZ10I, kZ10, wZ100, wZ101⟩ := sp_563 (ν := ν) hZ8I (a1 := 19) (by omega) (a2 := a1) (by omega) (a3 := 0) (by omega) (a4 := 0) (by omega) (a5 := 0) (by omega) (a6 := 0) (by omega) (a7 := 0) (by omega) (by omega) rrec
      have hZ10K : zK [1, 2, 101, 102] Z Z10 := zK_t hZ8K kZ10 (by decide)
      refine wz_cV_of (zas (zcons rfl (zcons (zvi (show (19 : Int32) = i3 19 from rfl)) (zcons (zvi (rfl : i3 a1 = i3 a1)) (zcons (zvi (show (0 : Int32) = i3 0 from rfl)) (zcons (zvi (show (0 : Int32) = i3 0 from rfl)) (zcons (zvi (show (0 : Int32) = i3 0 from rfl)) (zcons (zvi (show (0 : Int32) = i3 0 from rfl)) (zcons (zvi (show (0 : Int32) = i3 0 from rfl)) rfl)))))))) c9) ?_
      clear c9
      obtain ⟨Z11, hZ11⟩ := zx (zu Z10 2 0 0 3201 a1)
      have hZ11I := zI_u hZ10I hZ11 (lo := 0) (hi := 4) (by decide) rfl (by omega) ⟨by decide, by decide⟩ (Or.inl (by decide))
      have hZ11K := zK_u hZ10K hZ11 (by decide)
      intro μ9 e9
      replace e9 := e9.trans (zm_wI (Z := Z10) (ν := ν) hZ11 (show ((0 : Nat) : Int) = 0 from rfl) (show ((0 : Nat) : Int) = 0 from rfl) (show ((3201 : Nat) : Int) = 3201 from rfl) (rfl : i3 a1 = i3 a1))
      subst e9
      exact zlM hP (Eq.trans (zm_rd (Z := Z10) (ν := ν) (k := 2) (show ((0 : Nat) : Int) = 0 from rfl) (show ((0 : Nat) : Int) = 0 from rfl) (show ((3201 : Nat) : Int) = 3201 from rfl)) (congrArg i3 ((kZ10 2 (by decide) 0 0 3201).trans ((kZ8 2 (by decide) 0 0 3201).trans ((zu_ne (k' := 2) (b' := 0) (i' := 0) (j' := 3201) hZ6 (fun q => absurd q.1 (by decide))).trans ((zu_ne (k' := 2) (b' := 0) (i' := 0) (j' := 3201) hZ5 (fun q => absurd q.1 (by decide))).trans ((hF 2 0 3201 (by decide)).trans ((show frz 2 0 3201 = 2 from by decide))))))))) ((zu_ne (k' := 1) (b' := 0) (i' := 0) (j' := 2) hZ11 (fun q => absurd q.1 (by decide))).trans ((wZ100).trans ((wZ80).trans (zu_at hZ6)))) ⟨hZ11I, hZ11K, zN_r⟩

/- yX12_send -/
def zg_499 (a1 : Int) (a2 : Int) : Int × Int := (if a1 < 0 then (0, 1) else (0, 1))
theorem sg_499 {Z : qz_Z} {ν : qz_N} (hZ : zI none Z) (hF : zFm Z) {a1 : Int} (ga1 : -2147483648 ≤ a1 ∧ a1 ≤ 2147483647) {a2 : Int} (ga2 : -2147483648 ≤ a2 ∧ a2 ≤ 2147483647) : ∃ (Z1 : qz_Z) (ν1 : qz_N) (v t : Int), (v, t) = zg_499 a1 a2 ∧ qf_499 [.inr (.inr (some (1, 0, 0))), .inl (i3 a1), .inl (i3 a2)] (zm Z ν) = some (zm Z1 ν1, .inl (some (.inl (i3 v)))) ∧ Z1 1 0 0 2 = t ∧ (fun Z1 ν1 => zI none Z1 ∧ zK [1] Z Z1 ∧ zN ν ν1) Z1 ν1 := by
  obtain ⟨P, hP⟩ := zx (zg_499 a1 a2)
  refine zc_M (Q := fun Z1 ν1 => zI none Z1 ∧ zK [1] Z Z1 ∧ zN ν ν1) hP (fw_499 (i3 a1) (i3 a2) _ _ ?_)
  replace hP : zE P (zg_499 a1 a2) := hP
  unfold zg_499 at hP
  refine wz_br (i3L (rfl : i3 a1 = i3 a1) (show (0 : Int32) = i3 0 from rfl) (by omega) (by omega) (by omega) (by omega)) (fun h1 => ?_) (fun h1 => ?_)
  · replace hP := zE_p hP h1
    obtain ⟨Z2, hZ2⟩ := zx (zu Z 1 0 0 2 1)
    have hZ2I := zI_u hZ hZ2 (lo := -2147483648) (hi := 2147483647) (by decide) rfl (by omega) ⟨by decide, by decide⟩ (Or.inr (by decide))
    have hZ2K : zK [1] Z Z2 := zK_u zK_r hZ2 (by decide)
    intro μ9 e9
    replace e9 := e9.trans (zm_wI (Z := Z) (ν := ν) hZ2 (show ((0 : Nat) : Int) = 0 from rfl) (show ((0 : Nat) : Int) = 0 from rfl) (show ((2 : Nat) : Int) = 2 from rfl) (show (1 : Int32) = i3 1 from rfl))
    subst e9
    exact zlM hP (show (0 : Int32) = i3 0 from rfl) (zu_at hZ2) ⟨hZ2I, hZ2K, zN_r⟩
  · replace hP := zE_n hP h1
    refine wz_i1 (Eq.trans (i3L (i3S (Eq.trans (zm_rd (Z := Z) (ν := ν) (k := 2) (show ((0 : Nat) : Int) = 0 from rfl) (show ((0 : Nat) : Int) = 0 from rfl) (show ((3200 : Nat) : Int) = 3200 from rfl)) (congrArg i3 ((hF 2 0 3200 (by decide)).trans ((show frz 2 0 3200 = 0 from by decide))))) (show (1 : Int32) = i3 1 from rfl)) (rfl : i3 a1 = i3 a1) (by omega) (by omega) (by omega) (by omega)) (decide_eq_true (by omega))) ?_
    obtain ⟨Z3, hZ3⟩ := zx (zu Z 1 0 0 2 1)
    have hZ3I := zI_u hZ hZ3 (lo := -2147483648) (hi := 2147483647) (by decide) rfl (by omega) ⟨by decide, by decide⟩ (Or.inr (by decide))
    have hZ3K : zK [1] Z Z3 := zK_u zK_r hZ3 (by decide)
    intro μ9 e9
    replace e9 := e9.trans (zm_wI (Z := Z) (ν := ν) hZ3 (show ((0 : Nat) : Int) = 0 from rfl) (show ((0 : Nat) : Int) = 0 from rfl) (show ((2 : Nat) : Int) = 2 from rfl) (show (1 : Int32) = i3 1 from rfl))
    subst e9
    exact zlM hP (show (0 : Int32) = i3 0 from rfl) (zu_at hZ3) ⟨hZ3I, hZ3K, zN_r⟩

/- yX12_trip -/
def zg_538 (a1 : Int) (a2 : Int) : Int × Int := (if a1 < 0 then (0, 1) else (0, 1))
theorem sg_538 {Z : qz_Z} {ν : qz_N} (hZ : zI none Z) (hF : zFm Z) {a1 : Int} (ga1 : -2147483648 ≤ a1 ∧ a1 ≤ 2147483647) {a2 : Int} (ga2 : -2147483648 ≤ a2 ∧ a2 ≤ 2147483647) : ∃ (Z1 : qz_Z) (ν1 : qz_N) (v t : Int), (v, t) = zg_538 a1 a2 ∧ qf_538 [.inr (.inr (some (1, 0, 0))), .inl (i3 a1), .inl (i3 a2)] (zm Z ν) = some (zm Z1 ν1, .inl (some (.inl (i3 v)))) ∧ Z1 1 0 0 2 = t ∧ (fun Z1 ν1 => zI none Z1 ∧ zK [1] Z Z1 ∧ zN ν ν1) Z1 ν1 := by
  obtain ⟨P, hP⟩ := zx (zg_538 a1 a2)
  refine zc_M (Q := fun Z1 ν1 => zI none Z1 ∧ zK [1] Z Z1 ∧ zN ν ν1) hP (fw_538 (i3 a1) (i3 a2) _ _ ?_)
  replace hP : zE P (zg_538 a1 a2) := hP
  unfold zg_538 at hP
  refine wz_br (i3L (rfl : i3 a1 = i3 a1) (show (0 : Int32) = i3 0 from rfl) (by omega) (by omega) (by omega) (by omega)) (fun h1 => ?_) (fun h1 => ?_)
  · replace hP := zE_p hP h1
    obtain ⟨Z2, hZ2⟩ := zx (zu Z 1 0 0 2 1)
    have hZ2I := zI_u hZ hZ2 (lo := -2147483648) (hi := 2147483647) (by decide) rfl (by omega) ⟨by decide, by decide⟩ (Or.inr (by decide))
    have hZ2K : zK [1] Z Z2 := zK_u zK_r hZ2 (by decide)
    intro μ9 e9
    replace e9 := e9.trans (zm_wI (Z := Z) (ν := ν) hZ2 (show ((0 : Nat) : Int) = 0 from rfl) (show ((0 : Nat) : Int) = 0 from rfl) (show ((2 : Nat) : Int) = 2 from rfl) (show (1 : Int32) = i3 1 from rfl))
    subst e9
    exact zlM hP (show (0 : Int32) = i3 0 from rfl) (zu_at hZ2) ⟨hZ2I, hZ2K, zN_r⟩
  · replace hP := zE_n hP h1
    refine wz_i1 (Eq.trans (i3L (i3S (Eq.trans (zm_rd (Z := Z) (ν := ν) (k := 2) (show ((0 : Nat) : Int) = 0 from rfl) (show ((0 : Nat) : Int) = 0 from rfl) (show ((3200 : Nat) : Int) = 3200 from rfl)) (congrArg i3 ((hF 2 0 3200 (by decide)).trans ((show frz 2 0 3200 = 0 from by decide))))) (show (1 : Int32) = i3 1 from rfl)) (rfl : i3 a1 = i3 a1) (by omega) (by omega) (by omega) (by omega)) (decide_eq_true (by omega))) ?_
    obtain ⟨Z3, hZ3⟩ := zx (zu Z 1 0 0 2 1)
    have hZ3I := zI_u hZ hZ3 (lo := -2147483648) (hi := 2147483647) (by decide) rfl (by omega) ⟨by decide, by decide⟩ (Or.inr (by decide))
    have hZ3K : zK [1] Z Z3 := zK_u zK_r hZ3 (by decide)
    intro μ9 e9
    replace e9 := e9.trans (zm_wI (Z := Z) (ν := ν) hZ3 (show ((0 : Nat) : Int) = 0 from rfl) (show ((0 : Nat) : Int) = 0 from rfl) (show ((2 : Nat) : Int) = 2 from rfl) (show (1 : Int32) = i3 1 from rfl))
    subst e9
    exact zlM hP (show (0 : Int32) = i3 0 from rfl) (zu_at hZ3) ⟨hZ3I, hZ3K, zN_r⟩

/- yX12_round -/
def zg_496 (a1 : Int) (a2 : Int) (a3 : Int) : Int × Int := (if a1 < 0 then (0, 1) else (0, 1))
theorem sg_496 {Z : qz_Z} {ν : qz_N} (hZ : zI none Z) (hF : zFm Z) {a1 : Int} (ga1 : -2147483648 ≤ a1 ∧ a1 ≤ 2147483647) {a2 : Int} (ga2 : -2147483648 ≤ a2 ∧ a2 ≤ 2147483647) {a3 : Int} (ga3 : -2147483648 ≤ a3 ∧ a3 ≤ 2147483647) : ∃ (Z1 : qz_Z) (ν1 : qz_N) (v t : Int), (v, t) = zg_496 a1 a2 a3 ∧ qf_496 [.inr (.inr (some (1, 0, 0))), .inl (i3 a1), .inl (i3 a2), .inl (i3 a3)] (zm Z ν) = some (zm Z1 ν1, .inl (some (.inl (i3 v)))) ∧ Z1 1 0 0 2 = t ∧ (fun Z1 ν1 => zI none Z1 ∧ zK [1] Z Z1 ∧ zN ν ν1) Z1 ν1 := by
  obtain ⟨P, hP⟩ := zx (zg_496 a1 a2 a3)
  refine zc_M (Q := fun Z1 ν1 => zI none Z1 ∧ zK [1] Z Z1 ∧ zN ν ν1) hP (fw_496 (i3 a1) (i3 a2) (i3 a3) _ _ ?_)
  replace hP : zE P (zg_496 a1 a2 a3) := hP
  unfold zg_496 at hP
  refine wz_br (i3L (rfl : i3 a1 = i3 a1) (show (0 : Int32) = i3 0 from rfl) (by omega) (by omega) (by omega) (by omega)) (fun h1 => ?_) (fun h1 => ?_)
  · replace hP := zE_p hP h1
    obtain ⟨Z2, hZ2⟩ := zx (zu Z 1 0 0 2 1)
    have hZ2I := zI_u hZ hZ2 (lo := -2147483648) (hi := 2147483647) (by decide) rfl (by omega) ⟨by decide, by decide⟩ (Or.inr (by decide))
    have hZ2K : zK [1] Z Z2 := zK_u zK_r hZ2 (by decide)
    intro μ9 e9
    replace e9 := e9.trans (zm_wI (Z := Z) (ν := ν) hZ2 (show ((0 : Nat) : Int) = 0 from rfl) (show ((0 : Nat) : Int) = 0 from rfl) (show ((2 : Nat) : Int) = 2 from rfl) (show (1 : Int32) = i3 1 from rfl))
    subst e9
    exact zlM hP (show (0 : Int32) = i3 0 from rfl) (zu_at hZ2) ⟨hZ2I, hZ2K, zN_r⟩
  · replace hP := zE_n hP h1
    refine wz_i1 (Eq.trans (i3L (i3S (Eq.trans (zm_rd (Z := Z) (ν := ν) (k := 2) (show ((0 : Nat) : Int) = 0 from rfl) (show ((0 : Nat) : Int) = 0 from rfl) (show ((3500 : Nat) : Int) = 3500 from rfl)) (congrArg i3 ((hF 2 0 3500 (by decide)).trans ((show frz 2 0 3500 = 0 from by decide))))) (show (1 : Int32) = i3 1 from rfl)) (rfl : i3 a1 = i3 a1) (by omega) (by omega) (by omega) (by omega)) (decide_eq_true (by omega))) ?_
    obtain ⟨Z3, hZ3⟩ := zx (zu Z 1 0 0 2 1)
    have hZ3I := zI_u hZ hZ3 (lo := -2147483648) (hi := 2147483647) (by decide) rfl (by omega) ⟨by decide, by decide⟩ (Or.inr (by decide))
    have hZ3K : zK [1] Z Z3 := zK_u zK_r hZ3 (by decide)
    intro μ9 e9
    replace e9 := e9.trans (zm_wI (Z := Z) (ν := ν) hZ3 (show ((0 : Nat) : Int) = 0 from rfl) (show ((0 : Nat) : Int) = 0 from rfl) (show ((2 : Nat) : Int) = 2 from rfl) (show (1 : Int32) = i3 1 from rfl))
    subst e9
    exact zlM hP (show (0 : Int32) = i3 0 from rfl) (zu_at hZ3) ⟨hZ3I, hZ3K, zN_r⟩

/- yX12_worst -/
def zg_547 (a1 : Int) (a2 : Int) : Int × Int := (if a1 < 0 then (0, 1) else (0, 1))
theorem sg_547 {Z : qz_Z} {ν : qz_N} (hZ : zI none Z) (hF : zFm Z) {a1 : Int} (ga1 : -2147483648 ≤ a1 ∧ a1 ≤ 2147483647) {a2 : Int} (ga2 : -2147483648 ≤ a2 ∧ a2 ≤ 2147483647) : ∃ (Z1 : qz_Z) (ν1 : qz_N) (v t : Int), (v, t) = zg_547 a1 a2 ∧ qf_547 [.inr (.inr (some (1, 0, 0))), .inl (i3 a1), .inl (i3 a2)] (zm Z ν) = some (zm Z1 ν1, .inl (some (.inl (i3 v)))) ∧ Z1 1 0 0 2 = t ∧ (fun Z1 ν1 => zI none Z1 ∧ zK [1] Z Z1 ∧ zN ν ν1) Z1 ν1 := by
  obtain ⟨P, hP⟩ := zx (zg_547 a1 a2)
  refine zc_M (Q := fun Z1 ν1 => zI none Z1 ∧ zK [1] Z Z1 ∧ zN ν ν1) hP (fw_547 (i3 a1) (i3 a2) _ _ ?_)
  replace hP : zE P (zg_547 a1 a2) := hP
  unfold zg_547 at hP
  refine wz_br (i3L (rfl : i3 a1 = i3 a1) (show (0 : Int32) = i3 0 from rfl) (by omega) (by omega) (by omega) (by omega)) (fun h1 => ?_) (fun h1 => ?_)
  · replace hP := zE_p hP h1
    obtain ⟨Z2, hZ2⟩ := zx (zu Z 1 0 0 2 1)
    have hZ2I := zI_u hZ hZ2 (lo := -2147483648) (hi := 2147483647) (by decide) rfl (by omega) ⟨by decide, by decide⟩ (Or.inr (by decide))
    have hZ2K : zK [1] Z Z2 := zK_u zK_r hZ2 (by decide)
    intro μ9 e9
    replace e9 := e9.trans (zm_wI (Z := Z) (ν := ν) hZ2 (show ((0 : Nat) : Int) = 0 from rfl) (show ((0 : Nat) : Int) = 0 from rfl) (show ((2 : Nat) : Int) = 2 from rfl) (show (1 : Int32) = i3 1 from rfl))
    subst e9
    exact zlM hP (show (0 : Int32) = i3 0 from rfl) (zu_at hZ2) ⟨hZ2I, hZ2K, zN_r⟩
  · replace hP := zE_n hP h1
    refine wz_i1 (Eq.trans (i3L (i3S (Eq.trans (zm_rd (Z := Z) (ν := ν) (k := 2) (show ((0 : Nat) : Int) = 0 from rfl) (show ((0 : Nat) : Int) = 0 from rfl) (show ((3500 : Nat) : Int) = 3500 from rfl)) (congrArg i3 ((hF 2 0 3500 (by decide)).trans ((show frz 2 0 3500 = 0 from by decide))))) (show (1 : Int32) = i3 1 from rfl)) (rfl : i3 a1 = i3 a1) (by omega) (by omega) (by omega) (by omega)) (decide_eq_true (by omega))) ?_
    obtain ⟨Z3, hZ3⟩ := zx (zu Z 1 0 0 2 1)
    have hZ3I := zI_u hZ hZ3 (lo := -2147483648) (hi := 2147483647) (by decide) rfl (by omega) ⟨by decide, by decide⟩ (Or.inr (by decide))
    have hZ3K : zK [1] Z Z3 := zK_u zK_r hZ3 (by decide)
    intro μ9 e9
    replace e9 := e9.trans (zm_wI (Z := Z) (ν := ν) hZ3 (show ((0 : Nat) : Int) = 0 from rfl) (show ((0 : Nat) : Int) = 0 from rfl) (show ((2 : Nat) : Int) = 2 from rfl) (show (1 : Int32) = i3 1 from rfl))
    subst e9
    exact zlM hP (show (0 : Int32) = i3 0 from rfl) (zu_at hZ3) ⟨hZ3I, hZ3K, zN_r⟩

/- yX12_entry -/
def zg_339 (a1 : Int) (a2 : Int) : Int × Int := (if a1 < 0 then (0, 1) else (0, 1))
theorem sg_339 {Z : qz_Z} {ν : qz_N} (hZ : zI none Z) (hF : zFm Z) {a1 : Int} (ga1 : -2147483648 ≤ a1 ∧ a1 ≤ 2147483647) {a2 : Int} (ga2 : -2147483648 ≤ a2 ∧ a2 ≤ 2147483647) : ∃ (Z1 : qz_Z) (ν1 : qz_N) (v t : Int), (v, t) = zg_339 a1 a2 ∧ qf_339 [.inr (.inr (some (1, 0, 0))), .inl (i3 a1), .inl (i3 a2)] (zm Z ν) = some (zm Z1 ν1, .inl (some (.inl (i3 v)))) ∧ Z1 1 0 0 2 = t ∧ (fun Z1 ν1 => zI none Z1 ∧ zK [1] Z Z1 ∧ zN ν ν1) Z1 ν1 := by
  obtain ⟨P, hP⟩ := zx (zg_339 a1 a2)
  refine zc_M (Q := fun Z1 ν1 => zI none Z1 ∧ zK [1] Z Z1 ∧ zN ν ν1) hP (fw_339 (i3 a1) (i3 a2) _ _ ?_)
  replace hP : zE P (zg_339 a1 a2) := hP
  unfold zg_339 at hP
  refine wz_i0 (Eq.trans (i3Le (show (60 : Int32) = i3 60 from rfl) (Eq.trans (zm_rd (Z := Z) (ν := ν) (k := 2) (show ((0 : Nat) : Int) = 0 from rfl) (show ((0 : Nat) : Int) = 0 from rfl) (show ((3814 : Nat) : Int) = 3814 from rfl)) (congrArg i3 ((hF 2 0 3814 (by decide)).trans ((show frz 2 0 3814 = 0 from by decide))))) (by omega) (by omega) (by omega) (by omega)) (decide_eq_false (by omega))) ?_
  refine wz_br (i3L (rfl : i3 a1 = i3 a1) (show (0 : Int32) = i3 0 from rfl) (by omega) (by omega) (by omega) (by omega)) (fun h1 => ?_) (fun h1 => ?_)
  · replace hP := zE_p hP h1
    obtain ⟨Z2, hZ2⟩ := zx (zu Z 1 0 0 2 1)
    have hZ2I := zI_u hZ hZ2 (lo := -2147483648) (hi := 2147483647) (by decide) rfl (by omega) ⟨by decide, by decide⟩ (Or.inr (by decide))
    have hZ2K : zK [1] Z Z2 := zK_u zK_r hZ2 (by decide)
    intro μ9 e9
    replace e9 := e9.trans (zm_wI (Z := Z) (ν := ν) hZ2 (show ((0 : Nat) : Int) = 0 from rfl) (show ((0 : Nat) : Int) = 0 from rfl) (show ((2 : Nat) : Int) = 2 from rfl) (show (1 : Int32) = i3 1 from rfl))
    subst e9
    exact zlM hP (show (0 : Int32) = i3 0 from rfl) (zu_at hZ2) ⟨hZ2I, hZ2K, zN_r⟩
  · replace hP := zE_n hP h1
    refine wz_i1 (Eq.trans (i3L (i3S (Eq.trans (zm_rd (Z := Z) (ν := ν) (k := 2) (show ((0 : Nat) : Int) = 0 from rfl) (show ((0 : Nat) : Int) = 0 from rfl) (show ((3814 : Nat) : Int) = 3814 from rfl)) (congrArg i3 ((hF 2 0 3814 (by decide)).trans ((show frz 2 0 3814 = 0 from by decide))))) (show (1 : Int32) = i3 1 from rfl)) (rfl : i3 a1 = i3 a1) (by omega) (by omega) (by omega) (by omega)) (decide_eq_true (by omega))) ?_
    obtain ⟨Z3, hZ3⟩ := zx (zu Z 1 0 0 2 1)
    have hZ3I := zI_u hZ hZ3 (lo := -2147483648) (hi := 2147483647) (by decide) rfl (by omega) ⟨by decide, by decide⟩ (Or.inr (by decide))
    have hZ3K : zK [1] Z Z3 := zK_u zK_r hZ3 (by decide)
    intro μ9 e9
    replace e9 := e9.trans (zm_wI (Z := Z) (ν := ν) hZ3 (show ((0 : Nat) : Int) = 0 from rfl) (show ((0 : Nat) : Int) = 0 from rfl) (show ((2 : Nat) : Int) = 2 from rfl) (show (1 : Int32) = i3 1 from rfl))
    subst e9
    exact zlM hP (show (0 : Int32) = i3 0 from rfl) (zu_at hZ3) ⟨hZ3I, hZ3K, zN_r⟩

/- yX12_quarrelled -/
def zg_458 (a1 : Int) (a2 : Int) : Int × Int := (if a1 < 0 then (0, 1) else (0, 1))
theorem sg_458 {Z : qz_Z} {ν : qz_N} (hZ : zI none Z) (hF : zFm Z) {a1 : Int} (ga1 : -2147483648 ≤ a1 ∧ a1 ≤ 2147483647) {a2 : Int} (ga2 : -2147483648 ≤ a2 ∧ a2 ≤ 2147483647) : ∃ (Z1 : qz_Z) (ν1 : qz_N) (v t : Int), (v, t) = zg_458 a1 a2 ∧ qf_458 [.inr (.inr (some (1, 0, 0))), .inl (i3 a1), .inl (i3 a2)] (zm Z ν) = some (zm Z1 ν1, .inl (some (.inl (i3 v)))) ∧ Z1 1 0 0 2 = t ∧ (fun Z1 ν1 => zI none Z1 ∧ zK [1] Z Z1 ∧ zN ν ν1) Z1 ν1 := by
  obtain ⟨P, hP⟩ := zx (zg_458 a1 a2)
  refine zc_M (Q := fun Z1 ν1 => zI none Z1 ∧ zK [1] Z Z1 ∧ zN ν ν1) hP (fw_458 (i3 a1) (i3 a2) _ _ ?_)
  replace hP : zE P (zg_458 a1 a2) := hP
  unfold zg_458 at hP
  refine wz_br (i3L (rfl : i3 a1 = i3 a1) (show (0 : Int32) = i3 0 from rfl) (by omega) (by omega) (by omega) (by omega)) (fun h1 => ?_) (fun h1 => ?_)
  · replace hP := zE_p hP h1
    obtain ⟨Z2, hZ2⟩ := zx (zu Z 1 0 0 2 1)
    have hZ2I := zI_u hZ hZ2 (lo := -2147483648) (hi := 2147483647) (by decide) rfl (by omega) ⟨by decide, by decide⟩ (Or.inr (by decide))
    have hZ2K : zK [1] Z Z2 := zK_u zK_r hZ2 (by decide)
    intro μ9 e9
    replace e9 := e9.trans (zm_wI (Z := Z) (ν := ν) hZ2 (show ((0 : Nat) : Int) = 0 from rfl) (show ((0 : Nat) : Int) = 0 from rfl) (show ((2 : Nat) : Int) = 2 from rfl) (show (1 : Int32) = i3 1 from rfl))
    subst e9
    exact zlM hP (show (0 : Int32) = i3 0 from rfl) (zu_at hZ2) ⟨hZ2I, hZ2K, zN_r⟩
  · replace hP := zE_n hP h1
    refine wz_i1 (Eq.trans (i3L (i3S (Eq.trans (zm_rd (Z := Z) (ν := ν) (k := 2) (show ((0 : Nat) : Int) = 0 from rfl) (show ((0 : Nat) : Int) = 0 from rfl) (show ((3815 : Nat) : Int) = 3815 from rfl)) (congrArg i3 ((hF 2 0 3815 (by decide)).trans ((show frz 2 0 3815 = 0 from by decide))))) (show (1 : Int32) = i3 1 from rfl)) (rfl : i3 a1 = i3 a1) (by omega) (by omega) (by omega) (by omega)) (decide_eq_true (by omega))) ?_
    obtain ⟨Z3, hZ3⟩ := zx (zu Z 1 0 0 2 1)
    have hZ3I := zI_u hZ hZ3 (lo := -2147483648) (hi := 2147483647) (by decide) rfl (by omega) ⟨by decide, by decide⟩ (Or.inr (by decide))
    have hZ3K : zK [1] Z Z3 := zK_u zK_r hZ3 (by decide)
    intro μ9 e9
    replace e9 := e9.trans (zm_wI (Z := Z) (ν := ν) hZ3 (show ((0 : Nat) : Int) = 0 from rfl) (show ((0 : Nat) : Int) = 0 from rfl) (show ((2 : Nat) : Int) = 2 from rfl) (show (1 : Int32) = i3 1 from rfl))
    subst e9
    exact zlM hP (show (0 : Int32) = i3 0 from rfl) (zu_at hZ3) ⟨hZ3I, hZ3K, zN_r⟩

/- yX12_tasks -/
def zg_535 : Int × Int := (((-2) - 0), 0)
theorem sg_535 {Z : qz_Z} {ν : qz_N} (hZ : zI none Z) (hF : zFm Z) : ∃ (Z1 : qz_Z) (ν1 : qz_N) (v t : Int), (v, t) = zg_535 ∧ qf_535 [.inr (.inr (some (1, 0, 0)))] (zm Z ν) = some (zm Z1 ν1, .inl (some (.inl (i3 v)))) ∧ Z1 1 0 0 2 = t ∧ (fun Z1 ν1 => zI none Z1 ∧ zK [1] Z Z1 ∧ zN ν ν1) Z1 ν1 := by
  obtain ⟨P, hP⟩ := zx (zg_535)
  refine zc_M (Q := fun Z1 ν1 => zI none Z1 ∧ zK [1] Z Z1 ∧ zN ν ν1) hP (fw_535  _ _ ?_)
  replace hP : zE P (zg_535) := hP
  unfold zg_535 at hP
  obtain ⟨Z1, hZ1⟩ := zx (zu Z 1 0 0 2 0)
  have hZ1I := zI_0 hZ hZ1 (by decide) (Or.inr (by decide))
  have hZ1K : zK [1] Z Z1 := zK_u zK_r hZ1 (by decide)
  intro μ9 e9
  replace e9 := e9.trans (zm_wI (Z := Z) (ν := ν) hZ1 (show ((0 : Nat) : Int) = 0 from rfl) (show ((0 : Nat) : Int) = 0 from rfl) (show ((2 : Nat) : Int) = 2 from rfl) (show (0 : Int32) = i3 0 from rfl))
  subst e9
  refine fw_552 _ _ _ ?_
  obtain ⟨Z2, hZ2⟩ := zx (zu Z1 1 0 0 50 0)
  have hZ2I := zI_0 hZ1I hZ2 (by decide) (Or.inr (by decide))
  have hZ2K := zK_u hZ1K hZ2 (by decide)
  intro μ9 e9
  replace e9 := e9.trans (zm_wI (Z := Z1) (ν := ν) hZ2 (show ((0 : Nat) : Int) = 0 from rfl) (show ((0 : Nat) : Int) = 0 from rfl) (show ((50 : Nat) : Int) = 50 from rfl) (show (0 : Int32) = i3 0 from rfl))
  subst e9
  refine wz_i0 (Eq.trans (i3NE (Eq.trans (zm_rd (Z := Z1) (ν := ν) (k := 1) (show ((0 : Nat) : Int) = 0 from rfl) (show ((0 : Nat) : Int) = 0 from rfl) (show ((49 : Nat) : Int) = 49 from rfl)) (congrArg i3 ((zu_ne (k' := 1) (b' := 0) (i' := 0) (j' := 49) hZ1 (fun q => absurd q.2.2.2 (by decide))).trans ((hF 1 0 49 (by decide)).trans ((show frz 1 0 49 = 0 from by decide)))))) (show (0 : Int32) = i3 0 from rfl) (by omega) (by omega) (by omega) (by omega)) (decide_eq_false (by omega))) ?_
  obtain ⟨Z3, hZ3⟩ := zx (zu Z2 1 0 0 49 0)
  have hZ3I := zI_0 hZ2I hZ3 (by decide) (Or.inr (by decide))
  have hZ3K := zK_u hZ2K hZ3 (by decide)
  intro μ9 e9
  replace e9 := e9.trans (zm_wI (Z := Z2) (ν := ν) hZ3 (show ((0 : Nat) : Int) = 0 from rfl) (show ((0 : Nat) : Int) = 0 from rfl) (show ((49 : Nat) : Int) = 49 from rfl) (show (0 : Int32) = i3 0 from rfl))
  subst e9
  refine wz_i0 (Eq.trans (i3E (show (0 : Int32) = i3 0 from rfl) (show (-1 : Int32) = i3 (-1) from rfl) (by omega) (by omega) (by omega) (by omega)) (decide_eq_false (by omega))) ?_
  exact zlM hP (i3S (show (-2 : Int32) = i3 (-2) from rfl) (show (0 : Int32) = i3 0 from rfl)) ((zu_ne (k' := 1) (b' := 0) (i' := 0) (j' := 2) hZ3 (fun q => absurd q.2.2.2 (by decide))).trans ((zu_ne (k' := 1) (b' := 0) (i' := 0) (j' := 2) hZ2 (fun q => absurd q.2.2.2 (by decide))).trans (zu_at hZ1))) ⟨hZ3I, hZ3K, zN_r⟩

/- yX12_sum -/
def zg_504 (a1 : Int) : Int × Int := (if a1 < 0 then (0, 1) else (if 23 < a1 then (0, 1) else (if a1 < 5 then (if a1 = 0 then (0, 0) else (if a1 = 1 then (0, 0) else (if a1 = 2 then (0, 0) else (if a1 = 3 then (0, 0) else (0, 0))))) else (if 9 < a1 then (if a1 < 13 then (if a1 = 10 then (0, 0) else (if a1 = 11 then (0, 0) else (0, 0))) else (if 16 < a1 then (if a1 < 0 ∨ 22 < a1 then (0, 0) else (if a1 = 17 then (0, 0) else (if a1 = 18 then (0, 0) else (if a1 = 19 then (0, 0) else (if a1 = 20 then (0, 0) else (if a1 = 21 then (0, 0) else (0, 0))))))) else (0, 0))) else (0, 0)))))
theorem sg_504 {Z : qz_Z} {ν : qz_N} (hZ : zI none Z) (hF : zFm Z) {a1 : Int} (ga1 : -2147483648 ≤ a1 ∧ a1 ≤ 2147483647) : ∃ (Z1 : qz_Z) (ν1 : qz_N) (v t : Int), (v, t) = zg_504 a1 ∧ qf_504 [.inr (.inr (some (1, 0, 0))), .inl (i3 a1)] (zm Z ν) = some (zm Z1 ν1, .inl (some (.inl (i3 v)))) ∧ Z1 1 0 0 2 = t ∧ (fun Z1 ν1 => zI none Z1 ∧ zK [1] Z Z1 ∧ zN ν ν1) Z1 ν1 := by
  obtain ⟨P, hP⟩ := zx (zg_504 a1)
  refine zc_M (Q := fun Z1 ν1 => zI none Z1 ∧ zK [1] Z Z1 ∧ zN ν ν1) hP (fw_504 (i3 a1) _ _ ?_)
  replace hP : zE P (zg_504 a1) := hP
  unfold zg_504 at hP
  refine wz_br (i3L (rfl : i3 a1 = i3 a1) (show (0 : Int32) = i3 0 from rfl) (by omega) (by omega) (by omega) (by omega)) (fun h1 => ?_) (fun h1 => ?_)
  · replace hP := zE_p hP h1
    obtain ⟨Z2, hZ2⟩ := zx (zu Z 1 0 0 2 1)
    have hZ2I := zI_u hZ hZ2 (lo := -2147483648) (hi := 2147483647) (by decide) rfl (by omega) ⟨by decide, by decide⟩ (Or.inr (by decide))
    have hZ2K : zK [1] Z Z2 := zK_u zK_r hZ2 (by decide)
    intro μ9 e9
    replace e9 := e9.trans (zm_wI (Z := Z) (ν := ν) hZ2 (show ((0 : Nat) : Int) = 0 from rfl) (show ((0 : Nat) : Int) = 0 from rfl) (show ((2 : Nat) : Int) = 2 from rfl) (show (1 : Int32) = i3 1 from rfl))
    subst e9
    exact zlM hP (show (0 : Int32) = i3 0 from rfl) (zu_at hZ2) ⟨hZ2I, hZ2K, zN_r⟩
  · replace hP := zE_n hP h1
    refine wz_br (i3L (show (23 : Int32) = i3 23 from rfl) (rfl : i3 a1 = i3 a1) (by omega) (by omega) (by omega) (by omega)) (fun h3 => ?_) (fun h3 => ?_)
    · replace hP := zE_p hP h3
      obtain ⟨Z4, hZ4⟩ := zx (zu Z 1 0 0 2 1)
      have hZ4I := zI_u hZ hZ4 (lo := -2147483648) (hi := 2147483647) (by decide) rfl (by omega) ⟨by decide, by decide⟩ (Or.inr (by decide))
      have hZ4K : zK [1] Z Z4 := zK_u zK_r hZ4 (by decide)
      intro μ9 e9
      replace e9 := e9.trans (zm_wI (Z := Z) (ν := ν) hZ4 (show ((0 : Nat) : Int) = 0 from rfl) (show ((0 : Nat) : Int) = 0 from rfl) (show ((2 : Nat) : Int) = 2 from rfl) (show (1 : Int32) = i3 1 from rfl))
      subst e9
      exact zlM hP (show (0 : Int32) = i3 0 from rfl) (zu_at hZ4) ⟨hZ4I, hZ4K, zN_r⟩
    · replace hP := zE_n hP h3
      obtain ⟨Z5, hZ5⟩ := zx (zu Z 1 0 0 2 0)
      have hZ5I := zI_0 hZ hZ5 (by decide) (Or.inr (by decide))
      have hZ5K : zK [1] Z Z5 := zK_u zK_r hZ5 (by decide)
      intro μ9 e9
      replace e9 := e9.trans (zm_wI (Z := Z) (ν := ν) hZ5 (show ((0 : Nat) : Int) = 0 from rfl) (show ((0 : Nat) : Int) = 0 from rfl) (show ((2 : Nat) : Int) = 2 from rfl) (show (0 : Int32) = i3 0 from rfl))
      subst e9
      refine wz_br (i3L (rfl : i3 a1 = i3 a1) (show (5 : Int32) = i3 5 from rfl) (by omega) (by omega) (by omega) (by omega)) (fun h6 => ?_) (fun h6 => ?_)
      · replace hP := zE_p hP h6
        refine wz_i1 (Eq.trans (i3L (rfl : i3 a1 = i3 a1) (show (13 : Int32) = i3 13 from rfl) (by omega) (by omega) (by omega) (by omega)) (decide_eq_true (by omega))) ?_
        refine wz_i0 (Eq.trans (i3To (rfl : i3 a1 = i3 a1) (by omega) (by omega)) (decide_eq_false (by omega))) ?_
        refine wz_br (i3T (rfl : i3 a1 = i3 a1) (by omega) (by omega)) (fun h7 => ?_) (fun h7 => ?_)
        · replace hP := zE_p hP h7
          exact zlM hP (Eq.trans (zm_rd (Z := Z5) (ν := ν) (k := 2) (show ((0 : Nat) : Int) = 0 from rfl) (show ((0 : Nat) : Int) = 0 from rfl) (show ((0 : Nat) : Int) = 0 from rfl)) (congrArg i3 ((zu_ne (k' := 2) (b' := 0) (i' := 0) (j' := 0) hZ5 (fun q => absurd q.1 (by decide))).trans ((hF 2 0 0 (by decide)).trans ((show frz 2 0 0 = 0 from by decide)))))) (zu_at hZ5) ⟨hZ5I, hZ5K, zN_r⟩
        · replace hP := zE_n hP h7
          refine wz_br (i3T (rfl : i3 a1 = i3 a1) (by omega) (by omega)) (fun h8 => ?_) (fun h8 => ?_)
          · replace hP := zE_p hP h8
            exact zlM hP (Eq.trans (zm_rd (Z := Z5) (ν := ν) (k := 2) (show ((0 : Nat) : Int) = 0 from rfl) (show ((0 : Nat) : Int) = 0 from rfl) (show ((100 : Nat) : Int) = 100 from rfl)) (congrArg i3 ((zu_ne (k' := 2) (b' := 0) (i' := 0) (j' := 100) hZ5 (fun q => absurd q.1 (by decide))).trans ((hF 2 0 100 (by decide)).trans ((show frz 2 0 100 = 0 from by decide)))))) (zu_at hZ5) ⟨hZ5I, hZ5K, zN_r⟩
          · replace hP := zE_n hP h8
            refine wz_br (i3T (rfl : i3 a1 = i3 a1) (by omega) (by omega)) (fun h9 => ?_) (fun h9 => ?_)
            · replace hP := zE_p hP h9
              exact zlM hP (Eq.trans (zm_rd (Z := Z5) (ν := ν) (k := 2) (show ((0 : Nat) : Int) = 0 from rfl) (show ((0 : Nat) : Int) = 0 from rfl) (show ((101 : Nat) : Int) = 101 from rfl)) (congrArg i3 ((zu_ne (k' := 2) (b' := 0) (i' := 0) (j' := 101) hZ5 (fun q => absurd q.1 (by decide))).trans ((hF 2 0 101 (by decide)).trans ((show frz 2 0 101 = 0 from by decide)))))) (zu_at hZ5) ⟨hZ5I, hZ5K, zN_r⟩
            · replace hP := zE_n hP h9
              refine wz_br (i3T (rfl : i3 a1 = i3 a1) (by omega) (by omega)) (fun h10 => ?_) (fun h10 => ?_)
              · replace hP := zE_p hP h10
                exact zlM hP (Eq.trans (zm_rd (Z := Z5) (ν := ν) (k := 2) (show ((0 : Nat) : Int) = 0 from rfl) (show ((0 : Nat) : Int) = 0 from rfl) (show ((1200 : Nat) : Int) = 1200 from rfl)) (congrArg i3 ((zu_ne (k' := 2) (b' := 0) (i' := 0) (j' := 1200) hZ5 (fun q => absurd q.1 (by decide))).trans ((hF 2 0 1200 (by decide)).trans ((show frz 2 0 1200 = 0 from by decide)))))) (zu_at hZ5) ⟨hZ5I, hZ5K, zN_r⟩
              · replace hP := zE_n hP h10
                refine wz_i1 (Eq.trans (i3T (rfl : i3 a1 = i3 a1) (by omega) (by omega)) (decide_eq_true (by omega))) ?_
                exact zlM hP (Eq.trans (zm_rd (Z := Z5) (ν := ν) (k := 2) (show ((0 : Nat) : Int) = 0 from rfl) (show ((0 : Nat) : Int) = 0 from rfl) (show ((102 : Nat) : Int) = 102 from rfl)) (congrArg i3 ((zu_ne (k' := 2) (b' := 0) (i' := 0) (j' := 102) hZ5 (fun q => absurd q.1 (by decide))).trans ((hF 2 0 102 (by decide)).trans ((show frz 2 0 102 = 0 from by decide)))))) (zu_at hZ5) ⟨hZ5I, hZ5K, zN_r⟩
      · replace hP := zE_n hP h6
        refine wz_br (i3L (show (9 : Int32) = i3 9 from rfl) (rfl : i3 a1 = i3 a1) (by omega) (by omega) (by omega) (by omega)) (fun h11 => ?_) (fun h11 => ?_)
        · replace hP := zE_p hP h11
          refine wz_br (i3L (rfl : i3 a1 = i3 a1) (show (13 : Int32) = i3 13 from rfl) (by omega) (by omega) (by omega) (by omega)) (fun h12 => ?_) (fun h12 => ?_)
          · replace hP := zE_p hP h12
            refine wz_i0 (Eq.trans (i3To (rfl : i3 a1 = i3 a1) (by omega) (by omega)) (decide_eq_false (by omega))) ?_
            refine wz_i0 (Eq.trans (i3T (rfl : i3 a1 = i3 a1) (by omega) (by omega)) (decide_eq_false (by omega))) ?_
            refine wz_i0 (Eq.trans (i3T (rfl : i3 a1 = i3 a1) (by omega) (by omega)) (decide_eq_false (by omega))) ?_
            refine wz_i0 (Eq.trans (i3T (rfl : i3 a1 = i3 a1) (by omega) (by omega)) (decide_eq_false (by omega))) ?_
            refine wz_i0 (Eq.trans (i3T (rfl : i3 a1 = i3 a1) (by omega) (by omega)) (decide_eq_false (by omega))) ?_
            refine wz_i0 (Eq.trans (i3T (rfl : i3 a1 = i3 a1) (by omega) (by omega)) (decide_eq_false (by omega))) ?_
            refine wz_i0 (Eq.trans (i3T (rfl : i3 a1 = i3 a1) (by omega) (by omega)) (decide_eq_false (by omega))) ?_
            refine wz_i0 (Eq.trans (i3T (rfl : i3 a1 = i3 a1) (by omega) (by omega)) (decide_eq_false (by omega))) ?_
            refine wz_i0 (Eq.trans (i3T (rfl : i3 a1 = i3 a1) (by omega) (by omega)) (decide_eq_false (by omega))) ?_
            refine wz_i0 (Eq.trans (i3T (rfl : i3 a1 = i3 a1) (by omega) (by omega)) (decide_eq_false (by omega))) ?_
            refine wz_i0 (Eq.trans (i3T (rfl : i3 a1 = i3 a1) (by omega) (by omega)) (decide_eq_false (by omega))) ?_
            refine wz_br (i3T (rfl : i3 a1 = i3 a1) (by omega) (by omega)) (fun h13 => ?_) (fun h13 => ?_)
            · replace hP := zE_p hP h13
              exact zlM hP (Eq.trans (zm_rd (Z := Z5) (ν := ν) (k := 2) (show ((0 : Nat) : Int) = 0 from rfl) (show ((0 : Nat) : Int) = 0 from rfl) (show ((1400 : Nat) : Int) = 1400 from rfl)) (congrArg i3 ((zu_ne (k' := 2) (b' := 0) (i' := 0) (j' := 1400) hZ5 (fun q => absurd q.1 (by decide))).trans ((hF 2 0 1400 (by decide)).trans ((show frz 2 0 1400 = 0 from by decide)))))) (zu_at hZ5) ⟨hZ5I, hZ5K, zN_r⟩
            · replace hP := zE_n hP h13
              refine wz_br (i3T (rfl : i3 a1 = i3 a1) (by omega) (by omega)) (fun h14 => ?_) (fun h14 => ?_)
              · replace hP := zE_p hP h14
                exact zlM hP (Eq.trans (zm_rd (Z := Z5) (ν := ν) (k := 2) (show ((0 : Nat) : Int) = 0 from rfl) (show ((0 : Nat) : Int) = 0 from rfl) (show ((1401 : Nat) : Int) = 1401 from rfl)) (congrArg i3 ((zu_ne (k' := 2) (b' := 0) (i' := 0) (j' := 1401) hZ5 (fun q => absurd q.1 (by decide))).trans ((hF 2 0 1401 (by decide)).trans ((show frz 2 0 1401 = 0 from by decide)))))) (zu_at hZ5) ⟨hZ5I, hZ5K, zN_r⟩
              · replace hP := zE_n hP h14
                refine wz_i1 (Eq.trans (i3T (rfl : i3 a1 = i3 a1) (by omega) (by omega)) (decide_eq_true (by omega))) ?_
                exact zlM hP (Eq.trans (zm_rd (Z := Z5) (ν := ν) (k := 2) (show ((0 : Nat) : Int) = 0 from rfl) (show ((0 : Nat) : Int) = 0 from rfl) (show ((2000 : Nat) : Int) = 2000 from rfl)) (congrArg i3 ((zu_ne (k' := 2) (b' := 0) (i' := 0) (j' := 2000) hZ5 (fun q => absurd q.1 (by decide))).trans ((hF 2 0 2000 (by decide)).trans ((show frz 2 0 2000 = 0 from by decide)))))) (zu_at hZ5) ⟨hZ5I, hZ5K, zN_r⟩
          · replace hP := zE_n hP h12
            refine wz_br (i3L (show (16 : Int32) = i3 16 from rfl) (rfl : i3 a1 = i3 a1) (by omega) (by omega) (by omega) (by omega)) (fun h15 => ?_) (fun h15 => ?_)
            · replace hP := zE_p hP h15
              refine wz_br (i3To (rfl : i3 a1 = i3 a1) (by omega) (by omega)) (fun h16 => ?_) (fun h16 => ?_)
              · replace hP := zE_p hP h16
                exact zlM hP (Eq.trans (zm_rd (Z := Z5) (ν := ν) (k := 1) (show ((0 : Nat) : Int) = 0 from rfl) (show ((0 : Nat) : Int) = 0 from rfl) (show ((49 : Nat) : Int) = 49 from rfl)) (congrArg i3 ((zu_ne (k' := 1) (b' := 0) (i' := 0) (j' := 49) hZ5 (fun q => absurd q.2.2.2 (by decide))).trans ((hF 1 0 49 (by decide)).trans ((show frz 1 0 49 = 0 from by decide)))))) (zu_at hZ5) ⟨hZ5I, hZ5K, zN_r⟩
              · replace hP := zE_n hP h16
                refine wz_i0 (Eq.trans (i3T (rfl : i3 a1 = i3 a1) (by omega) (by omega)) (decide_eq_false (by omega))) ?_
                refine wz_i0 (Eq.trans (i3T (rfl : i3 a1 = i3 a1) (by omega) (by omega)) (decide_eq_false (by omega))) ?_
                refine wz_i0 (Eq.trans (i3T (rfl : i3 a1 = i3 a1) (by omega) (by omega)) (decide_eq_false (by omega))) ?_
                refine wz_i0 (Eq.trans (i3T (rfl : i3 a1 = i3 a1) (by omega) (by omega)) (decide_eq_false (by omega))) ?_
                refine wz_i0 (Eq.trans (i3T (rfl : i3 a1 = i3 a1) (by omega) (by omega)) (decide_eq_false (by omega))) ?_
                refine wz_i0 (Eq.trans (i3T (rfl : i3 a1 = i3 a1) (by omega) (by omega)) (decide_eq_false (by omega))) ?_
                refine wz_i0 (Eq.trans (i3T (rfl : i3 a1 = i3 a1) (by omega) (by omega)) (decide_eq_false (by omega))) ?_
                refine wz_i0 (Eq.trans (i3T (rfl : i3 a1 = i3 a1) (by omega) (by omega)) (decide_eq_false (by omega))) ?_
                refine wz_i0 (Eq.trans (i3T (rfl : i3 a1 = i3 a1) (by omega) (by omega)) (decide_eq_false (by omega))) ?_
                refine wz_i0 (Eq.trans (i3T (rfl : i3 a1 = i3 a1) (by omega) (by omega)) (decide_eq_false (by omega))) ?_
                refine wz_i0 (Eq.trans (i3T (rfl : i3 a1 = i3 a1) (by omega) (by omega)) (decide_eq_false (by omega))) ?_
                refine wz_i0 (Eq.trans (i3T (rfl : i3 a1 = i3 a1) (by omega) (by omega)) (decide_eq_false (by omega))) ?_
                refine wz_i0 (Eq.trans (i3T (rfl : i3 a1 = i3 a1) (by omega) (by omega)) (decide_eq_false (by omega))) ?_
                refine wz_i0 (Eq.trans (i3T (rfl : i3 a1 = i3 a1) (by omega) (by omega)) (decide_eq_false (by omega))) ?_
                refine wz_i0 (Eq.trans (i3T (rfl : i3 a1 = i3 a1) (by omega) (by omega)) (decide_eq_false (by omega))) ?_
                refine wz_i0 (Eq.trans (i3T (rfl : i3 a1 = i3 a1) (by omega) (by omega)) (decide_eq_false (by omega))) ?_
                refine wz_i0 (Eq.trans (i3T (rfl : i3 a1 = i3 a1) (by omega) (by omega)) (decide_eq_false (by omega))) ?_
                refine wz_br (i3T (rfl : i3 a1 = i3 a1) (by omega) (by omega)) (fun h17 => ?_) (fun h17 => ?_)
                · replace hP := zE_p hP h17
                  exact zlM hP (Eq.trans (zm_rd (Z := Z5) (ν := ν) (k := 2) (show ((0 : Nat) : Int) = 0 from rfl) (show ((0 : Nat) : Int) = 0 from rfl) (show ((3000 : Nat) : Int) = 3000 from rfl)) (congrArg i3 ((zu_ne (k' := 2) (b' := 0) (i' := 0) (j' := 3000) hZ5 (fun q => absurd q.1 (by decide))).trans ((hF 2 0 3000 (by decide)).trans ((show frz 2 0 3000 = 0 from by decide)))))) (zu_at hZ5) ⟨hZ5I, hZ5K, zN_r⟩
                · replace hP := zE_n hP h17
                  refine wz_br (i3T (rfl : i3 a1 = i3 a1) (by omega) (by omega)) (fun h18 => ?_) (fun h18 => ?_)
                  · replace hP := zE_p hP h18
                    exact zlM hP (Eq.trans (zm_rd (Z := Z5) (ν := ν) (k := 2) (show ((0 : Nat) : Int) = 0 from rfl) (show ((0 : Nat) : Int) = 0 from rfl) (show ((3200 : Nat) : Int) = 3200 from rfl)) (congrArg i3 ((zu_ne (k' := 2) (b' := 0) (i' := 0) (j' := 3200) hZ5 (fun q => absurd q.1 (by decide))).trans ((hF 2 0 3200 (by decide)).trans ((show frz 2 0 3200 = 0 from by decide)))))) (zu_at hZ5) ⟨hZ5I, hZ5K, zN_r⟩
                  · replace hP := zE_n hP h18
                    refine wz_br (i3T (rfl : i3 a1 = i3 a1) (by omega) (by omega)) (fun h19 => ?_) (fun h19 => ?_)
                    · replace hP := zE_p hP h19
                      exact zlM hP (Eq.trans (zm_rd (Z := Z5) (ν := ν) (k := 2) (show ((0 : Nat) : Int) = 0 from rfl) (show ((0 : Nat) : Int) = 0 from rfl) (show ((3500 : Nat) : Int) = 3500 from rfl)) (congrArg i3 ((zu_ne (k' := 2) (b' := 0) (i' := 0) (j' := 3500) hZ5 (fun q => absurd q.1 (by decide))).trans ((hF 2 0 3500 (by decide)).trans ((show frz 2 0 3500 = 0 from by decide)))))) (zu_at hZ5) ⟨hZ5I, hZ5K, zN_r⟩
                    · replace hP := zE_n hP h19
                      refine wz_br (i3T (rfl : i3 a1 = i3 a1) (by omega) (by omega)) (fun h20 => ?_) (fun h20 => ?_)
                      · replace hP := zE_p hP h20
                        exact zlM hP (Eq.trans (zm_rd (Z := Z5) (ν := ν) (k := 2) (show ((0 : Nat) : Int) = 0 from rfl) (show ((0 : Nat) : Int) = 0 from rfl) (show ((3815 : Nat) : Int) = 3815 from rfl)) (congrArg i3 ((zu_ne (k' := 2) (b' := 0) (i' := 0) (j' := 3815) hZ5 (fun q => absurd q.1 (by decide))).trans ((hF 2 0 3815 (by decide)).trans ((show frz 2 0 3815 = 0 from by decide)))))) (zu_at hZ5) ⟨hZ5I, hZ5K, zN_r⟩
                      · replace hP := zE_n hP h20
                        refine wz_br (i3T (rfl : i3 a1 = i3 a1) (by omega) (by omega)) (fun h21 => ?_) (fun h21 => ?_)
                        · replace hP := zE_p hP h21
                          exact zlM hP (Eq.trans (zm_rd (Z := Z5) (ν := ν) (k := 1) (show ((0 : Nat) : Int) = 0 from rfl) (show ((0 : Nat) : Int) = 0 from rfl) (show ((37 : Nat) : Int) = 37 from rfl)) (congrArg i3 ((zu_ne (k' := 1) (b' := 0) (i' := 0) (j' := 37) hZ5 (fun q => absurd q.2.2.2 (by decide))).trans ((hF 1 0 37 (by decide)).trans ((show frz 1 0 37 = 0 from by decide)))))) (zu_at hZ5) ⟨hZ5I, hZ5K, zN_r⟩
                        · replace hP := zE_n hP h21
                          refine wz_i1 (Eq.trans (i3T (rfl : i3 a1 = i3 a1) (by omega) (by omega)) (decide_eq_true (by omega))) ?_
                          exact zlM hP (Eq.trans (zm_rd (Z := Z5) (ν := ν) (k := 1) (show ((0 : Nat) : Int) = 0 from rfl) (show ((0 : Nat) : Int) = 0 from rfl) (show ((34 : Nat) : Int) = 34 from rfl)) (congrArg i3 ((zu_ne (k' := 1) (b' := 0) (i' := 0) (j' := 34) hZ5 (fun q => absurd q.2.2.2 (by decide))).trans ((hF 1 0 34 (by decide)).trans ((show frz 1 0 34 = 0 from by decide)))))) (zu_at hZ5) ⟨hZ5I, hZ5K, zN_r⟩
            · replace hP := zE_n hP h15
              refine fw_562 _ _ _ ?_
              refine wz_l0 sb_562_1 (fb_562_1 (i3 (a1 - 13)) (i3 0) (i3 0) _ _ _ _ (zconso rfl (zconso (zvo (i3S (rfl : i3 a1 = i3 a1) (show (13 : Int32) = i3 13 from rfl))) (zconso (zvo (show (0 : Int32) = i3 0 from rfl)) (zconso (zvo (show (0 : Int32) = i3 0 from rfl)) rfl)))) ?_)
              refine wz_i1 (Eq.trans (i3Le (Eq.trans (zm_rd (Z := Z5) (ν := ν) (k := 2) (show ((0 : Nat) : Int) = 0 from rfl) (show ((0 : Nat) : Int) = 0 from rfl) (show ((2000 : Nat) : Int) = 2000 from rfl)) (congrArg i3 ((zu_ne (k' := 2) (b' := 0) (i' := 0) (j' := 2000) hZ5 (fun q => absurd q.1 (by decide))).trans ((hF 2 0 2000 (by decide)).trans ((show frz 2 0 2000 = 0 from by decide)))))) (rfl : i3 0 = i3 0) (by omega) (by omega) (by omega) (by omega)) (decide_eq_true (by omega))) ?_
              refine wz_lk0 (wz_sk0 ?_)
              refine fc_562_2 (i3 0) _ _ _ _ (zconso rfl (zconso rfl (zconso (zvo (rfl : i3 0 = i3 0)) (zconso rfl rfl)))) ?_
              exact zlM hP (rfl : i3 0 = i3 0) (zu_at hZ5) ⟨hZ5I, hZ5K, zN_r⟩
        · replace hP := zE_n hP h11
          refine fw_561 _ _ _ ?_
          refine wz_l0 sb_561_1 (fb_561_1 (i3 (a1 - 5)) (i3 0) (i3 0) _ _ _ _ (zconso rfl (zconso (zvo (i3S (rfl : i3 a1 = i3 a1) (show (5 : Int32) = i3 5 from rfl))) (zconso (zvo (show (0 : Int32) = i3 0 from rfl)) (zconso (zvo (show (0 : Int32) = i3 0 from rfl)) rfl)))) ?_)
          refine wz_i1 (Eq.trans (i3Le (Eq.trans (zm_rd (Z := Z5) (ν := ν) (k := 2) (show ((0 : Nat) : Int) = 0 from rfl) (show ((0 : Nat) : Int) = 0 from rfl) (show ((102 : Nat) : Int) = 102 from rfl)) (congrArg i3 ((zu_ne (k' := 2) (b' := 0) (i' := 0) (j' := 102) hZ5 (fun q => absurd q.1 (by decide))).trans ((hF 2 0 102 (by decide)).trans ((show frz 2 0 102 = 0 from by decide)))))) (rfl : i3 0 = i3 0) (by omega) (by omega) (by omega) (by omega)) (decide_eq_true (by omega))) ?_
          refine wz_lk0 (wz_sk0 ?_)
          refine fc_561_2 (i3 0) _ _ _ _ (zconso rfl (zconso rfl (zconso (zvo (rfl : i3 0 = i3 0)) (zconso rfl rfl)))) ?_
          exact zlM hP (rfl : i3 0 = i3 0) (zu_at hZ5) ⟨hZ5I, hZ5K, zN_r⟩
