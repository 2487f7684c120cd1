/-! pass (both), match (reference) at a new object -/
def frq (k : Nat) (j : Int) : Bool := frk k && (![1, 2, 3, 61, 68].contains k && !(Nat.beq k 11 && (decide (j = 13) || (decide (j = 15) || decide (j = 16)))))
def zFq (Z : qz_Z) : Prop := ∀ k i j, frq k j = true → Z k 0 i j = frz k i j
theorem frq_13 {k : Nat} {j : Int} (hk : frq k j = true) (q : k = 11) (q2 : j = 13) : False := by
  subst q q2
  revert hk
  decide
theorem frq_s {k : Nat} {j : Int} (h : (frk k && ![1, 2, 3, 61, 68, 11].contains k) = true) : frq k j = true := by
  rw [Bool.and_eq_true] at h
  obtain ⟨h1, h2⟩ := h
  have h3 : ¬ (k = 1 ∨ k = 2 ∨ k = 3 ∨ k = 61 ∨ k = 68 ∨ k = 11) := by
    intro q
    rcases q with rfl | rfl | rfl | rfl | rfl | rfl <;> revert h2 <;> decide
  unfold frq
  rw [h1, Bool.true_and]
  have h4 : [1, 2, 3, 61, 68].contains k = false := by
    cases hc : [1, 2, 3, 61, 68].contains k
    · rfl
    · have := List.contains_iff_mem.mp hc
      simp only [List.mem_cons, List.not_mem_nil, or_false] at this
      exact absurd (by omega) h3
  have h5 : Nat.beq k 11 = false := by
    cases hc : Nat.beq k 11
    · rfl
    · exact absurd (Nat.eq_of_beq_eq_true hc) (fun q => h3 (by omega))
  rw [h4, h5]
  rfl
theorem wz_l1 {F : qz_F} {G : wz_W} {k : wz_K} {R : wz_R} {x : qz_X} {N : Nat} (hS : wz_S G F) (h : G (wz_lk k (fun x' => wz_loop F N k R x')) R x) : wz_loop F (N + 1) k R x := by
  obtain ⟨e, e1, h⟩ := hS _ _ _ h
  match e, e1, h with
  | .inl (0, x'), e1, h =>
    refine ⟨.inl (0, x'), ?_, h⟩
    unfold qn_l
    rw [e1]
    rfl
  | .inl (1, x'), e1, h =>
    obtain ⟨e2, e3, h⟩ := h
    refine ⟨e2, ?_, h⟩
    unfold qn_l
    rw [e1]
    exact e3
  | .inl (n + 2, x'), e1, h =>
    refine ⟨.inl (n + 1, x'), ?_, h⟩
    unfold qn_l
    rw [e1]
    rfl
  | .inr r, e1, h =>
    refine ⟨.inr r, ?_, h⟩
    unfold qn_l
    rw [e1]
    rfl
theorem hc_body {Z : qz_Z} {ν : qz_N} (hZ : zI none Z) (hF : zFq Z) {x1 x2 : Int} (gx1 : 1 ≤ x1 ∧ x1 ≤ 72) (gx2 : 0 ≤ x2 ∧ x2 ≤ 72) (hnow : Z 11 0 0 13 = x2) {k : wz_K} {R : wz_R} {I : qz_X → Prop} {L : qz_L} (hL : qz_fg [true, true, true, false, false, false] L = [some (.inr (.inr (some (10, 0, 0)))), some (.inl (i3 x1)), some (.inl (i3 x2)), none, none, none]) (hst : x1 ≤ x2 → k 0 ([some (.inr (.inr (some (10, 0, 0)))), some (.inl (i3 x1)), some (.inl (i3 x2)), none, none, none], [], zm Z ν)) (hgo : x2 < x1 → ∀ Z1 L1, qz_fg [true, true, true, false, false, false] L1 = [some (.inr (.inr (some (10, 0, 0)))), some (.inl (i3 x1)), some (.inl (i3 (x2 + 1))), none, none, none] → zI none Z1 → zFq Z1 → Z1 11 0 0 13 = x2 + 1 → zK [11] Z Z1 → I (L1, [], zm Z1 ν)) : gb_118_9 (wz_lk k I) R (L, [], zm Z ν) := by
  refine fb_118_9 0 (i3 x1) (i3 x2) _ _ _ _ hL ?_
  refine wz_br (i3Le (rfl : i3 x1 = i3 x1) (rfl : i3 x2 = i3 x2) (by omega) (by omega) (by omega) (by omega)) (fun h1 => ?_) (fun h1 => ?_)
  · skip
    exact hst (by omega)
  · skip
    obtain ⟨Z2, hZ2⟩ := zx (zu Z 11 0 0 13 (x2 + 1))
    have hZ2I := zI_u hZ hZ2 (lo := 0) (hi := 671) (by decide) rfl (by omega) ⟨by decide, by decide⟩ (Or.inl (by decide))
    have hZ2K : zK [11] Z Z2 := zK_u zK_r hZ2 (by decide)
    intro μ9 e9
    replace e9 := e9.trans (zm_wI (Z := Z) (ν := ν) hZ2 (show ((0 : Nat) : Int) = 0 from rfl) (show ((0 : Nat) : Int) = 0 from rfl) (show ((13 : Nat) : Int) = 13 from rfl) (i3A (Eq.trans (zm_rd (Z := Z) (ν := ν) (k := 11) (show ((0 : Nat) : Int) = 0 from rfl) (show ((0 : Nat) : Int) = 0 from rfl) (show ((13 : Nat) : Int) = 13 from rfl)) (congrArg i3 (hnow))) (show (1 : Int32) = i3 1 from rfl)))
    subst e9
    refine fw_39 _ _ _ ?_
    refine wz_l1 sb_39_4 (fb_39_4 _ (i3 0) _ _ _ _ (zconso rfl (zconso (zvo (show (0 : Int32) = i3 0 from rfl)) (zconso rfl (zconso rfl rfl)))) ?_)
    refine wz_i1 (Eq.trans (i3Le (Eq.trans (zm_rd (Z := Z2) (ν := ν) (k := 11) (show ((0 : Nat) : Int) = 0 from rfl) (show ((0 : Nat) : Int) = 0 from rfl) (show ((8 : Nat) : Int) = 8 from rfl)) (congrArg i3 ((zu_ne (k' := 11) (b' := 0) (i' := 0) (j' := 8) hZ2 (fun q => absurd q.2.2.2 (by decide))).trans ((hF 11 0 8 (by decide)).trans ((show frz 11 0 8 = 0 from by decide)))))) (rfl : i3 0 = i3 0) (by omega) (by omega) (by omega) (by omega)) (decide_eq_true (by omega))) ?_
    refine wz_lk0 (wz_sk0 ?_)
    refine fc_39_5  _ _ _ _ (zconso rfl (zconso rfl (zconso rfl (zconso rfl rfl)))) ?_
    refine fw_171 _ _ _ ?_
    refine wz_i0 (i3O (n := 28) (i3D (Eq.trans (zm_rd (Z := Z2) (ν := ν) (k := 11) (show ((0 : Nat) : Int) = 0 from rfl) (show ((0 : Nat) : Int) = 0 from rfl) (show ((13 : Nat) : Int) = 13 from rfl)) (congrArg i3 (zu_at hZ2))) (show (24 : Int32) = i3 24 from rfl) (by omega) (by omega) (by omega) (by omega)) (by omega) (by omega) (by omega)) ?_
    refine wz_l1 sb_171_1 (fb_171_1 _ (i3 18) (i3 0) _ _ _ _ (zconso rfl (zconso (zvo (Eq.trans (zm_rd (Z := Z2) (ν := ν) (k := 12) (show ((0 : Nat) : Int) = 0 from rfl) (show ((0 : Nat) : Int) = 0 from rfl) (i3I (y := ((x2 + 1) / 24)) (i3D (Eq.trans (zm_rd (Z := Z2) (ν := ν) (k := 11) (show ((0 : Nat) : Int) = 0 from rfl) (show ((0 : Nat) : Int) = 0 from rfl) (show ((13 : Nat) : Int) = 13 from rfl)) (congrArg i3 (zu_at hZ2))) (show (24 : Int32) = i3 24 from rfl) (by omega) (by omega) (by omega) (by omega)) (by omega) (by omega) (by omega))) (congrArg i3 ((zu_ne (k' := 12) (b' := 0) (i' := 0) (j' := ((x2 + 1) / 24)) hZ2 (fun q => absurd q.1 (by decide))).trans ((hF 12 0 ((x2 + 1) / 24) (frq_s (by decide))).trans ((frz_12 (j := ((x2 + 1) / 24)) (by omega) (by omega)))))))) (zconso (zvo (show (0 : Int32) = i3 0 from rfl)) (zconso rfl (zconso rfl (zconso rfl (zconso rfl (zconso rfl rfl)))))))) ?_)
    refine wz_i1 (Eq.trans (i3Le (Eq.trans (zm_rd (Z := Z2) (ν := ν) (k := 11) (show ((0 : Nat) : Int) = 0 from rfl) (show ((0 : Nat) : Int) = 0 from rfl) (show ((2 : Nat) : Int) = 2 from rfl)) (congrArg i3 ((zu_ne (k' := 11) (b' := 0) (i' := 0) (j' := 2) hZ2 (fun q => absurd q.2.2.2 (by decide))).trans ((hF 11 0 2 (by decide)).trans ((show frz 11 0 2 = 0 from by decide)))))) (rfl : i3 0 = i3 0) (by omega) (by omega) (by omega) (by omega)) (decide_eq_true (by omega))) ?_
    refine wz_lk0 (wz_sk0 ?_)
    refine fc_171_6 _ (i3 18) _ _ _ _ (zconso rfl (zconso (zvo (rfl : i3 18 = i3 18)) (zconso rfl (zconso rfl (zconso rfl (zconso rfl (zconso rfl (zconso rfl rfl)))))))) ?_
    refine wz_l1 sb_171_2 (fb_171_2 _ (i3 18) (i3 0) _ _ _ _ (zconso rfl (zconso (zvo (rfl : i3 18 = i3 18)) (zconso (zvo (show (0 : Int32) = i3 0 from rfl)) (zconso rfl (zconso rfl (zconso rfl (zconso rfl (zconso rfl rfl)))))))) ?_)
    refine wz_i1 (Eq.trans (i3Le (Eq.trans (zm_rd (Z := Z2) (ν := ν) (k := 11) (show ((0 : Nat) : Int) = 0 from rfl) (show ((0 : Nat) : Int) = 0 from rfl) (show ((3 : Nat) : Int) = 3 from rfl)) (congrArg i3 ((zu_ne (k' := 11) (b' := 0) (i' := 0) (j' := 3) hZ2 (fun q => absurd q.2.2.2 (by decide))).trans ((hF 11 0 3 (by decide)).trans ((show frz 11 0 3 = 0 from by decide)))))) (rfl : i3 0 = i3 0) (by omega) (by omega) (by omega) (by omega)) (decide_eq_true (by omega))) ?_
    refine wz_lk0 (wz_sk0 ?_)
    refine fc_171_5 _ _ _ _ _ (zconso rfl (zconso rfl (zconso rfl (zconso rfl (zconso rfl (zconso rfl (zconso rfl (zconso rfl rfl)))))))) ?_
    refine wz_l1 sb_171_3 (fb_171_3 _ (i3 0) _ _ _ _ (zconso rfl (zconso rfl (zconso (zvo (show (0 : Int32) = i3 0 from rfl)) (zconso rfl (zconso rfl (zconso rfl (zconso rfl (zconso rfl rfl)))))))) ?_)
    refine wz_i1 (Eq.trans (i3Le (Eq.trans (zm_rd (Z := Z2) (ν := ν) (k := 11) (show ((0 : Nat) : Int) = 0 from rfl) (show ((0 : Nat) : Int) = 0 from rfl) (show ((6 : Nat) : Int) = 6 from rfl)) (congrArg i3 ((zu_ne (k' := 11) (b' := 0) (i' := 0) (j' := 6) hZ2 (fun q => absurd q.2.2.2 (by decide))).trans ((hF 11 0 6 (by decide)).trans ((show frz 11 0 6 = 0 from by decide)))))) (rfl : i3 0 = i3 0) (by omega) (by omega) (by omega) (by omega)) (decide_eq_true (by omega))) ?_
    refine wz_lk0 (wz_sk0 ?_)
    refine fc_171_4  _ _ _ _ (zconso rfl (zconso rfl (zconso rfl (zconso rfl (zconso rfl (zconso rfl (zconso rfl (zconso rfl rfl)))))))) ?_
    refine wz_l1 sb_118_1 (fb_118_1 _ (i3 x1) (i3 x2) (i3 0) _ _ _ _ (zconso rfl (zconso (zvo (rfl : i3 x1 = i3 x1)) (zconso (zvo (rfl : i3 x2 = i3 x2)) (zconso (zvo (show (0 : Int32) = i3 0 from rfl)) (zconso rfl (zconso rfl rfl)))))) ?_)
    refine wz_i1 (Eq.trans (i3Le (Eq.trans (zm_rd (Z := Z2) (ν := ν) (k := 11) (show ((0 : Nat) : Int) = 0 from rfl) (show ((0 : Nat) : Int) = 0 from rfl) (show ((9 : Nat) : Int) = 9 from rfl)) (congrArg i3 ((zu_ne (k' := 11) (b' := 0) (i' := 0) (j' := 9) hZ2 (fun q => absurd q.2.2.2 (by decide))).trans ((hF 11 0 9 (by decide)).trans ((show frz 11 0 9 = 0 from by decide)))))) (rfl : i3 0 = i3 0) (by omega) (by omega) (by omega) (by omega)) (decide_eq_true (by omega))) ?_
    refine wz_lk0 (wz_sk0 ?_)
    refine fc_118_8 _ (i3 x1) (i3 x2) _ _ _ _ (zconso rfl (zconso (zvo (rfl : i3 x1 = i3 x1)) (zconso (zvo (rfl : i3 x2 = i3 x2)) (zconso rfl (zconso rfl (zconso rfl rfl)))))) ?_
    refine wz_l1 sb_118_4 (fb_118_4 _ (i3 x1) (i3 x2) (i3 0) _ _ _ _ (zconso rfl (zconso (zvo (rfl : i3 x1 = i3 x1)) (zconso (zvo (rfl : i3 x2 = i3 x2)) (zconso (zvo (show (0 : Int32) = i3 0 from rfl)) (zconso rfl (zconso rfl rfl)))))) ?_)
    refine wz_i1 (Eq.trans (i3Le (Eq.trans (zm_rd (Z := Z2) (ν := ν) (k := 11) (show ((0 : Nat) : Int) = 0 from rfl) (show ((0 : Nat) : Int) = 0 from rfl) (show ((7 : Nat) : Int) = 7 from rfl)) (congrArg i3 ((zu_ne (k' := 11) (b' := 0) (i' := 0) (j' := 7) hZ2 (fun q => absurd q.2.2.2 (by decide))).trans ((hF 11 0 7 (by decide)).trans ((show frz 11 0 7 = 0 from by decide)))))) (rfl : i3 0 = i3 0) (by omega) (by omega) (by omega) (by omega)) (decide_eq_true (by omega))) ?_
    refine wz_lk0 (wz_sk0 ?_)
    refine fc_118_7 _ (i3 x1) (i3 x2) _ _ _ _ (zconso rfl (zconso (zvo (rfl : i3 x1 = i3 x1)) (zconso (zvo (rfl : i3 x2 = i3 x2)) (zconso rfl (zconso rfl (zconso rfl rfl)))))) ?_
    refine wz_l1 sb_118_5 (fb_118_5 _ (i3 x1) (i3 x2) (i3 0) _ _ _ _ (zconso rfl (zconso (zvo (rfl : i3 x1 = i3 x1)) (zconso (zvo (rfl : i3 x2 = i3 x2)) (zconso (zvo (show (0 : Int32) = i3 0 from rfl)) (zconso rfl (zconso rfl rfl)))))) ?_)
    refine wz_i1 (Eq.trans (i3Le (Eq.trans (zm_rd (Z := Z2) (ν := ν) (k := 11) (show ((0 : Nat) : Int) = 0 from rfl) (show ((0 : Nat) : Int) = 0 from rfl) (show ((8 : Nat) : Int) = 8 from rfl)) (congrArg i3 ((zu_ne (k' := 11) (b' := 0) (i' := 0) (j' := 8) hZ2 (fun q => absurd q.2.2.2 (by decide))).trans ((hF 11 0 8 (by decide)).trans ((show frz 11 0 8 = 0 from by decide)))))) (rfl : i3 0 = i3 0) (by omega) (by omega) (by omega) (by omega)) (decide_eq_true (by omega))) ?_
    refine wz_lk0 (wz_sk0 ?_)
    refine fc_118_6 _ (i3 x1) (i3 x2) _ _ _ _ (zconso rfl (zconso (zvo (rfl : i3 x1 = i3 x1)) (zconso (zvo (rfl : i3 x2 = i3 x2)) (zconso rfl (zconso rfl (zconso rfl rfl)))))) ?_
    refine wz_br (i3NE (i3R (Eq.trans (zm_rd (Z := Z2) (ν := ν) (k := 11) (show ((0 : Nat) : Int) = 0 from rfl) (show ((0 : Nat) : Int) = 0 from rfl) (show ((13 : Nat) : Int) = 13 from rfl)) (congrArg i3 (zu_at hZ2))) (show (24 : Int32) = i3 24 from rfl) (by omega) (by omega) (by omega) (by omega)) (show (0 : Int32) = i3 0 from rfl) (by omega) (by omega) (by omega) (by omega)) (fun h3 => ?_) (fun h3 => ?_)
    · skip
      refine wz_kbs (n := 1) (?_)
      have hn9 : Z2 11 0 0 13 = x2 + 1 := zu_at hZ2
      have hF9 : zFq Z2 := fun k i j hk => (Eq.trans (zu_ne hZ2 (fun q => frq_13 hk q.1 q.2.2.2)) (hF k i j hk))
      exact hgo (by omega) _ _ (zconso rfl (zconso (zvo (rfl : i3 x1 = i3 x1)) (zconso (zvo (i3A (rfl : i3 x2 = i3 x2) (show (1 : Int32) = i3 1 from rfl))) (zconso rfl (zconso rfl (zconso rfl rfl)))))) hZ2I hF9 hn9 hZ2K
    · skip
      refine fw_17 _ _ _ ?_
      refine wz_l1 sb_17_3 (fb_17_3 _ (i3 (((x2 + 1) / 24) - 1)) (i3 0) _ _ _ _ (zconso rfl (zconso (zvo (i3S (i3D (Eq.trans (zm_rd (Z := Z2) (ν := ν) (k := 11) (show ((0 : Nat) : Int) = 0 from rfl) (show ((0 : Nat) : Int) = 0 from rfl) (show ((13 : Nat) : Int) = 13 from rfl)) (congrArg i3 (zu_at hZ2))) (show (24 : Int32) = i3 24 from rfl) (by omega) (by omega) (by omega) (by omega)) (show (1 : Int32) = i3 1 from rfl))) (zconso (zvo (show (0 : Int32) = i3 0 from rfl)) (zconso rfl rfl)))) ?_)
      refine wz_i1 (Eq.trans (i3Le (Eq.trans (zm_rd (Z := Z2) (ν := ν) (k := 11) (show ((0 : Nat) : Int) = 0 from rfl) (show ((0 : Nat) : Int) = 0 from rfl) (show ((4 : Nat) : Int) = 4 from rfl)) (congrArg i3 ((zu_ne (k' := 11) (b' := 0) (i' := 0) (j' := 4) hZ2 (fun q => absurd q.2.2.2 (by decide))).trans ((hF 11 0 4 (by decide)).trans ((show frz 11 0 4 = 0 from by decide)))))) (rfl : i3 0 = i3 0) (by omega) (by omega) (by omega) (by omega)) (decide_eq_true (by omega))) ?_
      refine wz_lk0 (wz_sk0 ?_)
      refine fc_17_6 _ _ _ _ _ (zconso rfl (zconso rfl (zconso rfl (zconso rfl rfl)))) ?_
      refine wz_l1 sb_17_4 (fb_17_4 _ (i3 0) _ _ _ _ (zconso rfl (zconso rfl (zconso (zvo (show (0 : Int32) = i3 0 from rfl)) (zconso rfl rfl)))) ?_)
      refine wz_i1 (Eq.trans (i3Le (Eq.trans (zm_rd (Z := Z2) (ν := ν) (k := 11) (show ((0 : Nat) : Int) = 0 from rfl) (show ((0 : Nat) : Int) = 0 from rfl) (show ((5 : Nat) : Int) = 5 from rfl)) (congrArg i3 ((zu_ne (k' := 11) (b' := 0) (i' := 0) (j' := 5) hZ2 (fun q => absurd q.2.2.2 (by decide))).trans ((hF 11 0 5 (by decide)).trans ((show frz 11 0 5 = 0 from by decide)))))) (rfl : i3 0 = i3 0) (by omega) (by omega) (by omega) (by omega)) (decide_eq_true (by omega))) ?_
      refine wz_lk0 (wz_sk0 ?_)
      refine fc_17_5  _ _ _ _ (zconso rfl (zconso rfl (zconso rfl (zconso rfl rfl)))) ?_
      refine fw_4 _ _ _ ?_
      refine wz_l1 sb_4_1 (fb_4_1 _ (i3 0) (i3 0) _ _ _ _ (zconso rfl (zconso (zvo (show (0 : Int32) = i3 0 from rfl)) (zconso (zvo (show (0 : Int32) = i3 0 from rfl)) (zconso rfl rfl)))) ?_)
      refine wz_i1 (Eq.trans (i3Le (Eq.trans (zm_rd (Z := Z2) (ν := ν) (k := 11) (show ((0 : Nat) : Int) = 0 from rfl) (show ((0 : Nat) : Int) = 0 from rfl) (show ((2 : Nat) : Int) = 2 from rfl)) (congrArg i3 ((zu_ne (k' := 11) (b' := 0) (i' := 0) (j' := 2) hZ2 (fun q => absurd q.2.2.2 (by decide))).trans ((hF 11 0 2 (by decide)).trans ((show frz 11 0 2 = 0 from by decide)))))) (rfl : i3 0 = i3 0) (by omega) (by omega) (by omega) (by omega)) (decide_eq_true (by omega))) ?_
      refine wz_lk0 (wz_sk0 ?_)
      refine fc_4_6 _ (i3 0) _ _ _ _ (zconso rfl (zconso (zvo (rfl : i3 0 = i3 0)) (zconso rfl (zconso rfl rfl)))) ?_
      refine wz_i0 (Eq.trans (i3NE (i3M (rfl : i3 0 = i3 0) (Eq.trans (zm_rd (Z := Z2) (ν := ν) (k := 13) (show ((0 : Nat) : Int) = 0 from rfl) (show ((0 : Nat) : Int) = 0 from rfl) (show ((1 : Nat) : Int) = 1 from rfl)) (congrArg i3 ((zu_ne (k' := 13) (b' := 0) (i' := 0) (j' := 1) hZ2 (fun q => absurd q.1 (by decide))).trans ((hF 13 0 1 (frq_s (by decide))).trans ((show frz 13 0 1 = 120 from by decide))))))) (show (0 : Int32) = i3 0 from rfl) (by omega) (by omega) (by omega) (by omega)) (decide_eq_false (by omega))) ?_
      refine wz_l1 sb_4_2 (fb_4_2 _ (i3 0) _ _ _ _ (zconso rfl (zconso rfl (zconso (zvo (show (0 : Int32) = i3 0 from rfl)) (zconso rfl rfl)))) ?_)
      refine wz_i1 (Eq.trans (i3Le (Eq.trans (zm_rd (Z := Z2) (ν := ν) (k := 11) (show ((0 : Nat) : Int) = 0 from rfl) (show ((0 : Nat) : Int) = 0 from rfl) (show ((10 : Nat) : Int) = 10 from rfl)) (congrArg i3 ((zu_ne (k' := 11) (b' := 0) (i' := 0) (j' := 10) hZ2 (fun q => absurd q.2.2.2 (by decide))).trans ((hF 11 0 10 (by decide)).trans ((show frz 11 0 10 = 0 from by decide)))))) (rfl : i3 0 = i3 0) (by omega) (by omega) (by omega) (by omega)) (decide_eq_true (by omega))) ?_
      refine wz_lk0 (wz_sk0 ?_)
      refine fc_4_5 _ _ _ _ _ (zconso rfl (zconso rfl (zconso rfl (zconso rfl rfl)))) ?_
      have r4 := z2_r (fun x y => x - x / y * y) (((x2 + 1) / 24) - 1) 7
      refine wz_br (i3NE (i3Z (fun x y => x - x / y * y) (i3S (i3D (Eq.trans (zm_rd (Z := Z2) (ν := ν) (k := 11) (show ((0 : Nat) : Int) = 0 from rfl) (show ((0 : Nat) : Int) = 0 from rfl) (show ((13 : Nat) : Int) = 13 from rfl)) (congrArg i3 (zu_at hZ2))) (show (24 : Int32) = i3 24 from rfl) (by omega) (by omega) (by omega) (by omega)) (show (1 : Int32) = i3 1 from rfl)) (show (7 : Int32) = i3 7 from rfl)) (show (6 : Int32) = i3 6 from rfl) (by omega) (by omega) (by omega) (by omega)) (fun h5 => ?_) (fun h5 => ?_)
      · skip
        refine wz_l1 sb_4_3 (fb_4_3 _ (i3 3) _ _ _ _ (zconso rfl (zconso rfl (zconso (zvo (show (3 : Int32) = i3 3 from rfl)) (zconso rfl rfl)))) ?_)
        refine wz_i0 (Eq.trans (i3L (show (8 : Int32) = i3 8 from rfl) (rfl : i3 3 = i3 3) (by omega) (by omega) (by omega) (by omega)) (decide_eq_false (by omega))) ?_
        refine wz_i0 (i3O (n := 10) (rfl : i3 3 = i3 3) (by omega) (by omega) (by omega)) ?_
        refine wz_i1 (Eq.trans (i3Le (Eq.trans (zm_rd (Z := Z2) (ν := ν) (k := 14) (show ((0 : Nat) : Int) = 0 from rfl) (show ((0 : Nat) : Int) = 0 from rfl) (i3I (y := 3) (rfl : i3 3 = i3 3) (by omega) (by omega) (by omega))) (congrArg i3 ((zu_ne (k' := 14) (b' := 0) (i' := 0) (j' := 3) hZ2 (fun q => absurd q.1 (by decide))).trans ((hF 14 0 3 (frq_s (by decide))).trans ((show frz 14 0 3 = 0 from by decide)))))) (show (0 : Int32) = i3 0 from rfl) (by omega) (by omega) (by omega) (by omega)) (decide_eq_true (by omega))) ?_
        refine wz_i0 (Eq.trans (i3NE (i3G (Eq.trans (zm_rd (Z := Z2) (ν := ν) (k := 14) (show ((0 : Nat) : Int) = 0 from rfl) (show ((0 : Nat) : Int) = 0 from rfl) (i3I (y := 3) (rfl : i3 3 = i3 3) (by omega) (by omega) (by omega))) (congrArg i3 ((zu_ne (k' := 14) (b' := 0) (i' := 0) (j' := 3) hZ2 (fun q => absurd q.1 (by decide))).trans ((hF 14 0 3 (frq_s (by decide))).trans ((show frz 14 0 3 = 0 from by decide))))))) (show (0 : Int32) = i3 0 from rfl) (by omega) (by omega) (by omega) (by omega)) (decide_eq_false (by omega))) ?_
        refine wz_k1 ?_
        refine wz_l1 sb_4_3 (fb_4_3 _ (i3 (3 + 1)) _ _ _ _ (zconso rfl (zconso rfl (zconso (zvo (i3A (rfl : i3 3 = i3 3) (show (1 : Int32) = i3 1 from rfl))) (zconso rfl rfl)))) ?_)
        refine wz_i0 (Eq.trans (i3L (show (8 : Int32) = i3 8 from rfl) (rfl : i3 (3 + 1) = i3 (3 + 1)) (by omega) (by omega) (by omega) (by omega)) (decide_eq_false (by omega))) ?_
        refine wz_i0 (i3O (n := 10) (rfl : i3 (3 + 1) = i3 (3 + 1)) (by omega) (by omega) (by omega)) ?_
        refine wz_i1 (Eq.trans (i3Le (Eq.trans (zm_rd (Z := Z2) (ν := ν) (k := 14) (show ((0 : Nat) : Int) = 0 from rfl) (show ((0 : Nat) : Int) = 0 from rfl) (i3I (y := 4) (rfl : i3 (3 + 1) = i3 (3 + 1)) (by omega) (by omega) (by omega))) (congrArg i3 ((zu_ne (k' := 14) (b' := 0) (i' := 0) (j' := 4) hZ2 (fun q => absurd q.1 (by decide))).trans ((hF 14 0 4 (frq_s (by decide))).trans ((show frz 14 0 4 = 0 from by decide)))))) (show (0 : Int32) = i3 0 from rfl) (by omega) (by omega) (by omega) (by omega)) (decide_eq_true (by omega))) ?_
        refine wz_i0 (Eq.trans (i3NE (i3G (Eq.trans (zm_rd (Z := Z2) (ν := ν) (k := 14) (show ((0 : Nat) : Int) = 0 from rfl) (show ((0 : Nat) : Int) = 0 from rfl) (i3I (y := 4) (rfl : i3 (3 + 1) = i3 (3 + 1)) (by omega) (by omega) (by omega))) (congrArg i3 ((zu_ne (k' := 14) (b' := 0) (i' := 0) (j' := 4) hZ2 (fun q => absurd q.1 (by decide))).trans ((hF 14 0 4 (frq_s (by decide))).trans ((show frz 14 0 4 = 0 from by decide))))))) (show (0 : Int32) = i3 0 from rfl) (by omega) (by omega) (by omega) (by omega)) (decide_eq_false (by omega))) ?_
        refine wz_k1 ?_
        refine wz_l1 sb_4_3 (fb_4_3 _ (i3 ((3 + 1) + 1)) _ _ _ _ (zconso rfl (zconso rfl (zconso (zvo (i3A (rfl : i3 (3 + 1) = i3 (3 + 1)) (show (1 : Int32) = i3 1 from rfl))) (zconso rfl rfl)))) ?_)
        refine wz_i0 (Eq.trans (i3L (show (8 : Int32) = i3 8 from rfl) (rfl : i3 ((3 + 1) + 1) = i3 ((3 + 1) + 1)) (by omega) (by omega) (by omega) (by omega)) (decide_eq_false (by omega))) ?_
        refine wz_i0 (i3O (n := 10) (rfl : i3 ((3 + 1) + 1) = i3 ((3 + 1) + 1)) (by omega) (by omega) (by omega)) ?_
        refine wz_i1 (Eq.trans (i3Le (Eq.trans (zm_rd (Z := Z2) (ν := ν) (k := 14) (show ((0 : Nat) : Int) = 0 from rfl) (show ((0 : Nat) : Int) = 0 from rfl) (i3I (y := 5) (rfl : i3 ((3 + 1) + 1) = i3 ((3 + 1) + 1)) (by omega) (by omega) (by omega))) (congrArg i3 ((zu_ne (k' := 14) (b' := 0) (i' := 0) (j' := 5) hZ2 (fun q => absurd q.1 (by decide))).trans ((hF 14 0 5 (frq_s (by decide))).trans ((show frz 14 0 5 = 0 from by decide)))))) (show (0 : Int32) = i3 0 from rfl) (by omega) (by omega) (by omega) (by omega)) (decide_eq_true (by omega))) ?_
        refine wz_i0 (Eq.trans (i3NE (i3G (Eq.trans (zm_rd (Z := Z2) (ν := ν) (k := 14) (show ((0 : Nat) : Int) = 0 from rfl) (show ((0 : Nat) : Int) = 0 from rfl) (i3I (y := 5) (rfl : i3 ((3 + 1) + 1) = i3 ((3 + 1) + 1)) (by omega) (by omega) (by omega))) (congrArg i3 ((zu_ne (k' := 14) (b' := 0) (i' := 0) (j' := 5) hZ2 (fun q => absurd q.1 (by decide))).trans ((hF 14 0 5 (frq_s (by decide))).trans ((show frz 14 0 5 = 0 from by decide))))))) (show (0 : Int32) = i3 0 from rfl) (by omega) (by omega) (by omega) (by omega)) (decide_eq_false (by omega))) ?_
        refine wz_k1 ?_
        refine wz_l1 sb_4_3 (fb_4_3 _ (i3 (((3 + 1) + 1) + 1)) _ _ _ _ (zconso rfl (zconso rfl (zconso (zvo (i3A (rfl : i3 ((3 + 1) + 1) = i3 ((3 + 1) + 1)) (show (1 : Int32) = i3 1 from rfl))) (zconso rfl rfl)))) ?_)
        refine wz_i0 (Eq.trans (i3L (show (8 : Int32) = i3 8 from rfl) (rfl : i3 (((3 + 1) + 1) + 1) = i3 (((3 + 1) + 1) + 1)) (by omega) (by omega) (by omega) (by omega)) (decide_eq_false (by omega))) ?_
        refine wz_i0 (i3O (n := 10) (rfl : i3 (((3 + 1) + 1) + 1) = i3 (((3 + 1) + 1) + 1)) (by omega) (by omega) (by omega)) ?_
        refine wz_i1 (Eq.trans (i3Le (Eq.trans (zm_rd (Z := Z2) (ν := ν) (k := 14) (show ((0 : Nat) : Int) = 0 from rfl) (show ((0 : Nat) : Int) = 0 from rfl) (i3I (y := 6) (rfl : i3 (((3 + 1) + 1) + 1) = i3 (((3 + 1) + 1) + 1)) (by omega) (by omega) (by omega))) (congrArg i3 ((zu_ne (k' := 14) (b' := 0) (i' := 0) (j' := 6) hZ2 (fun q => absurd q.1 (by decide))).trans ((hF 14 0 6 (frq_s (by decide))).trans ((show frz 14 0 6 = 0 from by decide)))))) (show (0 : Int32) = i3 0 from rfl) (by omega) (by omega) (by omega) (by omega)) (decide_eq_true (by omega))) ?_
        refine wz_i0 (Eq.trans (i3NE (i3G (Eq.trans (zm_rd (Z := Z2) (ν := ν) (k := 14) (show ((0 : Nat) : Int) = 0 from rfl) (show ((0 : Nat) : Int) = 0 from rfl) (i3I (y := 6) (rfl : i3 (((3 + 1) + 1) + 1) = i3 (((3 + 1) + 1) + 1)) (by omega) (by omega) (by omega))) (congrArg i3 ((zu_ne (k' := 14) (b' := 0) (i' := 0) (j' := 6) hZ2 (fun q => absurd q.1 (by decide))).trans ((hF 14 0 6 (frq_s (by decide))).trans ((show frz 14 0 6 = 0 from by decide))))))) (show (0 : Int32) = i3 0 from rfl) (by omega) (by omega) (by omega) (by omega)) (decide_eq_false (by omega))) ?_
        refine wz_k1 ?_
        refine wz_l1 sb_4_3 (fb_4_3 _ (i3 ((((3 + 1) + 1) + 1) + 1)) _ _ _ _ (zconso rfl (zconso rfl (zconso (zvo (i3A (rfl : i3 (((3 + 1) + 1) + 1) = i3 (((3 + 1) + 1) + 1)) (show (1 : Int32) = i3 1 from rfl))) (zconso rfl rfl)))) ?_)
        refine wz_i0 (Eq.trans (i3L (show (8 : Int32) = i3 8 from rfl) (rfl : i3 ((((3 + 1) + 1) + 1) + 1) = i3 ((((3 + 1) + 1) + 1) + 1)) (by omega) (by omega) (by omega) (by omega)) (decide_eq_false (by omega))) ?_
        refine wz_i0 (i3O (n := 10) (rfl : i3 ((((3 + 1) + 1) + 1) + 1) = i3 ((((3 + 1) + 1) + 1) + 1)) (by omega) (by omega) (by omega)) ?_
        refine wz_i1 (Eq.trans (i3Le (Eq.trans (zm_rd (Z := Z2) (ν := ν) (k := 14) (show ((0 : Nat) : Int) = 0 from rfl) (show ((0 : Nat) : Int) = 0 from rfl) (i3I (y := 7) (rfl : i3 ((((3 + 1) + 1) + 1) + 1) = i3 ((((3 + 1) + 1) + 1) + 1)) (by omega) (by omega) (by omega))) (congrArg i3 ((zu_ne (k' := 14) (b' := 0) (i' := 0) (j' := 7) hZ2 (fun q => absurd q.1 (by decide))).trans ((hF 14 0 7 (frq_s (by decide))).trans ((show frz 14 0 7 = 0 from by decide)))))) (show (0 : Int32) = i3 0 from rfl) (by omega) (by omega) (by omega) (by omega)) (decide_eq_true (by omega))) ?_
        refine wz_i0 (Eq.trans (i3NE (i3G (Eq.trans (zm_rd (Z := Z2) (ν := ν) (k := 14) (show ((0 : Nat) : Int) = 0 from rfl) (show ((0 : Nat) : Int) = 0 from rfl) (i3I (y := 7) (rfl : i3 ((((3 + 1) + 1) + 1) + 1) = i3 ((((3 + 1) + 1) + 1) + 1)) (by omega) (by omega) (by omega))) (congrArg i3 ((zu_ne (k' := 14) (b' := 0) (i' := 0) (j' := 7) hZ2 (fun q => absurd q.1 (by decide))).trans ((hF 14 0 7 (frq_s (by decide))).trans ((show frz 14 0 7 = 0 from by decide))))))) (show (0 : Int32) = i3 0 from rfl) (by omega) (by omega) (by omega) (by omega)) (decide_eq_false (by omega))) ?_
        refine wz_k1 ?_
        refine wz_l1 sb_4_3 (fb_4_3 _ (i3 (((((3 + 1) + 1) + 1) + 1) + 1)) _ _ _ _ (zconso rfl (zconso rfl (zconso (zvo (i3A (rfl : i3 ((((3 + 1) + 1) + 1) + 1) = i3 ((((3 + 1) + 1) + 1) + 1)) (show (1 : Int32) = i3 1 from rfl))) (zconso rfl rfl)))) ?_)
        refine wz_i0 (Eq.trans (i3L (show (8 : Int32) = i3 8 from rfl) (rfl : i3 (((((3 + 1) + 1) + 1) + 1) + 1) = i3 (((((3 + 1) + 1) + 1) + 1) + 1)) (by omega) (by omega) (by omega) (by omega)) (decide_eq_false (by omega))) ?_
        refine wz_i0 (i3O (n := 10) (rfl : i3 (((((3 + 1) + 1) + 1) + 1) + 1) = i3 (((((3 + 1) + 1) + 1) + 1) + 1)) (by omega) (by omega) (by omega)) ?_
        refine wz_i1 (Eq.trans (i3Le (Eq.trans (zm_rd (Z := Z2) (ν := ν) (k := 14) (show ((0 : Nat) : Int) = 0 from rfl) (show ((0 : Nat) : Int) = 0 from rfl) (i3I (y := 8) (rfl : i3 (((((3 + 1) + 1) + 1) + 1) + 1) = i3 (((((3 + 1) + 1) + 1) + 1) + 1)) (by omega) (by omega) (by omega))) (congrArg i3 ((zu_ne (k' := 14) (b' := 0) (i' := 0) (j' := 8) hZ2 (fun q => absurd q.1 (by decide))).trans ((hF 14 0 8 (frq_s (by decide))).trans ((show frz 14 0 8 = 0 from by decide)))))) (show (0 : Int32) = i3 0 from rfl) (by omega) (by omega) (by omega) (by omega)) (decide_eq_true (by omega))) ?_
        refine wz_i0 (Eq.trans (i3NE (i3G (Eq.trans (zm_rd (Z := Z2) (ν := ν) (k := 14) (show ((0 : Nat) : Int) = 0 from rfl) (show ((0 : Nat) : Int) = 0 from rfl) (i3I (y := 8) (rfl : i3 (((((3 + 1) + 1) + 1) + 1) + 1) = i3 (((((3 + 1) + 1) + 1) + 1) + 1)) (by omega) (by omega) (by omega))) (congrArg i3 ((zu_ne (k' := 14) (b' := 0) (i' := 0) (j' := 8) hZ2 (fun q => absurd q.1 (by decide))).trans ((hF 14 0 8 (frq_s (by decide))).trans ((show frz 14 0 8 = 0 from by decide))))))) (show (0 : Int32) = i3 0 from rfl) (by omega) (by omega) (by omega) (by omega)) (decide_eq_false (by omega))) ?_
        refine wz_k1 ?_
        refine wz_l1 sb_4_3 (fb_4_3 _ (i3 ((((((3 + 1) + 1) + 1) + 1) + 1) + 1)) _ _ _ _ (zconso rfl (zconso rfl (zconso (zvo (i3A (rfl : i3 (((((3 + 1) + 1) + 1) + 1) + 1) = i3 (((((3 + 1) + 1) + 1) + 1) + 1)) (show (1 : Int32) = i3 1 from rfl))) (zconso rfl rfl)))) ?_)
        refine wz_i1 (Eq.trans (i3L (show (8 : Int32) = i3 8 from rfl) (rfl : i3 ((((((3 + 1) + 1) + 1) + 1) + 1) + 1) = i3 ((((((3 + 1) + 1) + 1) + 1) + 1) + 1)) (by omega) (by omega) (by omega) (by omega)) (decide_eq_true (by omega))) ?_
        refine wz_lk0 (wz_sk0 ?_)
        refine fc_4_4  _ _ _ _ (zconso rfl (zconso rfl (zconso rfl (zconso rfl rfl)))) ?_
        have hn9 : Z2 11 0 0 13 = x2 + 1 := zu_at hZ2
        have hF9 : zFq Z2 := fun k i j hk => (Eq.trans (zu_ne hZ2 (fun q => frq_13 hk q.1 q.2.2.2)) (hF k i j hk))
        exact hgo (by omega) _ _ (zconso rfl (zconso (zvo (rfl : i3 x1 = i3 x1)) (zconso (zvo (i3A (rfl : i3 x2 = i3 x2) (show (1 : Int32) = i3 1 from rfl))) (zconso rfl (zconso rfl (zconso rfl rfl)))))) hZ2I hF9 hn9 hZ2K
      · skip
        refine fw_8 _ _ _ ?_
        refine wz_l1 sb_8_1 (fb_8_1 _ (i3 0) _ _ _ _ (zconso rfl (zconso (zvo (show (0 : Int32) = i3 0 from rfl)) (zconso rfl rfl))) ?_)
        refine wz_i1 (Eq.trans (i3Le (Eq.trans (zm_rd (Z := Z2) (ν := ν) (k := 11) (show ((0 : Nat) : Int) = 0 from rfl) (show ((0 : Nat) : Int) = 0 from rfl) (show ((1 : Nat) : Int) = 1 from rfl)) (congrArg i3 ((zu_ne (k' := 11) (b' := 0) (i' := 0) (j' := 1) hZ2 (fun q => absurd q.2.2.2 (by decide))).trans ((hF 11 0 1 (by decide)).trans ((show frz 11 0 1 = 0 from by decide)))))) (rfl : i3 0 = i3 0) (by omega) (by omega) (by omega) (by omega)) (decide_eq_true (by omega))) ?_
        refine wz_lk0 (wz_sk0 ?_)
        refine fc_8_2  _ _ _ _ (zconso rfl (zconso rfl (zconso rfl rfl))) ?_
        refine wz_l1 sb_4_3 (fb_4_3 _ (i3 3) _ _ _ _ (zconso rfl (zconso rfl (zconso (zvo (show (3 : Int32) = i3 3 from rfl)) (zconso rfl rfl)))) ?_)
        refine wz_i0 (Eq.trans (i3L (show (8 : Int32) = i3 8 from rfl) (rfl : i3 3 = i3 3) (by omega) (by omega) (by omega) (by omega)) (decide_eq_false (by omega))) ?_
        refine wz_i0 (i3O (n := 10) (rfl : i3 3 = i3 3) (by omega) (by omega) (by omega)) ?_
        refine wz_i1 (Eq.trans (i3Le (Eq.trans (zm_rd (Z := Z2) (ν := ν) (k := 14) (show ((0 : Nat) : Int) = 0 from rfl) (show ((0 : Nat) : Int) = 0 from rfl) (i3I (y := 3) (rfl : i3 3 = i3 3) (by omega) (by omega) (by omega))) (congrArg i3 ((zu_ne (k' := 14) (b' := 0) (i' := 0) (j' := 3) hZ2 (fun q => absurd q.1 (by decide))).trans ((hF 14 0 3 (frq_s (by decide))).trans ((show frz 14 0 3 = 0 from by decide)))))) (show (0 : Int32) = i3 0 from rfl) (by omega) (by omega) (by omega) (by omega)) (decide_eq_true (by omega))) ?_
        refine wz_i0 (Eq.trans (i3NE (i3G (Eq.trans (zm_rd (Z := Z2) (ν := ν) (k := 14) (show ((0 : Nat) : Int) = 0 from rfl) (show ((0 : Nat) : Int) = 0 from rfl) (i3I (y := 3) (rfl : i3 3 = i3 3) (by omega) (by omega) (by omega))) (congrArg i3 ((zu_ne (k' := 14) (b' := 0) (i' := 0) (j' := 3) hZ2 (fun q => absurd q.1 (by decide))).trans ((hF 14 0 3 (frq_s (by decide))).trans ((show frz 14 0 3 = 0 from by decide))))))) (show (0 : Int32) = i3 0 from rfl) (by omega) (by omega) (by omega) (by omega)) (decide_eq_false (by omega))) ?_
        refine wz_k1 ?_
        refine wz_l1 sb_4_3 (fb_4_3 _ (i3 (3 + 1)) _ _ _ _ (zconso rfl (zconso rfl (zconso (zvo (i3A (rfl : i3 3 = i3 3) (show (1 : Int32) = i3 1 from rfl))) (zconso rfl rfl)))) ?_)
        refine wz_i0 (Eq.trans (i3L (show (8 : Int32) = i3 8 from rfl) (rfl : i3 (3 + 1) = i3 (3 + 1)) (by omega) (by omega) (by omega) (by omega)) (decide_eq_false (by omega))) ?_
        refine wz_i0 (i3O (n := 10) (rfl : i3 (3 + 1) = i3 (3 + 1)) (by omega) (by omega) (by omega)) ?_
        refine wz_i1 (Eq.trans (i3Le (Eq.trans (zm_rd (Z := Z2) (ν := ν) (k := 14) (show ((0 : Nat) : Int) = 0 from rfl) (show ((0 : Nat) : Int) = 0 from rfl) (i3I (y := 4) (rfl : i3 (3 + 1) = i3 (3 + 1)) (by omega) (by omega) (by omega))) (congrArg i3 ((zu_ne (k' := 14) (b' := 0) (i' := 0) (j' := 4) hZ2 (fun q => absurd q.1 (by decide))).trans ((hF 14 0 4 (frq_s (by decide))).trans ((show frz 14 0 4 = 0 from by decide)))))) (show (0 : Int32) = i3 0 from rfl) (by omega) (by omega) (by omega) (by omega)) (decide_eq_true (by omega))) ?_
        refine wz_i0 (Eq.trans (i3NE (i3G (Eq.trans (zm_rd (Z := Z2) (ν := ν) (k := 14) (show ((0 : Nat) : Int) = 0 from rfl) (show ((0 : Nat) : Int) = 0 from rfl) (i3I (y := 4) (rfl : i3 (3 + 1) = i3 (3 + 1)) (by omega) (by omega) (by omega))) (congrArg i3 ((zu_ne (k' := 14) (b' := 0) (i' := 0) (j' := 4) hZ2 (fun q => absurd q.1 (by decide))).trans ((hF 14 0 4 (frq_s (by decide))).trans ((show frz 14 0 4 = 0 from by decide))))))) (show (0 : Int32) = i3 0 from rfl) (by omega) (by omega) (by omega) (by omega)) (decide_eq_false (by omega))) ?_
        refine wz_k1 ?_
        refine wz_l1 sb_4_3 (fb_4_3 _ (i3 ((3 + 1) + 1)) _ _ _ _ (zconso rfl (zconso rfl (zconso (zvo (i3A (rfl : i3 (3 + 1) = i3 (3 + 1)) (show (1 : Int32) = i3 1 from rfl))) (zconso rfl rfl)))) ?_)
        refine wz_i0 (Eq.trans (i3L (show (8 : Int32) = i3 8 from rfl) (rfl : i3 ((3 + 1) + 1) = i3 ((3 + 1) + 1)) (by omega) (by omega) (by omega) (by omega)) (decide_eq_false (by omega))) ?_
        refine wz_i0 (i3O (n := 10) (rfl : i3 ((3 + 1) + 1) = i3 ((3 + 1) + 1)) (by omega) (by omega) (by omega)) ?_
        refine wz_i1 (Eq.trans (i3Le (Eq.trans (zm_rd (Z := Z2) (ν := ν) (k := 14) (show ((0 : Nat) : Int) = 0 from rfl) (show ((0 : Nat) : Int) = 0 from rfl) (i3I (y := 5) (rfl : i3 ((3 + 1) + 1) = i3 ((3 + 1) + 1)) (by omega) (by omega) (by omega))) (congrArg i3 ((zu_ne (k' := 14) (b' := 0) (i' := 0) (j' := 5) hZ2 (fun q => absurd q.1 (by decide))).trans ((hF 14 0 5 (frq_s (by decide))).trans ((show frz 14 0 5 = 0 from by decide)))))) (show (0 : Int32) = i3 0 from rfl) (by omega) (by omega) (by omega) (by omega)) (decide_eq_true (by omega))) ?_
        refine wz_i0 (Eq.trans (i3NE (i3G (Eq.trans (zm_rd (Z := Z2) (ν := ν) (k := 14) (show ((0 : Nat) : Int) = 0 from rfl) (show ((0 : Nat) : Int) = 0 from rfl) (i3I (y := 5) (rfl : i3 ((3 + 1) + 1) = i3 ((3 + 1) + 1)) (by omega) (by omega) (by omega))) (congrArg i3 ((zu_ne (k' := 14) (b' := 0) (i' := 0) (j' := 5) hZ2 (fun q => absurd q.1 (by decide))).trans ((hF 14 0 5 (frq_s (by decide))).trans ((show frz 14 0 5 = 0 from by decide))))))) (show (0 : Int32) = i3 0 from rfl) (by omega) (by omega) (by omega) (by omega)) (decide_eq_false (by omega))) ?_
        refine wz_k1 ?_
        refine wz_l1 sb_4_3 (fb_4_3 _ (i3 (((3 + 1) + 1) + 1)) _ _ _ _ (zconso rfl (zconso rfl (zconso (zvo (i3A (rfl : i3 ((3 + 1) + 1) = i3 ((3 + 1) + 1)) (show (1 : Int32) = i3 1 from rfl))) (zconso rfl rfl)))) ?_)
        refine wz_i0 (Eq.trans (i3L (show (8 : Int32) = i3 8 from rfl) (rfl : i3 (((3 + 1) + 1) + 1) = i3 (((3 + 1) + 1) + 1)) (by omega) (by omega) (by omega) (by omega)) (decide_eq_false (by omega))) ?_
        refine wz_i0 (i3O (n := 10) (rfl : i3 (((3 + 1) + 1) + 1) = i3 (((3 + 1) + 1) + 1)) (by omega) (by omega) (by omega)) ?_
        refine wz_i1 (Eq.trans (i3Le (Eq.trans (zm_rd (Z := Z2) (ν := ν) (k := 14) (show ((0 : Nat) : Int) = 0 from rfl) (show ((0 : Nat) : Int) = 0 from rfl) (i3I (y := 6) (rfl : i3 (((3 + 1) + 1) + 1) = i3 (((3 + 1) + 1) + 1)) (by omega) (by omega) (by omega))) (congrArg i3 ((zu_ne (k' := 14) (b' := 0) (i' := 0) (j' := 6) hZ2 (fun q => absurd q.1 (by decide))).trans ((hF 14 0 6 (frq_s (by decide))).trans ((show frz 14 0 6 = 0 from by decide)))))) (show (0 : Int32) = i3 0 from rfl) (by omega) (by omega) (by omega) (by omega)) (decide_eq_true (by omega))) ?_
        refine wz_i0 (Eq.trans (i3NE (i3G (Eq.trans (zm_rd (Z := Z2) (ν := ν) (k := 14) (show ((0 : Nat) : Int) = 0 from rfl) (show ((0 : Nat) : Int) = 0 from rfl) (i3I (y := 6) (rfl : i3 (((3 + 1) + 1) + 1) = i3 (((3 + 1) + 1) + 1)) (by omega) (by omega) (by omega))) (congrArg i3 ((zu_ne (k' := 14) (b' := 0) (i' := 0) (j' := 6) hZ2 (fun q => absurd q.1 (by decide))).trans ((hF 14 0 6 (frq_s (by decide))).trans ((show frz 14 0 6 = 0 from by decide))))))) (show (0 : Int32) = i3 0 from rfl) (by omega) (by omega) (by omega) (by omega)) (decide_eq_false (by omega))) ?_
        refine wz_k1 ?_
        refine wz_l1 sb_4_3 (fb_4_3 _ (i3 ((((3 + 1) + 1) + 1) + 1)) _ _ _ _ (zconso rfl (zconso rfl (zconso (zvo (i3A (rfl : i3 (((3 + 1) + 1) + 1) = i3 (((3 + 1) + 1) + 1)) (show (1 : Int32) = i3 1 from rfl))) (zconso rfl rfl)))) ?_)
        refine wz_i0 (Eq.trans (i3L (show (8 : Int32) = i3 8 from rfl) (rfl : i3 ((((3 + 1) + 1) + 1) + 1) = i3 ((((3 + 1) + 1) + 1) + 1)) (by omega) (by omega) (by omega) (by omega)) (decide_eq_false (by omega))) ?_
        refine wz_i0 (i3O (n := 10) (rfl : i3 ((((3 + 1) + 1) + 1) + 1) = i3 ((((3 + 1) + 1) + 1) + 1)) (by omega) (by omega) (by omega)) ?_
        refine wz_i1 (Eq.trans (i3Le (Eq.trans (zm_rd (Z := Z2) (ν := ν) (k := 14) (show ((0 : Nat) : Int) = 0 from rfl) (show ((0 : Nat) : Int) = 0 from rfl) (i3I (y := 7) (rfl : i3 ((((3 + 1) + 1) + 1) + 1) = i3 ((((3 + 1) + 1) + 1) + 1)) (by omega) (by omega) (by omega))) (congrArg i3 ((zu_ne (k' := 14) (b' := 0) (i' := 0) (j' := 7) hZ2 (fun q => absurd q.1 (by decide))).trans ((hF 14 0 7 (frq_s (by decide))).trans ((show frz 14 0 7 = 0 from by decide)))))) (show (0 : Int32) = i3 0 from rfl) (by omega) (by omega) (by omega) (by omega)) (decide_eq_true (by omega))) ?_
        refine wz_i0 (Eq.trans (i3NE (i3G (Eq.trans (zm_rd (Z := Z2) (ν := ν) (k := 14) (show ((0 : Nat) : Int) = 0 from rfl) (show ((0 : Nat) : Int) = 0 from rfl) (i3I (y := 7) (rfl : i3 ((((3 + 1) + 1) + 1) + 1) = i3 ((((3 + 1) + 1) + 1) + 1)) (by omega) (by omega) (by omega))) (congrArg i3 ((zu_ne (k' := 14) (b' := 0) (i' := 0) (j' := 7) hZ2 (fun q => absurd q.1 (by decide))).trans ((hF 14 0 7 (frq_s (by decide))).trans ((show frz 14 0 7 = 0 from by decide))))))) (show (0 : Int32) = i3 0 from rfl) (by omega) (by omega) (by omega) (by omega)) (decide_eq_false (by omega))) ?_
        refine wz_k1 ?_
        refine wz_l1 sb_4_3 (fb_4_3 _ (i3 (((((3 + 1) + 1) + 1) + 1) + 1)) _ _ _ _ (zconso rfl (zconso rfl (zconso (zvo (i3A (rfl : i3 ((((3 + 1) + 1) + 1) + 1) = i3 ((((3 + 1) + 1) + 1) + 1)) (show (1 : Int32) = i3 1 from rfl))) (zconso rfl rfl)))) ?_)
        refine wz_i0 (Eq.trans (i3L (show (8 : Int32) = i3 8 from rfl) (rfl : i3 (((((3 + 1) + 1) + 1) + 1) + 1) = i3 (((((3 + 1) + 1) + 1) + 1) + 1)) (by omega) (by omega) (by omega) (by omega)) (decide_eq_false (by omega))) ?_
        refine wz_i0 (i3O (n := 10) (rfl : i3 (((((3 + 1) + 1) + 1) + 1) + 1) = i3 (((((3 + 1) + 1) + 1) + 1) + 1)) (by omega) (by omega) (by omega)) ?_
        refine wz_i1 (Eq.trans (i3Le (Eq.trans (zm_rd (Z := Z2) (ν := ν) (k := 14) (show ((0 : Nat) : Int) = 0 from rfl) (show ((0 : Nat) : Int) = 0 from rfl) (i3I (y := 8) (rfl : i3 (((((3 + 1) + 1) + 1) + 1) + 1) = i3 (((((3 + 1) + 1) + 1) + 1) + 1)) (by omega) (by omega) (by omega))) (congrArg i3 ((zu_ne (k' := 14) (b' := 0) (i' := 0) (j' := 8) hZ2 (fun q => absurd q.1 (by decide))).trans ((hF 14 0 8 (frq_s (by decide))).trans ((show frz 14 0 8 = 0 from by decide)))))) (show (0 : Int32) = i3 0 from rfl) (by omega) (by omega) (by omega) (by omega)) (decide_eq_true (by omega))) ?_
        refine wz_i0 (Eq.trans (i3NE (i3G (Eq.trans (zm_rd (Z := Z2) (ν := ν) (k := 14) (show ((0 : Nat) : Int) = 0 from rfl) (show ((0 : Nat) : Int) = 0 from rfl) (i3I (y := 8) (rfl : i3 (((((3 + 1) + 1) + 1) + 1) + 1) = i3 (((((3 + 1) + 1) + 1) + 1) + 1)) (by omega) (by omega) (by omega))) (congrArg i3 ((zu_ne (k' := 14) (b' := 0) (i' := 0) (j' := 8) hZ2 (fun q => absurd q.1 (by decide))).trans ((hF 14 0 8 (frq_s (by decide))).trans ((show frz 14 0 8 = 0 from by decide))))))) (show (0 : Int32) = i3 0 from rfl) (by omega) (by omega) (by omega) (by omega)) (decide_eq_false (by omega))) ?_
        refine wz_k1 ?_
        refine wz_l1 sb_4_3 (fb_4_3 _ (i3 ((((((3 + 1) + 1) + 1) + 1) + 1) + 1)) _ _ _ _ (zconso rfl (zconso rfl (zconso (zvo (i3A (rfl : i3 (((((3 + 1) + 1) + 1) + 1) + 1) = i3 (((((3 + 1) + 1) + 1) + 1) + 1)) (show (1 : Int32) = i3 1 from rfl))) (zconso rfl rfl)))) ?_)
        refine wz_i1 (Eq.trans (i3L (show (8 : Int32) = i3 8 from rfl) (rfl : i3 ((((((3 + 1) + 1) + 1) + 1) + 1) + 1) = i3 ((((((3 + 1) + 1) + 1) + 1) + 1) + 1)) (by omega) (by omega) (by omega) (by omega)) (decide_eq_true (by omega))) ?_
        refine wz_lk0 (wz_sk0 ?_)
        refine fc_4_4  _ _ _ _ (zconso rfl (zconso rfl (zconso rfl (zconso rfl rfl)))) ?_
        have hn9 : Z2 11 0 0 13 = x2 + 1 := zu_at hZ2
        have hF9 : zFq Z2 := fun k i j hk => (Eq.trans (zu_ne hZ2 (fun q => frq_13 hk q.1 q.2.2.2)) (hF k i j hk))
        exact hgo (by omega) _ _ (zconso rfl (zconso (zvo (rfl : i3 x1 = i3 x1)) (zconso (zvo (i3A (rfl : i3 x2 = i3 x2) (show (1 : Int32) = i3 1 from rfl))) (zconso rfl (zconso rfl (zconso rfl rfl)))))) hZ2I hF9 hn9 hZ2K
theorem zFp_q {Z : qz_Z} (h : zFp Z) : zFq Z := fun k i j hk => h k i j (by
  by_cases h11 : k = 11
  · subst h11
    unfold frq at hk
    unfold frp
    simp only [Bool.and_eq_true, Bool.not_eq_true', Bool.or_eq_false_iff, Bool.and_eq_false_iff] at hk ⊢
    obtain ⟨a, b, c⟩ := hk
    refine ⟨a, by decide, ?_⟩
    rcases c with c | c
    · exact .inl c
    · exact .inr ⟨c.2.1, c.2.2⟩
  · have h2 : frk k = true ∧ [1, 2, 3, 61, 68].contains k = false := by
      unfold frq at hk
      simp only [Bool.and_eq_true, Bool.not_eq_true'] at hk
      exact ⟨hk.1, hk.2.1⟩
    refine frp_s ?_
    rw [h2.1, Bool.true_and]
    have h3 : ¬ (k = 3 ∨ k = 61 ∨ k = 68 ∨ k = 11) := by
      rintro (q | q | q | q)
      · subst q; exact absurd h2.2 (by decide)
      · subst q; exact absurd h2.2 (by decide)
      · subst q; exact absurd h2.2 (by decide)
      · exact h11 q
    cases hc : [3, 61, 68, 11].contains k
    · rfl
    · have := List.contains_iff_mem.mp hc
      simp only [List.mem_cons, List.not_mem_nil, or_false] at this
      exact absurd (by omega) h3)
theorem sp_lh {Z : qz_Z} {ν : qz_N} (hZ : zI none Z) (hF : zFq Z) (hnow : Z 11 0 0 13 = 0) {x1 : Int} (gx1 : 1 ≤ x1 ∧ x1 ≤ 72) : ∃ Z1 : qz_Z, qf_118 [.inr (.inr (some (10, 0, 0))), .inl (i3 x1)] (zm Z ν) = some (zm Z1 ν, .inl (some (.inl (i3 x1)))) ∧ zI none Z1 ∧ zK [11] Z Z1 := by
  have h : wz_call qf_118 [.inr (.inr (some (10, 0, 0))), .inl (i3 x1)] (zm Z ν) (fun μ o => ∃ Z1, (μ = zm Z1 ν ∧ o = .inl (some (.inl (i3 x1)))) ∧ zI none Z1 ∧ zK [11] Z Z1) := by
    refine fw_118 0 (i3 x1) _ _ ?_
    refine wz_lp sb_118_9 (fun m x => ∃ (Z1 : qz_Z) (x2 : Int), qz_fg [true, true, true, false, false, false] x.1 = [some (.inr (.inr (some (10, 0, 0)))), some (.inl (i3 x1)), some (.inl (i3 x2)), none, none, none] ∧ x.2 = ([], zm Z1 ν) ∧ zI none Z1 ∧ zFq Z1 ∧ Z1 11 0 0 13 = x2 ∧ zK [11] Z Z1 ∧ (0 ≤ x2 ∧ x2 ≤ x1) ∧ m = (x1 - x2).toNat) ?_ 65536 _ _ (by omega) ⟨Z, 0, rfl, rfl, hZ, hF, hnow, zK_r, by omega, rfl⟩
    rintro m ⟨L, st, μ⟩ ⟨Z1, x2, hL, hx, hI, hF1, hn, hK, hr, hm⟩
    cases hx
    refine hc_body hI hF1 gx1 ⟨hr.1, by omega⟩ hn hL (fun hle => ?_) (fun hc Z2 L2 hL2 hI2 hF2 hn2 hK2 => ?_)
    · refine wz_sk0 (fc_118_10 0 _ _ _ [some (.inr (.inr (some (10, 0, 0)))), some (.inl (i3 x1)), some (.inl (i3 x2)), none, none, none] rfl ?_)
      have e : x2 = x1 := by omega
      refine ⟨Z1, ⟨rfl, ?_⟩, hI, hK⟩
      show Sum.inl (some (Sum.inl (i3 (Z1 11 0 0 13)))) = _
      rw [hn, e]
    · exact ⟨(x1 - (x2 + 1)).toNat, by omega, Z2, x2 + 1, hL2, rfl, hI2, hF2, hn2, zK_t hK hK2 (by decide), by omega, rfl⟩
  obtain ⟨μ', o, e, Z1, ⟨h1, h2⟩, h3⟩ := h
  exact ⟨Z1, by rw [e, h1, h2], h3⟩
/- yX11_pass -/
def zg_227 (a1 : Int) : Int × Int := (if 1 ≤ a1 ∧ a1 ≤ 72 then (a1, 0) else (0, 13))
theorem sg_227 {Z : qz_Z} {ν : qz_N} (hZ : zI none Z) (hF : zF Z) {a1 : Int} (ga1 : -2147483648 ≤ a1 ∧ a1 ≤ 2147483647) : ∃ (Z1 : qz_Z) (ν1 : qz_N) (v E : Int), (v, E) = zg_227 a1 ∧ qf_227 [.inr (.inr (some (0, 0, 0))), .inl (i3 a1)] (zm Z ν) = some (zm Z1 ν1, zoX v E) ∧ (fun Z1 ν1 => zI none Z1 ∧ zK [3, 11, 12, 13, 14, 40, 41, 42, 43, 44, 45, 46, 47, 48, 49, 50, 51, 52, 53, 54, 61, 68] Z Z1 ∧ zN ν ν1) Z1 ν1 := by
  obtain ⟨P, hP⟩ := zx (zg_227 a1)
  refine zc_X (Q := fun Z1 ν1 => zI none Z1 ∧ zK [3, 11, 12, 13, 14, 40, 41, 42, 43, 44, 45, 46, 47, 48, 49, 50, 51, 52, 53, 54, 61, 68] Z Z1 ∧ zN ν ν1) hP (fw_227 (i3 a1) _ _ ?_)
  replace hP : zE P (zg_227 a1) := hP
  unfold zg_227 at hP
  refine wz_inR (rfl : i3 a1 = i3 a1) (show (1 : Int32) = i3 1 from rfl) (show (72 : Int32) = i3 72 from rfl) (by omega) (by omega) (by omega) (by omega) (by omega) (by omega) (fun h1 => ?_) (fun h1 => ?_)
  · replace hP := zE_p hP h1
    refine wz_i0 (Eq.trans (i3L (show (671 : Int32) = i3 671 from rfl) (i3A (Eq.trans (zm_rd (Z := Z) (ν := ν) (k := 11) (show ((0 : Nat) : Int) = 0 from rfl) (show ((0 : Nat) : Int) = 0 from rfl) (show ((13 : Nat) : Int) = 13 from rfl)) (congrArg i3 ((hF 11 0 13 (by decide)).trans ((show frz 11 0 13 = 0 from by decide))))) (rfl : i3 a1 = i3 a1)) (by omega) (by omega) (by omega) (by omega)) (decide_eq_false (by omega))) ?_
    refine wz_inT_y (show (1 : Int32) = i3 1 from rfl) (by omega) (by omega) (by omega) ?_
    refine dc_J (zcons rfl (zcons (zvi (show (27 : Int32) = i3 27 from rfl)) (zcons (zvi (rfl : i3 a1 = i3 a1)) (zcons (zvi (show (0 : Int32) = i3 0 from rfl)) (zcons (zvi (show (0 : Int32) = i3 0 from rfl)) (zcons (zvi (show (0 : Int32) = i3 0 from rfl)) (zcons (zvi (show (0 : Int32) = i3 0 from rfl)) (zcons (zvi (show (0 : Int32) = i3 0 from rfl)) rfl)))))))) (dc_I (ws := [3, 11, 12, 13, 14, 40, 41, 42, 43, 44, 45, 46, 47, 48, 49, 50, 51, 52, 53, 54, 61, 68]) (Z0 := Z) hF hZ zK_r (by decide) (by omega) (by omega) (by omega) (by omega) (by omega) (by omega) (by omega) (fun Z3 hZ3I hZ3F hZ3A hZ3K => ?_))
    refine fw_121 _ _ _ _ ?_
    refine wz_i1 rfl ?_
    refine wz_i0 (i3O (n := 7) (show (0 : Int32) = i3 0 from rfl) (by omega) (by omega) (by omega)) ?_
    refine wz_i1 (Eq.trans (i3To (Eq.trans (zm_rd (Z := Z3) (ν := ν) (k := 68) (show ((0 : Nat) : Int) = 0 from rfl) (show ((0 : Nat) : Int) = 0 from rfl) (show ((0 : Nat) : Int) = 0 from rfl)) (congrArg i3 ((hZ3A.1)))) (by omega) (by omega)) (decide_eq_true (by omega))) ?_
    refine wz_i1 rfl ?_
    refine wz_i0 (i3O (n := 7) (show (1 : Int32) = i3 1 from rfl) (by omega) (by omega) (by omega)) ?_
    obtain ⟨Z4, c9, hZ4I, kZ4⟩ := sp_lh (ν := ν) hZ3I (zFp_q hZ3F) ((hZ3F 11 0 13 (by decide)).trans ((show frz 11 0 13 = 0 from by decide))) (x1 := a1) (by omega)
    have hZ4K : zK [3, 11, 12, 13, 14, 40, 41, 42, 43, 44, 45, 46, 47, 48, 49, 50, 51, 52, 53, 54, 61, 68] Z Z4 := zK_t hZ3K kZ4 (by decide)
    refine wz_cI_of (zas (zcons rfl (zcons (zvi (Eq.trans (zm_rd (Z := Z3) (ν := ν) (k := 68) (show ((0 : Nat) : Int) = 0 from rfl) (show ((0 : Nat) : Int) = 0 from rfl) (show ((1 : Nat) : Int) = 1 from rfl)) (congrArg i3 ((hZ3A.2.1))))) rfl)) c9) ?_
    exact zlX hP (rfl : i3 a1 = i3 a1) ⟨hZ4I, hZ4K, zN_r⟩
  · replace hP := zE_n hP h1
    exact zlXe (E := 12) hP ⟨hZ, zK_r, zN_k rfl⟩

/- yX12_match -/
def zg_436 (a1 : Int) : Int × Int := (if a1 < 0 then (0, 1) else (if 2 < a1 then (if a1 < 10 then (0, 1) else (0, 1)) else (if a1 ≠ 2 then (0, 0) else (0, 0))))
theorem sg_436 {Z : qz_Z} {ν : qz_N} (hZ : zI none Z) (hF : zFm Z) {a1 : Int} (ga1 : -2147483648 ≤ a1 ∧ a1 ≤ 2147483647) : ∃ (Z1 : qz_Z) (ν1 : qz_N) (v t : Int), (v, t) = zg_436 a1 ∧ qf_436 [.inr (.inr (some (1, 0, 0))), .inl (i3 a1)] (zm Z ν) = some (zm Z1 ν1, .inl (some (.inl (i3 v)))) ∧ Z1 1 0 0 2 = t ∧ (fun Z1 ν1 => zI none Z1 ∧ zK [1] Z Z1 ∧ zN ν ν1) Z1 ν1 := by
  obtain ⟨P, hP⟩ := zx (zg_436 a1)
  refine zc_M (Q := fun Z1 ν1 => zI none Z1 ∧ zK [1] Z Z1 ∧ zN ν ν1) hP (fw_436 (i3 a1) _ _ ?_)
  replace hP : zE P (zg_436 a1) := hP
  unfold zg_436 at hP
  refine wz_br (i3L (rfl : i3 a1 = i3 a1) (show (0 : Int32) = i3 0 from rfl) (by omega) (by omega) (by omega) (by omega)) (fun h1 => ?_) (fun h1 => ?_)
  · replace hP := zE_p hP h1
    refine wz_i1 (Eq.trans (i3L (rfl : i3 a1 = i3 a1) (show (10 : Int32) = i3 10 from rfl) (by omega) (by omega) (by omega) (by omega)) (decide_eq_true (by omega))) ?_
    obtain ⟨Z2, hZ2⟩ := zx (zu Z 1 0 0 2 1)
    have hZ2I := zI_u hZ hZ2 (lo := -2147483648) (hi := 2147483647) (by decide) rfl (by omega) ⟨by decide, by decide⟩ (Or.inr (by decide))
    have hZ2K : zK [1] Z Z2 := zK_u zK_r hZ2 (by decide)
    intro μ9 e9
    replace e9 := e9.trans (zm_wI (Z := Z) (ν := ν) hZ2 (show ((0 : Nat) : Int) = 0 from rfl) (show ((0 : Nat) : Int) = 0 from rfl) (show ((2 : Nat) : Int) = 2 from rfl) (show (1 : Int32) = i3 1 from rfl))
    subst e9
    exact zlM hP (show (0 : Int32) = i3 0 from rfl) (zu_at hZ2) ⟨hZ2I, hZ2K, zN_r⟩
  · replace hP := zE_n hP h1
    refine wz_br (i3L (show (2 : Int32) = i3 2 from rfl) (rfl : i3 a1 = i3 a1) (by omega) (by omega) (by omega) (by omega)) (fun h3 => ?_) (fun h3 => ?_)
    · replace hP := zE_p hP h3
      refine wz_br (i3L (rfl : i3 a1 = i3 a1) (show (10 : Int32) = i3 10 from rfl) (by omega) (by omega) (by omega) (by omega)) (fun h4 => ?_) (fun h4 => ?_)
      · replace hP := zE_p hP h4
        obtain ⟨Z5, hZ5⟩ := zx (zu Z 1 0 0 2 1)
        have hZ5I := zI_u hZ hZ5 (lo := -2147483648) (hi := 2147483647) (by decide) rfl (by omega) ⟨by decide, by decide⟩ (Or.inr (by decide))
        have hZ5K : zK [1] Z Z5 := zK_u zK_r hZ5 (by decide)
        intro μ9 e9
        replace e9 := e9.trans (zm_wI (Z := Z) (ν := ν) hZ5 (show ((0 : Nat) : Int) = 0 from rfl) (show ((0 : Nat) : Int) = 0 from rfl) (show ((2 : Nat) : Int) = 2 from rfl) (show (1 : Int32) = i3 1 from rfl))
        subst e9
        exact zlM hP (show (0 : Int32) = i3 0 from rfl) (zu_at hZ5) ⟨hZ5I, hZ5K, zN_r⟩
      · replace hP := zE_n hP h4
        refine wz_i1 (Eq.trans (i3L (i3A (show (9 : Int32) = i3 9 from rfl) (Eq.trans (zm_rd (Z := Z) (ν := ν) (k := 2) (show ((0 : Nat) : Int) = 0 from rfl) (show ((0 : Nat) : Int) = 0 from rfl) (show ((1401 : Nat) : Int) = 1401 from rfl)) (congrArg i3 ((hF 2 0 1401 (by decide)).trans ((show frz 2 0 1401 = 0 from by decide)))))) (rfl : i3 a1 = i3 a1) (by omega) (by omega) (by omega) (by omega)) (decide_eq_true (by omega))) ?_
        obtain ⟨Z6, hZ6⟩ := zx (zu Z 1 0 0 2 1)
        have hZ6I := zI_u hZ hZ6 (lo := -2147483648) (hi := 2147483647) (by decide) rfl (by omega) ⟨by decide, by decide⟩ (Or.inr (by decide))
        have hZ6K : zK [1] Z Z6 := zK_u zK_r hZ6 (by decide)
        intro μ9 e9
        replace e9 := e9.trans (zm_wI (Z := Z) (ν := ν) hZ6 (show ((0 : Nat) : Int) = 0 from rfl) (show ((0 : Nat) : Int) = 0 from rfl) (show ((2 : Nat) : Int) = 2 from rfl) (show (1 : Int32) = i3 1 from rfl))
        subst e9
        exact zlM hP (show (0 : Int32) = i3 0 from rfl) (zu_at hZ6) ⟨hZ6I, hZ6K, zN_r⟩
    · replace hP := zE_n hP h3
      obtain ⟨Z7, hZ7⟩ := zx (zu Z 1 0 0 2 0)
      have hZ7I := zI_0 hZ hZ7 (by decide) (Or.inr (by decide))
      have hZ7K : zK [1] Z Z7 := zK_u zK_r hZ7 (by decide)
      intro μ9 e9
      replace e9 := e9.trans (zm_wI (Z := Z) (ν := ν) hZ7 (show ((0 : Nat) : Int) = 0 from rfl) (show ((0 : Nat) : Int) = 0 from rfl) (show ((2 : Nat) : Int) = 2 from rfl) (show (0 : Int32) = i3 0 from rfl))
      subst e9
      refine wz_br (i3NE (rfl : i3 a1 = i3 a1) (show (2 : Int32) = i3 2 from rfl) (by omega) (by omega) (by omega) (by omega)) (fun h8 => ?_) (fun h8 => ?_)
      · replace hP := zE_p hP h8
        refine fw_268  _ _ ?_
        refine fw_274  _ _ ?_
        refine wz_l0 sb_274_1 (fb_274_1 (i3 0) _ _ _ _ (zconso rfl (zconso (zvo (show (0 : Int32) = i3 0 from rfl)) (zconso rfl rfl))) ?_)
        refine wz_i1 (Eq.trans (i3Le (Eq.trans (zm_rd (Z := Z7) (ν := ν) (k := 2) (show ((0 : Nat) : Int) = 0 from rfl) (show ((0 : Nat) : Int) = 0 from rfl) (show ((102 : Nat) : Int) = 102 from rfl)) (congrArg i3 ((zu_ne (k' := 2) (b' := 0) (i' := 0) (j' := 102) hZ7 (fun q => absurd q.1 (by decide))).trans ((hF 2 0 102 (by decide)).trans ((show frz 2 0 102 = 0 from by decide)))))) (rfl : i3 0 = i3 0) (by omega) (by omega) (by omega) (by omega)) (decide_eq_true (by omega))) ?_
        refine wz_lk0 (wz_sk0 ?_)
        refine fc_274_6  _ _ _ _ (zconso rfl (zconso rfl (zconso rfl rfl))) ?_
        refine wz_l0 sb_274_4 (fb_274_4 (i3 0) _ _ _ _ (zconso rfl (zconso (zvo (show (0 : Int32) = i3 0 from rfl)) (zconso rfl rfl))) ?_)
        refine wz_i1 (Eq.trans (i3Le (Eq.trans (zm_rd (Z := Z7) (ν := ν) (k := 2) (show ((0 : Nat) : Int) = 0 from rfl) (show ((0 : Nat) : Int) = 0 from rfl) (show ((1401 : Nat) : Int) = 1401 from rfl)) (congrArg i3 ((zu_ne (k' := 2) (b' := 0) (i' := 0) (j' := 1401) hZ7 (fun q => absurd q.1 (by decide))).trans ((hF 2 0 1401 (by decide)).trans ((show frz 2 0 1401 = 0 from by decide)))))) (rfl : i3 0 = i3 0) (by omega) (by omega) (by omega) (by omega)) (decide_eq_true (by omega))) ?_
        refine wz_lk0 (wz_sk0 ?_)
        refine fc_274_5  _ _ _ _ (zconso rfl (zconso rfl (zconso rfl rfl))) ?_
        refine fw_277  _ _ ?_
        refine wz_l0 sb_277_1 (fb_277_1 (i3 (-1)) (i3 0) _ _ _ _ (zconso rfl (zconso (zvo (show (-1 : Int32) = i3 (-1) from rfl)) (zconso (zvo (show (0 : Int32) = i3 0 from rfl)) rfl))) ?_)
        refine wz_i1 (Eq.trans (i3Le (Eq.trans (zm_rd (Z := Z7) (ν := ν) (k := 2) (show ((0 : Nat) : Int) = 0 from rfl) (show ((0 : Nat) : Int) = 0 from rfl) (show ((1401 : Nat) : Int) = 1401 from rfl)) (congrArg i3 ((zu_ne (k' := 2) (b' := 0) (i' := 0) (j' := 1401) hZ7 (fun q => absurd q.1 (by decide))).trans ((hF 2 0 1401 (by decide)).trans ((show frz 2 0 1401 = 0 from by decide)))))) (rfl : i3 0 = i3 0) (by omega) (by omega) (by omega) (by omega)) (decide_eq_true (by omega))) ?_
        refine wz_lk0 (wz_sk0 ?_)
        refine fc_277_2 (i3 (-1)) _ _ _ _ (zconso rfl (zconso (zvo (rfl : i3 (-1) = i3 (-1))) (zconso rfl rfl))) ?_
        refine wz_l0 sb_268_3 (fb_268_3 (i3 (-1)) _ _ _ _ (zconso rfl (zconso (zvo (rfl : i3 (-1) = i3 (-1))) rfl)) ?_)
        refine wz_i1 (Eq.trans (i3E (rfl : i3 (-1) = i3 (-1)) (show (-1 : Int32) = i3 (-1) from rfl) (by omega) (by omega) (by omega) (by omega)) (decide_eq_true (by omega))) ?_
        refine wz_lk0 (wz_sk0 ?_)
        refine fc_268_4  _ _ _ _ (zconso rfl (zconso rfl rfl)) ?_
        refine wz_i1 (Eq.trans (i3L (rfl : i3 a1 = i3 a1) (show (10 : Int32) = i3 10 from rfl) (by omega) (by omega) (by omega) (by omega)) (decide_eq_true (by omega))) ?_
        refine wz_l0 sb_436_1 (fb_436_1 (i3 a1) (i3 0) (i3 0) _ _ _ _ (zconso rfl (zconso (zvo (rfl : i3 a1 = i3 a1)) (zconso (zvo (show (0 : Int32) = i3 0 from rfl)) (zconso (zvo (show (0 : Int32) = i3 0 from rfl)) rfl)))) ?_)
        refine wz_i1 (Eq.trans (i3Le (Eq.trans (zm_rd (Z := Z7) (ν := ν) (k := 2) (show ((0 : Nat) : Int) = 0 from rfl) (show ((0 : Nat) : Int) = 0 from rfl) (show ((1401 : Nat) : Int) = 1401 from rfl)) (congrArg i3 ((zu_ne (k' := 2) (b' := 0) (i' := 0) (j' := 1401) hZ7 (fun q => absurd q.1 (by decide))).trans ((hF 2 0 1401 (by decide)).trans ((show frz 2 0 1401 = 0 from by decide)))))) (rfl : i3 0 = i3 0) (by omega) (by omega) (by omega) (by omega)) (decide_eq_true (by omega))) ?_
        refine wz_lk0 (wz_sk0 ?_)
        refine fc_436_2 (i3 0) _ _ _ _ (zconso rfl (zconso rfl (zconso (zvo (rfl : i3 0 = i3 0)) (zconso rfl rfl)))) ?_
        exact zlM hP (rfl : i3 0 = i3 0) (zu_at hZ7) ⟨hZ7I, hZ7K, zN_r⟩
      · replace hP := zE_n hP h8
        refine fw_259  _ _ ?_
        refine wz_l0 sb_259_1 (fb_259_1 (i3 0) (i3 0) _ _ _ _ (zconso rfl (zconso (zvo (show (0 : Int32) = i3 0 from rfl)) (zconso (zvo (show (0 : Int32) = i3 0 from rfl)) rfl))) ?_)
        refine wz_i1 (Eq.trans (i3Le (Eq.trans (zm_rd (Z := Z7) (ν := ν) (k := 2) (show ((0 : Nat) : Int) = 0 from rfl) (show ((0 : Nat) : Int) = 0 from rfl) (show ((1401 : Nat) : Int) = 1401 from rfl)) (congrArg i3 ((zu_ne (k' := 2) (b' := 0) (i' := 0) (j' := 1401) hZ7 (fun q => absurd q.1 (by decide))).trans ((hF 2 0 1401 (by decide)).trans ((show frz 2 0 1401 = 0 from by decide)))))) (rfl : i3 0 = i3 0) (by omega) (by omega) (by omega) (by omega)) (decide_eq_true (by omega))) ?_
        refine wz_lk0 (wz_sk0 ?_)
        refine fc_259_2 (i3 0) _ _ _ _ (zconso rfl (zconso (zvo (rfl : i3 0 = i3 0)) (zconso rfl rfl))) ?_
        exact zlM hP (rfl : i3 0 = i3 0) (zu_at hZ7) ⟨hZ7I, hZ7K, zN_r⟩
abbrev zz_mv : qz_V := .inr (.inr (some (1, 0, 0)))
theorem kz_403 {μ : qz_M} {a1 a2 a4 : Int32} : qf_403 [zz_mv, .inl a1, .inl a2, .inl 0, .inl a4] μ = some (μ, .inl none) := wz_call_eq (fw_403 a1 a2 0 a4 μ _ (wz_i0 (by decide) ⟨rfl, rfl⟩))
theorem kx_422 {c : Int} (hc : 3 ≤ c ∧ c ≤ 8) {C : Int32} (hC : C = i3 c) {Z : qz_Z} {ν : qz_N} (hz : Z 2 0 0 (3800 + c) = 0) {RS : wz_W} {k : wz_K} {R : wz_R} {L : qz_L} (h : RS k R (L, [], zm Z ν)) : (ws (wkx gw_422 2 3 1 5 [] 4) RS) k R (L, [.inl C, zz_mv], zm Z ν) := by
  subst hC
  show (bif ((Nat.ble (qz_wt []) 8 && Nat.ble (qz_es [zz_mv, .inl (i3 c)]).length 3) && (Nat.beq 1 0 || qz_rcv (zm Z ν) 5 [zz_mv, .inl (i3 c)])) then (bif pz_out ((3800 : Int32) + i3 c) 4400 then False else (bif decide ((qz_im (zm Z ν) 2 0 0 ((3800 : Int32) + i3 c).toNatClampNeg) ≤ 0) then (wz_cV qf_403 [.inr (.inr (some (1, 0, 0))), .inl (9 : Int32), .inl (i3 c), .inl (-(qz_im (zm Z ν) 2 0 0 ((3800 : Int32) + i3 c).toNatClampNeg)), .inl (-1 : Int32)] (zm Z ν) (fun μ1 => RS k R (L, [], μ1)) (fun μ1 e => wz_ex 1 [] L (wz_sk RS k R) R μ1 e)) else (wz_cV qf_403 [.inr (.inr (some (1, 0, 0))), .inl (i3 c), .inl (9 : Int32), .inl (qz_im (zm Z ν) 2 0 0 ((3800 : Int32) + i3 c).toNatClampNeg), .inl (-1 : Int32)] (zm Z ν) (fun μ2 => RS k R (L, [], μ2)) (fun μ2 e => wz_ex 1 [] L (wz_sk RS k R) R μ2 e)))) else False)
  have hn : (((3800 : Int32) + i3 c).toNatClampNeg : Int) = 3800 + c := i3I (y := 3800 + c) (i3A (show (3800 : Int32) = i3 3800 from rfl) (rfl : i3 c = i3 c)) rfl (by omega) (by omega)
  have hv : qz_im (zm Z ν) 2 0 0 ((3800 : Int32) + i3 c).toNatClampNeg = 0 := by
    show i3 (Z 2 0 0 ((((3800 : Int32) + i3 c).toNatClampNeg : Nat) : Int)) = 0
    rw [hn, hz]
    rfl
  refine wz_i1 rfl (wz_i0 (i3O (n := 4400) (i3A (show (3800 : Int32) = i3 3800 from rfl) (rfl : i3 c = i3 c)) (by omega) (by omega) (by omega)) ?_)
  rw [hv]
  refine wz_i1 (by decide) ?_
  exact wz_cV_of kz_403 h
theorem kz_413 {Z : qz_Z} {ν : qz_N} (hg : Z 2 0 0 101 = 0) : qf_413 [zz_mv] (zm Z ν) = some (zm Z ν, .inl none) := by
  refine wz_call_eq (fw_413 (zm Z ν) _ ?_)
  refine wz_l0 sb_413_1 (fb_413_1 0 _ _ _ _ rfl ?_)
  refine wz_i1 ?_ ?_
  · show decide (i3 (Z 2 0 0 101) ≤ 0) = true
    rw [hg]
    decide
  · exact wz_lk0 (wz_sk0 (fc_413_2 _ _ _ [some (.inr (.inr (some (1, 0, 0)))), some (.inl 0), none] rfl ⟨rfl, rfl⟩))
theorem kc_402 {Z : qz_Z} {ν : qz_N} {k : wz_K} {R : wz_R} {L : qz_L} {d : Int32} (hL : qz_fg [true, true, false] L = [some zz_mv, some (.inl d), none]) (hg : Z 2 0 0 101 = 0) (z3 : Z 2 0 0 3803 = 0) (z4 : Z 2 0 0 3804 = 0) (z5 : Z 2 0 0 3805 = 0) (z6 : Z 2 0 0 3806 = 0) (z7 : Z 2 0 0 3807 = 0) (z8 : Z 2 0 0 3808 = 0) (h : R (zm Z ν) (.inl none)) : gc_402_2 k R (L, [], zm Z ν) := by
  refine wz_fgd hL ?_
  have rest : (ws (wi 1 5 [(.aload_n 0, 0, 0), (.iconst 3, 0, 0)]) (ws (wkx gw_422 2 3 1 5 [] 4) (ws (wi 1 5 [(.aload_n 0, 0, 0), (.iconst 4, 0, 0)]) (ws (wkx gw_422 2 3 1 5 [] 4) (ws (wi 1 5 [(.aload_n 0, 0, 0), (.iconst 5, 0, 0)]) (ws (wkx gw_422 2 3 1 5 [] 4) (ws (wi 1 5 [(.aload_n 0, 0, 0), (.bipush 6, 0, 0)]) (ws (wkx gw_422 2 3 1 5 [] 4) (ws (wi 1 5 [(.aload_n 0, 0, 0), (.bipush 7, 0, 0)]) (ws (wkx gw_422 2 3 1 5 [] 4) (ws (wi 1 5 [(.aload_n 0, 0, 0), (.bipush 8, 0, 0)]) (ws (wkx gw_422 2 3 1 5 [] 4) (wr .return_ none))))))))))))) k R ([some zz_mv, some (.inl d), none], [], zm Z ν) := by
    refine kx_422 (c := 3) (by omega) rfl z3 ?_
    refine kx_422 (c := 4) (by omega) rfl z4 ?_
    refine kx_422 (c := 5) (by omega) rfl z5 ?_
    refine kx_422 (c := 6) (by omega) rfl z6 ?_
    refine kx_422 (c := 7) (by omega) rfl z7 ?_
    refine kx_422 (c := 8) (by omega) rfl z8 ?_
    exact h
  refine wz_if (c := (!decide (d - d / 7 * 7 = 6))) (fun _ => rest) (fun _ => ?_)
  refine wz_i1 (B := False) (c := ((Nat.ble (qz_wt []) 8 && Nat.ble (qz_es [zz_mv]).length 3) && (Nat.beq 1 0 || qz_rcv (zm Z ν) 5 [zz_mv]))) rfl ?_
  exact wz_cV_of (kz_413 hg) rest
def frn (k : Nat) (j : Int) : Bool := frm k && (![1, 101, 102].contains k && !(Nat.beq k 2 && decide (j = 0)))
def zFn (Z : qz_Z) : Prop := ∀ k i j, frn k j = true → Z k 0 i j = frz k i j
theorem frn_0 {k : Nat} {j : Int} (hk : frn k j = true) (q : k = 2) (q2 : j = 0) : False := by
  subst q q2
  revert hk
  decide
theorem hm_hour {Z : qz_Z} {ν : qz_N} (hZ : zI none Z) (hF : zFn Z) {x2 : Int} (gx2 : 0 ≤ x2 ∧ x2 ≤ 71) (hnow : Z 2 0 0 0 = x2) : wz_call qf_553 [.inr (.inr (some (1, 0, 0)))] (zm Z ν) (fun μ o => ∃ Z1, (μ = zm Z1 ν ∧ o = .inl none) ∧ zI none Z1 ∧ zFn Z1 ∧ Z1 2 0 0 0 = x2 + 1 ∧ zK [2] Z Z1) := by
  refine fw_553 _ _ ?_
  obtain ⟨Z1, hZ1⟩ := zx (zu Z 2 0 0 0 (x2 + 1))
  have hZ1I := zI_u hZ hZ1 (lo := 0) (hi := 671) (by decide) rfl (by omega) ⟨by decide, by decide⟩ (Or.inl (by decide))
  have hZ1K : zK [2] Z Z1 := zK_u zK_r hZ1 (by decide)
  intro μ9 e9
  replace e9 := e9.trans (zm_wI (Z := Z) (ν := ν) hZ1 (show ((0 : Nat) : Int) = 0 from rfl) (show ((0 : Nat) : Int) = 0 from rfl) (show ((0 : Nat) : Int) = 0 from rfl) (i3A (Eq.trans (zm_rd (Z := Z) (ν := ν) (k := 2) (show ((0 : Nat) : Int) = 0 from rfl) (show ((0 : Nat) : Int) = 0 from rfl) (show ((0 : Nat) : Int) = 0 from rfl)) (congrArg i3 (hnow))) (show (1 : Int32) = i3 1 from rfl)))
  subst e9
  refine fw_505  _ _ ?_
  refine wz_l1 sb_505_1 (fb_505_1 (i3 0) _ _ _ _ (zconso rfl (zconso (zvo (show (0 : Int32) = i3 0 from rfl)) rfl)) ?_)
  refine wz_i1 (Eq.trans (i3Le (Eq.trans (zm_rd (Z := Z1) (ν := ν) (k := 2) (show ((0 : Nat) : Int) = 0 from rfl) (show ((0 : Nat) : Int) = 0 from rfl) (show ((3200 : Nat) : Int) = 3200 from rfl)) (congrArg i3 ((zu_ne (k' := 2) (b' := 0) (i' := 0) (j' := 3200) hZ1 (fun q => absurd q.2.2.2 (by decide))).trans ((hF 2 0 3200 (by decide)).trans ((show frz 2 0 3200 = 0 from by decide)))))) (rfl : i3 0 = i3 0) (by omega) (by omega) (by omega) (by omega)) (decide_eq_true (by omega))) ?_
  refine wz_lk0 (wz_sk0 ?_)
  refine fc_505_2  _ _ _ _ (zconso rfl (zconso rfl rfl)) ?_
  refine fw_471  _ _ ?_
  refine wz_l1 sb_471_1 (fb_471_1 (i3 0) _ _ _ _ (zconso rfl (zconso (zvo (show (0 : Int32) = i3 0 from rfl)) rfl)) ?_)
  refine wz_i1 (Eq.trans (i3Le (Eq.trans (zm_rd (Z := Z1) (ν := ν) (k := 2) (show ((0 : Nat) : Int) = 0 from rfl) (show ((0 : Nat) : Int) = 0 from rfl) (show ((1200 : Nat) : Int) = 1200 from rfl)) (congrArg i3 ((zu_ne (k' := 2) (b' := 0) (i' := 0) (j' := 1200) hZ1 (fun q => absurd q.2.2.2 (by decide))).trans ((hF 2 0 1200 (by decide)).trans ((show frz 2 0 1200 = 0 from by decide)))))) (rfl : i3 0 = i3 0) (by omega) (by omega) (by omega) (by omega)) (decide_eq_true (by omega))) ?_
  refine wz_lk0 (wz_sk0 ?_)
  refine fc_471_6  _ _ _ _ (zconso rfl (zconso rfl rfl)) ?_
  refine wz_l1 sb_471_2 (fb_471_2 (i3 0) _ _ _ _ (zconso rfl (zconso (zvo (show (0 : Int32) = i3 0 from rfl)) rfl)) ?_)
  refine wz_i1 (Eq.trans (i3Le (Eq.trans (zm_rd (Z := Z1) (ν := ν) (k := 2) (show ((0 : Nat) : Int) = 0 from rfl) (show ((0 : Nat) : Int) = 0 from rfl) (show ((102 : Nat) : Int) = 102 from rfl)) (congrArg i3 ((zu_ne (k' := 2) (b' := 0) (i' := 0) (j' := 102) hZ1 (fun q => absurd q.2.2.2 (by decide))).trans ((hF 2 0 102 (by decide)).trans ((show frz 2 0 102 = 0 from by decide)))))) (rfl : i3 0 = i3 0) (by omega) (by omega) (by omega) (by omega)) (decide_eq_true (by omega))) ?_
  refine wz_lk0 (wz_sk0 ?_)
  refine fc_471_5  _ _ _ _ (zconso rfl (zconso rfl rfl)) ?_
  refine wz_l1 sb_471_3 (fb_471_3 (i3 0) _ _ _ _ (zconso rfl (zconso (zvo (show (0 : Int32) = i3 0 from rfl)) rfl)) ?_)
  refine wz_i1 (Eq.trans (i3Le (Eq.trans (zm_rd (Z := Z1) (ν := ν) (k := 2) (show ((0 : Nat) : Int) = 0 from rfl) (show ((0 : Nat) : Int) = 0 from rfl) (show ((2000 : Nat) : Int) = 2000 from rfl)) (congrArg i3 ((zu_ne (k' := 2) (b' := 0) (i' := 0) (j' := 2000) hZ1 (fun q => absurd q.2.2.2 (by decide))).trans ((hF 2 0 2000 (by decide)).trans ((show frz 2 0 2000 = 0 from by decide)))))) (rfl : i3 0 = i3 0) (by omega) (by omega) (by omega) (by omega)) (decide_eq_true (by omega))) ?_
  refine wz_lk0 (wz_sk0 ?_)
  refine fc_471_4  _ _ _ _ (zconso rfl (zconso rfl rfl)) ?_
  refine fw_358  _ _ ?_
  refine wz_l1 sb_358_1 (fb_358_1 (i3 0) _ _ _ _ (zconso rfl (zconso (zvo (show (0 : Int32) = i3 0 from rfl)) (zconso rfl rfl))) ?_)
  refine wz_i1 (Eq.trans (i3Le (Eq.trans (zm_rd (Z := Z1) (ν := ν) (k := 2) (show ((0 : Nat) : Int) = 0 from rfl) (show ((0 : Nat) : Int) = 0 from rfl) (show ((3500 : Nat) : Int) = 3500 from rfl)) (congrArg i3 ((zu_ne (k' := 2) (b' := 0) (i' := 0) (j' := 3500) hZ1 (fun q => absurd q.2.2.2 (by decide))).trans ((hF 2 0 3500 (by decide)).trans ((show frz 2 0 3500 = 0 from by decide)))))) (rfl : i3 0 = i3 0) (by omega) (by omega) (by omega) (by omega)) (decide_eq_true (by omega))) ?_
  refine wz_lk0 (wz_sk0 ?_)
  refine fc_358_2  _ _ _ _ (zconso rfl (zconso rfl (zconso rfl rfl))) ?_
  refine fw_301  _ _ ?_
  refine wz_l1 sb_301_3 (fb_301_3 (i3 0) _ _ _ _ (zconso rfl (zconso (zvo (show (0 : Int32) = i3 0 from rfl)) (zconso rfl rfl))) ?_)
  refine wz_i1 (Eq.trans (i3Le (Eq.trans (zm_rd (Z := Z1) (ν := ν) (k := 2) (show ((0 : Nat) : Int) = 0 from rfl) (show ((0 : Nat) : Int) = 0 from rfl) (show ((3000 : Nat) : Int) = 3000 from rfl)) (congrArg i3 ((zu_ne (k' := 2) (b' := 0) (i' := 0) (j' := 3000) hZ1 (fun q => absurd q.2.2.2 (by decide))).trans ((hF 2 0 3000 (by decide)).trans ((show frz 2 0 3000 = 0 from by decide)))))) (rfl : i3 0 = i3 0) (by omega) (by omega) (by omega) (by omega)) (decide_eq_true (by omega))) ?_
  refine wz_lk0 (wz_sk0 ?_)
  refine fc_301_4  _ _ _ _ (zconso rfl (zconso rfl (zconso rfl rfl))) ?_
  refine fw_512  _ _ ?_
  refine wz_l1 sb_512_1 (fb_512_1 (i3 0) _ _ _ _ (zconso rfl (zconso (zvo (show (0 : Int32) = i3 0 from rfl)) rfl)) ?_)
  refine wz_i1 (Eq.trans (i3Le (Eq.trans (zm_rd (Z := Z1) (ν := ν) (k := 2) (show ((0 : Nat) : Int) = 0 from rfl) (show ((0 : Nat) : Int) = 0 from rfl) (show ((3200 : Nat) : Int) = 3200 from rfl)) (congrArg i3 ((zu_ne (k' := 2) (b' := 0) (i' := 0) (j' := 3200) hZ1 (fun q => absurd q.2.2.2 (by decide))).trans ((hF 2 0 3200 (by decide)).trans ((show frz 2 0 3200 = 0 from by decide)))))) (rfl : i3 0 = i3 0) (by omega) (by omega) (by omega) (by omega)) (decide_eq_true (by omega))) ?_
  refine wz_lk0 (wz_sk0 ?_)
  refine fc_512_2  _ _ _ _ (zconso rfl (zconso rfl rfl)) ?_
  refine wz_br (i3NE (i3R (Eq.trans (zm_rd (Z := Z1) (ν := ν) (k := 2) (show ((0 : Nat) : Int) = 0 from rfl) (show ((0 : Nat) : Int) = 0 from rfl) (show ((0 : Nat) : Int) = 0 from rfl)) (congrArg i3 (zu_at hZ1))) (show (24 : Int32) = i3 24 from rfl) (by omega) (by omega) (by omega) (by omega)) (show (0 : Int32) = i3 0 from rfl) (by omega) (by omega) (by omega) (by omega)) (fun h2 => ?_) (fun h2 => ?_)
  · skip
    have hn9 : Z1 2 0 0 0 = x2 + 1 := zu_at hZ1
    have hF9 : zFn Z1 := fun k i j hk => (Eq.trans (zu_ne hZ1 (fun q => frn_0 hk q.1 q.2.2.2)) (hF k i j hk))
    exact ⟨_, ⟨rfl, rfl⟩, hZ1I, hF9, hn9, hZ1K⟩
  · skip
    refine fw_265 _ _ _ ?_
    refine wz_l1 sb_265_1 (fb_265_1 (i3 (((x2 + 1) / 24) - 1)) (i3 0) _ _ _ _ (zconso rfl (zconso (zvo (i3S (i3D (Eq.trans (zm_rd (Z := Z1) (ν := ν) (k := 2) (show ((0 : Nat) : Int) = 0 from rfl) (show ((0 : Nat) : Int) = 0 from rfl) (show ((0 : Nat) : Int) = 0 from rfl)) (congrArg i3 (zu_at hZ1))) (show (24 : Int32) = i3 24 from rfl) (by omega) (by omega) (by omega) (by omega)) (show (1 : Int32) = i3 1 from rfl))) (zconso (zvo (show (0 : Int32) = i3 0 from rfl)) rfl))) ?_)
    refine wz_i1 (Eq.trans (i3Le (Eq.trans (zm_rd (Z := Z1) (ν := ν) (k := 2) (show ((0 : Nat) : Int) = 0 from rfl) (show ((0 : Nat) : Int) = 0 from rfl) (show ((1400 : Nat) : Int) = 1400 from rfl)) (congrArg i3 ((zu_ne (k' := 2) (b' := 0) (i' := 0) (j' := 1400) hZ1 (fun q => absurd q.2.2.2 (by decide))).trans ((hF 2 0 1400 (by decide)).trans ((show frz 2 0 1400 = 0 from by decide)))))) (rfl : i3 0 = i3 0) (by omega) (by omega) (by omega) (by omega)) (decide_eq_true (by omega))) ?_
    refine wz_lk0 (wz_sk0 ?_)
    refine fc_265_4  _ _ _ _ (zconso rfl (zconso rfl (zconso rfl rfl))) ?_
    refine wz_l1 sb_265_2 (fb_265_2 (i3 0) _ _ _ _ (zconso rfl (zconso rfl (zconso (zvo (show (0 : Int32) = i3 0 from rfl)) rfl))) ?_)
    refine wz_i1 (Eq.trans (i3Le (Eq.trans (zm_rd (Z := Z1) (ν := ν) (k := 2) (show ((0 : Nat) : Int) = 0 from rfl) (show ((0 : Nat) : Int) = 0 from rfl) (show ((1401 : Nat) : Int) = 1401 from rfl)) (congrArg i3 ((zu_ne (k' := 2) (b' := 0) (i' := 0) (j' := 1401) hZ1 (fun q => absurd q.2.2.2 (by decide))).trans ((hF 2 0 1401 (by decide)).trans ((show frz 2 0 1401 = 0 from by decide)))))) (rfl : i3 0 = i3 0) (by omega) (by omega) (by omega) (by omega)) (decide_eq_true (by omega))) ?_
    refine wz_lk0 (wz_sk0 ?_)
    refine fc_265_3  _ _ _ _ (zconso rfl (zconso rfl (zconso rfl rfl))) ?_
    refine fw_402 _ _ _ ?_
    refine fw_492  _ _ ?_
    refine wz_l1 sb_492_1 (fb_492_1 (i3 0) (i3 0) _ _ _ _ (zconso rfl (zconso (zvo (show (0 : Int32) = i3 0 from rfl)) (zconso (zvo (show (0 : Int32) = i3 0 from rfl)) rfl))) ?_)
    refine wz_i1 (Eq.trans (i3Le (Eq.trans (zm_rd (Z := Z1) (ν := ν) (k := 2) (show ((0 : Nat) : Int) = 0 from rfl) (show ((0 : Nat) : Int) = 0 from rfl) (show ((1200 : Nat) : Int) = 1200 from rfl)) (congrArg i3 ((zu_ne (k' := 2) (b' := 0) (i' := 0) (j' := 1200) hZ1 (fun q => absurd q.2.2.2 (by decide))).trans ((hF 2 0 1200 (by decide)).trans ((show frz 2 0 1200 = 0 from by decide)))))) (rfl : i3 0 = i3 0) (by omega) (by omega) (by omega) (by omega)) (decide_eq_true (by omega))) ?_
    refine wz_lk0 (wz_sk0 ?_)
    refine fc_492_2 (i3 0) _ _ _ _ (zconso rfl (zconso (zvo (rfl : i3 0 = i3 0)) (zconso rfl rfl))) ?_
    refine fw_403 _ _ _ _ _ _ ?_
    refine wz_i0 (Eq.trans (i3NE (i3M (Eq.trans (zm_rd (Z := Z1) (ν := ν) (k := 2) (show ((0 : Nat) : Int) = 0 from rfl) (show ((0 : Nat) : Int) = 0 from rfl) (show ((3811 : Nat) : Int) = 3811 from rfl)) (congrArg i3 ((zu_ne (k' := 2) (b' := 0) (i' := 0) (j' := 3811) hZ1 (fun q => absurd q.2.2.2 (by decide))).trans ((hF 2 0 3811 (by decide)).trans ((show frz 2 0 3811 = 120 from by decide)))))) (rfl : i3 0 = i3 0)) (show (0 : Int32) = i3 0 from rfl) (by omega) (by omega) (by omega) (by omega)) (decide_eq_false (by omega))) ?_
    refine fw_463  _ _ ?_
    refine wz_l1 sb_463_1 (fb_463_1 (i3 0) _ _ _ _ (zconso rfl (zconso (zvo (show (0 : Int32) = i3 0 from rfl)) rfl)) ?_)
    refine wz_i1 (Eq.trans (i3Le (Eq.trans (zm_rd (Z := Z1) (ν := ν) (k := 2) (show ((0 : Nat) : Int) = 0 from rfl) (show ((0 : Nat) : Int) = 0 from rfl) (show ((1200 : Nat) : Int) = 1200 from rfl)) (congrArg i3 ((zu_ne (k' := 2) (b' := 0) (i' := 0) (j' := 1200) hZ1 (fun q => absurd q.2.2.2 (by decide))).trans ((hF 2 0 1200 (by decide)).trans ((show frz 2 0 1200 = 0 from by decide)))))) (rfl : i3 0 = i3 0) (by omega) (by omega) (by omega) (by omega)) (decide_eq_true (by omega))) ?_
    refine wz_lk0 (wz_sk0 ?_)
    refine fc_463_2  _ _ _ _ (zconso rfl (zconso rfl rfl)) ?_
    refine wz_l1 sb_402_1 (fb_402_1 (i3 (((x2 + 1) / 24) - 1)) (i3 0) _ _ _ _ (zconso rfl (zconso (zvo (i3S (i3D (Eq.trans (zm_rd (Z := Z1) (ν := ν) (k := 2) (show ((0 : Nat) : Int) = 0 from rfl) (show ((0 : Nat) : Int) = 0 from rfl) (show ((0 : Nat) : Int) = 0 from rfl)) (congrArg i3 (zu_at hZ1))) (show (24 : Int32) = i3 24 from rfl) (by omega) (by omega) (by omega) (by omega)) (show (1 : Int32) = i3 1 from rfl))) (zconso (zvo (show (0 : Int32) = i3 0 from rfl)) rfl))) ?_)
    refine wz_i1 (Eq.trans (i3Le (Eq.trans (zm_rd (Z := Z1) (ν := ν) (k := 2) (show ((0 : Nat) : Int) = 0 from rfl) (show ((0 : Nat) : Int) = 0 from rfl) (show ((3815 : Nat) : Int) = 3815 from rfl)) (congrArg i3 ((zu_ne (k' := 2) (b' := 0) (i' := 0) (j' := 3815) hZ1 (fun q => absurd q.2.2.2 (by decide))).trans ((hF 2 0 3815 (by decide)).trans ((show frz 2 0 3815 = 0 from by decide)))))) (rfl : i3 0 = i3 0) (by omega) (by omega) (by omega) (by omega)) (decide_eq_true (by omega))) ?_
    refine wz_lk0 (wz_sk0 ?_)
    refine kc_402 rfl ((zu_ne (k' := 2) (b' := 0) (i' := 0) (j' := 101) hZ1 (fun q => absurd q.2.2.2 (by decide))).trans ((hF 2 0 101 (by decide)).trans ((show frz 2 0 101 = 0 from by decide)))) ((zu_ne (k' := 2) (b' := 0) (i' := 0) (j' := 3803) hZ1 (fun q => absurd q.2.2.2 (by decide))).trans ((hF 2 0 3803 (by decide)).trans ((show frz 2 0 3803 = 0 from by decide)))) ((zu_ne (k' := 2) (b' := 0) (i' := 0) (j' := 3804) hZ1 (fun q => absurd q.2.2.2 (by decide))).trans ((hF 2 0 3804 (by decide)).trans ((show frz 2 0 3804 = 0 from by decide)))) ((zu_ne (k' := 2) (b' := 0) (i' := 0) (j' := 3805) hZ1 (fun q => absurd q.2.2.2 (by decide))).trans ((hF 2 0 3805 (by decide)).trans ((show frz 2 0 3805 = 0 from by decide)))) ((zu_ne (k' := 2) (b' := 0) (i' := 0) (j' := 3806) hZ1 (fun q => absurd q.2.2.2 (by decide))).trans ((hF 2 0 3806 (by decide)).trans ((show frz 2 0 3806 = 0 from by decide)))) ((zu_ne (k' := 2) (b' := 0) (i' := 0) (j' := 3807) hZ1 (fun q => absurd q.2.2.2 (by decide))).trans ((hF 2 0 3807 (by decide)).trans ((show frz 2 0 3807 = 0 from by decide)))) ((zu_ne (k' := 2) (b' := 0) (i' := 0) (j' := 3808) hZ1 (fun q => absurd q.2.2.2 (by decide))).trans ((hF 2 0 3808 (by decide)).trans ((show frz 2 0 3808 = 0 from by decide)))) ?_
    have hn9 : Z1 2 0 0 0 = x2 + 1 := zu_at hZ1
    have hF9 : zFn Z1 := fun k i j hk => (Eq.trans (zu_ne hZ1 (fun q => frn_0 hk q.1 q.2.2.2)) (hF k i j hk))
    exact ⟨_, ⟨rfl, rfl⟩, hZ1I, hF9, hn9, hZ1K⟩
theorem frn_o {k : Nat} {j : Int} (hk : frn k j = true) : frm k = true ∧ [1, 101, 102].contains k = false := by
  unfold frn at hk
  simp only [Bool.and_eq_true, Bool.not_eq_true'] at hk
  exact ⟨hk.1, hk.2.1⟩
theorem frn_w {ws : List Nat} {k : Nat} {j : Int} (hk : frn k j = true) (h : ws.all (fun m => [1, 101, 102].contains m) = true) : ws.contains k = false := by
  cases hc : ws.contains k
  · rfl
  · have := List.all_eq_true.mp h k (List.contains_iff_mem.mp hc)
    rw [(frn_o hk).2] at this
    cases this
theorem frn_1 {k m : Nat} {j : Int} (hk : frn k j = true) (q : k = m) (h : [1, 101, 102].contains m = true) : False := by
  subst q
  rw [(frn_o hk).2] at h
  cases h
theorem sl_450 {Z : qz_Z} {ν : qz_N} (hZ : zI none Z) (hF : zFn Z) (hnow : Z 2 0 0 0 = 0) {x1 : Int} (gx1 : 1 ≤ x1 ∧ x1 ≤ 72) {k : wz_K} {R : wz_R} {L : qz_L} (hL : qz_fg [true, true, true] L = [some (.inr (.inr (some (1, 0, 0)))), some (.inl (i3 x1)), some (.inl (i3 0))]) (hk : ∀ (L9 : qz_L) (Z9 : qz_Z), L9 = [some (.inr (.inr (some (1, 0, 0)))), some (.inl (i3 x1)), some (.inl (i3 x1))] → zI none Z9 → Z9 2 0 0 0 = x1 → zK [2] Z Z9 → k 0 (L9, [], zm Z9 ν)) : wz_loop qb_450_1 65536 k R (L, [], zm Z ν) := by
  refine wz_lp sb_450_1 (fun m x => ∃ (Z1 : qz_Z) (x2 : Int), qz_fg [true, true, true] x.1 = [some (.inr (.inr (some (1, 0, 0)))), some (.inl (i3 x1)), some (.inl (i3 x2))] ∧ x.2 = ([], zm Z1 ν) ∧ zI none Z1 ∧ zFn Z1 ∧ Z1 2 0 0 0 = x2 ∧ zK [2] Z Z1 ∧ (0 ≤ x2 ∧ x2 ≤ x1) ∧ m = (x1 - x2).toNat) ?_ 65536 _ _ (by omega) ⟨Z, 0, hL, rfl, hZ, hF, hnow, zK_r, by omega, rfl⟩
  rintro m ⟨L, st, μ⟩ ⟨Z1, x2, hL, hx, hI, hF1, hn, hK, hr, hm⟩
  cases hx
  refine fb_450_1 (i3 x1) (i3 x2) _ _ _ _ hL ?_
  refine wz_br (i3Le (rfl : i3 x1 = i3 x1) (rfl : i3 x2 = i3 x2) (by omega) (by omega) (by omega) (by omega)) (fun h1 => ?_) (fun h1 => ?_)
  · have e : x2 = x1 := by omega
    subst e
    exact hk _ _ rfl hI hn hK
  · obtain ⟨μ', o, e, Z2, ⟨q1, q2⟩, hI2, hF2, hn2, hK2⟩ := hm_hour hI hF1 (ν := ν) (x2 := x2) (by omega) hn
    subst q1 q2
    refine wz_cV_of e ?_
    exact wz_k1 ⟨(x1 - (x2 + 1)).toNat, by omega, Z2, x2 + 1, zconso rfl (zconso rfl (zconso (zvo (i3A (rfl : i3 x2 = i3 x2) (show (1 : Int32) = i3 1 from rfl))) rfl)), rfl, hI2, hF2, hn2, zK_t hK hK2 (by decide), by omega, rfl⟩
/- yX12_pass -/
def zg_450 (a1 : Int) : Int × Int := (if a1 < 1 then (0, 1) else (if 72 < a1 then (0, 1) else (a1, 0)))
theorem sg_450 {Z : qz_Z} {ν : qz_N} (hZ : zI none Z) (hF : zFm Z) {a1 : Int} (ga1 : -2147483648 ≤ a1 ∧ a1 ≤ 2147483647) (rrec : ∀ Z, qz_rm (zm Z ν) 1 0 0 36 = some (102, 0, 0)) : ∃ (Z1 : qz_Z) (ν1 : qz_N) (v t : Int), (v, t) = zg_450 a1 ∧ qf_450 [.inr (.inr (some (1, 0, 0))), .inl (i3 a1)] (zm Z ν) = some (zm Z1 ν1, .inl (some (.inl (i3 v)))) ∧ Z1 1 0 0 2 = t ∧ (fun Z1 ν1 => zI none Z1 ∧ zK [1, 2, 101, 102] Z Z1 ∧ zN ν ν1) Z1 ν1 := by
  obtain ⟨P, hP⟩ := zx (zg_450 a1)
  refine zc_M (Q := fun Z1 ν1 => zI none Z1 ∧ zK [1, 2, 101, 102] Z Z1 ∧ zN ν ν1) hP (fw_450 (i3 a1) _ _ ?_)
  replace hP : zE P (zg_450 a1) := hP
  unfold zg_450 at hP
  refine wz_br (i3L (rfl : i3 a1 = i3 a1) (show (1 : Int32) = i3 1 from rfl) (by omega) (by omega) (by omega) (by omega)) (fun h1 => ?_) (fun h1 => ?_)
  · replace hP := zE_p hP h1
    obtain ⟨Z2, hZ2⟩ := zx (zu Z 1 0 0 2 1)
    have hZ2I := zI_u hZ hZ2 (lo := -2147483648) (hi := 2147483647) (by decide) rfl (by omega) ⟨by decide, by decide⟩ (Or.inr (by decide))
    have hZ2K : zK [1, 2, 101, 102] Z Z2 := zK_u zK_r hZ2 (by decide)
    intro μ9 e9
    replace e9 := e9.trans (zm_wI (Z := Z) (ν := ν) hZ2 (show ((0 : Nat) : Int) = 0 from rfl) (show ((0 : Nat) : Int) = 0 from rfl) (show ((2 : Nat) : Int) = 2 from rfl) (show (1 : Int32) = i3 1 from rfl))
    subst e9
    exact zlM hP (show (0 : Int32) = i3 0 from rfl) (zu_at hZ2) ⟨hZ2I, hZ2K, zN_r⟩
  · replace hP := zE_n hP h1
    refine wz_br (i3L (show (72 : Int32) = i3 72 from rfl) (rfl : i3 a1 = i3 a1) (by omega) (by omega) (by omega) (by omega)) (fun h3 => ?_) (fun h3 => ?_)
    · replace hP := zE_p hP h3
      obtain ⟨Z4, hZ4⟩ := zx (zu Z 1 0 0 2 1)
      have hZ4I := zI_u hZ hZ4 (lo := -2147483648) (hi := 2147483647) (by decide) rfl (by omega) ⟨by decide, by decide⟩ (Or.inr (by decide))
      have hZ4K : zK [1, 2, 101, 102] Z Z4 := zK_u zK_r hZ4 (by decide)
      intro μ9 e9
      replace e9 := e9.trans (zm_wI (Z := Z) (ν := ν) hZ4 (show ((0 : Nat) : Int) = 0 from rfl) (show ((0 : Nat) : Int) = 0 from rfl) (show ((2 : Nat) : Int) = 2 from rfl) (show (1 : Int32) = i3 1 from rfl))
      subst e9
      exact zlM hP (show (0 : Int32) = i3 0 from rfl) (zu_at hZ4) ⟨hZ4I, hZ4K, zN_r⟩
    · replace hP := zE_n hP h3
      obtain ⟨Z5, hZ5⟩ := zx (zu Z 1 0 0 2 0)
      have hZ5I := zI_0 hZ hZ5 (by decide) (Or.inr (by decide))
      have hZ5K : zK [1, 2, 101, 102] Z Z5 := zK_u zK_r hZ5 (by decide)
      intro μ9 e9
      replace e9 := e9.trans (zm_wI (Z := Z) (ν := ν) hZ5 (show ((0 : Nat) : Int) = 0 from rfl) (show ((0 : Nat) : Int) = 0 from rfl) (show ((2 : Nat) : Int) = 2 from rfl) (show (0 : Int32) = i3 0 from rfl))
      subst e9
      refine wz_i0 (Eq.trans (i3L (show (671 : Int32) = i3 671 from rfl) (i3A (Eq.trans (zm_rd (Z := Z5) (ν := ν) (k := 2) (show ((0 : Nat) : Int) = 0 from rfl) (show ((0 : Nat) : Int) = 0 from rfl) (show ((0 : Nat) : Int) = 0 from rfl)) (congrArg i3 ((zu_ne (k' := 2) (b' := 0) (i' := 0) (j' := 0) hZ5 (fun q => absurd q.1 (by decide))).trans ((hF 2 0 0 (by decide)).trans ((show frz 2 0 0 = 0 from by decide)))))) (rfl : i3 a1 = i3 a1)) (by omega) (by omega) (by omega) (by omega)) (decide_eq_false (by omega))) ?_
      obtain ⟨Z6, hZ6⟩ := zx (zu Z5 1 0 0 2 0)
      have hZ6I := zI_0 hZ5I hZ6 (by decide) (Or.inr (by decide))
      have hZ6K := zK_u hZ5K hZ6 (by decide)
      intro μ9 e9
      replace e9 := e9.trans (zm_wI (Z := Z5) (ν := ν) hZ6 (show ((0 : Nat) : Int) = 0 from rfl) (show ((0 : Nat) : Int) = 0 from rfl) (show ((2 : Nat) : Int) = 2 from rfl) (show (0 : Int32) = i3 0 from rfl))
      subst e9
      refine wz_i0 (Eq.trans (i3NE (Eq.trans (zm_rd (Z := Z6) (ν := ν) (k := 1) (show ((0 : Nat) : Int) = 0 from rfl) (show ((0 : Nat) : Int) = 0 from rfl) (show ((35 : Nat) : Int) = 35 from rfl)) (congrArg i3 ((zu_ne (k' := 1) (b' := 0) (i' := 0) (j' := 35) hZ6 (fun q => absurd q.2.2.2 (by decide))).trans ((zu_ne (k' := 1) (b' := 0) (i' := 0) (j' := 35) hZ5 (fun q => absurd q.2.2.2 (by decide))).trans ((hF 1 0 35 (by decide)).trans ((show frz 1 0 35 = 0 from by decide))))))) (show (0 : Int32) = i3 0 from rfl) (by omega) (by omega) (by omega) (by omega)) (decide_eq_false (by omega))) ?_
      have e7 : Z6 1 0 0 34 = 0 := (zu_ne (k' := 1) (b' := 0) (i' := 0) (j' := 34) hZ6 (fun q => absurd q.2.2.2 (by decide))).trans ((zu_ne (k' := 1) (b' := 0) (i' := 0) (j' := 34) hZ5 (fun q => absurd q.2.2.2 (by decide))).trans ((hF 1 0 34 (by decide)).trans ((show frz 1 0 34 = 0 from by decide))))
      obtain ⟨Z8, hZ8, c9, hZ8I, kZ8, wZ80, wZ81, wZ82⟩ := sp_557 (ν := ν) hZ6I (a1 := (-1)) (by omega) (by omega)
      have hZ8K : zK [1, 2, 101, 102] Z Z8 := zK_t hZ6K kZ8 (by decide)
      refine wz_cV_of (zas (zcons rfl (zcons (zvi (show (-1 : Int32) = i3 (-1) from rfl)) rfl)) c9) ?_
      clear c9
      have e9 : Z8 1 0 0 37 = 0 := (wZ82).trans ((zu_ne (k' := 1) (b' := 0) (i' := 0) (j' := 37) hZ6 (fun q => absurd q.2.2.2 (by decide))).trans ((zu_ne (k' := 1) (b' := 0) (i' := 0) (j' := 37) hZ5 (fun q => absurd q.2.2.2 (by decide))).trans ((hF 1 0 37 (by decide)).trans ((show frz 1 0 37 = 0 from by decide)))))
      obtain ⟨Z10, hZ10, c9, hZ10I, kZ10, wZ100, wZ101⟩ := sp_563 (ν := ν) hZ8I (a1 := 27) (by omega) (a2 := a1) (by omega) (a3 := 0) (by omega) (a4 := 0) (by omega) (a5 := 0) (by omega) (a6 := 0) (by omega) (a7 := 0) (by omega) (by omega) rrec
      have hZ10K : zK [1, 2, 101, 102] Z Z10 := zK_t hZ8K kZ10 (by decide)
      refine wz_cV_of (zas (zcons rfl (zcons (zvi (show (27 : Int32) = i3 27 from rfl)) (zcons (zvi (rfl : i3 a1 = i3 a1)) (zcons (zvi (show (0 : Int32) = i3 0 from rfl)) (zcons (zvi (show (0 : Int32) = i3 0 from rfl)) (zcons (zvi (show (0 : Int32) = i3 0 from rfl)) (zcons (zvi (show (0 : Int32) = i3 0 from rfl)) (zcons (zvi (show (0 : Int32) = i3 0 from rfl)) rfl)))))))) c9) ?_
      clear c9
      have hF9 : zFn Z10 := fun k i j hk => (Eq.trans (kZ10 k (frn_w hk (by decide)) 0 i j) (Eq.trans (kZ8 k (frn_w hk (by decide)) 0 i j) (Eq.trans (zu_ne hZ6 (fun q => frn_1 hk q.1 (by decide))) (Eq.trans (zu_ne hZ5 (fun q => frn_1 hk q.1 (by decide))) (hF k i j (frn_o hk).1)))))
      refine sl_450 (ν := ν) hZ10I hF9 ((kZ10 2 (by decide) 0 0 0).trans ((kZ8 2 (by decide) 0 0 0).trans ((zu_ne (k' := 2) (b' := 0) (i' := 0) (j' := 0) hZ6 (fun q => absurd q.1 (by decide))).trans ((zu_ne (k' := 2) (b' := 0) (i' := 0) (j' := 0) hZ5 (fun q => absurd q.1 (by decide))).trans ((hF 2 0 0 (by decide)).trans ((show frz 2 0 0 = 0 from by decide))))))) (x1 := a1) (by omega) (zconso rfl (zconso (zvo (rfl : i3 a1 = i3 a1)) (zconso rfl rfl))) ?_
      intro L12 Z11 hL12 hZ11I nZ11 kZ11
      subst hL12
      have hZ11K : zK [1, 2, 101, 102] Z Z11 := zK_t hZ10K kZ11 (by decide)
      refine wz_sk0 (fc_450_2 _ _ _ _ (by rfl) ?_)
      obtain ⟨Z13, hZ13⟩ := zx (zu Z11 1 0 0 2 0)
      have hZ13I := zI_0 hZ11I hZ13 (by decide) (Or.inr (by decide))
      have hZ13K := zK_u hZ11K hZ13 (by decide)
      intro μ9 e9
      replace e9 := e9.trans (zm_wI (Z := Z11) (ν := ν) hZ13 (show ((0 : Nat) : Int) = 0 from rfl) (show ((0 : Nat) : Int) = 0 from rfl) (show ((2 : Nat) : Int) = 2 from rfl) (show (0 : Int32) = i3 0 from rfl))
      subst e9
      exact zlM hP (Eq.trans (zm_rd (Z := Z13) (ν := ν) (k := 2) (show ((0 : Nat) : Int) = 0 from rfl) (show ((0 : Nat) : Int) = 0 from rfl) (show ((0 : Nat) : Int) = 0 from rfl)) (congrArg i3 ((zu_ne (k' := 2) (b' := 0) (i' := 0) (j' := 0) hZ13 (fun q => absurd q.1 (by decide))).trans (nZ11)))) (zu_at hZ13) ⟨hZ13I, hZ13K, zN_r⟩
