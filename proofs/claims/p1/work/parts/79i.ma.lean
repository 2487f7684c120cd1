/-! MATCH -/
theorem ma_22 {Z : qz_Z} {ν : qz_N} {r : qz_R} (h : Z 11 0 0 3 = 0) : qf_22 [.inr (.inr (some (10, 0, 0))), .inr (.inr (some r))] (zm Z ν) = some (zm Z ν, .inl none) := by
  refine wz_call_eq (fw_22 _ _ _ _ ?_)
  refine wz_l0 sb_22_3 (fb_22_3 0 r (i3 0) _ _ _ _ rfl ?_)
  refine wz_i1 (Eq.trans (i3Le (Eq.trans (zm_rd (Z := Z) (ν := ν) (k := 11) rfl rfl rfl) (congrArg i3 h)) (rfl : i3 0 = i3 0) (by omega) (by omega) (by omega) (by omega)) (decide_eq_true (by omega))) ?_
  exact wz_lk0 (wz_sk0 (fc_22_4 _ _ _ _ rfl ⟨rfl, rfl⟩))
theorem ma_29 {Z : qz_Z} {ν : qz_N} (h : Z 11 0 0 5 = 0) : qf_29 [.inr (.inr (some (10, 0, 0))), .inr (.inr (some (69, 0, 0)))] (zm Z ν) = some (zm Z ν, .inl (some (.inl (i3 (-1))))) := by
  refine wz_call_eq (fw_29 _ _ _ ?_)
  refine wz_l0 sb_29_1 (fb_29_1 0 (i3 (-1)) (i3 0) _ _ _ _ rfl ?_)
  refine wz_i1 (Eq.trans (i3Le (Eq.trans (zm_rd (Z := Z) (ν := ν) (k := 11) rfl rfl rfl) (congrArg i3 h)) (rfl : i3 0 = i3 0) (by omega) (by omega) (by omega) (by omega)) (decide_eq_true (by omega))) ?_
  exact wz_lk0 (wz_sk0 (fc_29_2 _ _ _ _ _ rfl ⟨rfl, rfl⟩))
theorem ma_19 {Z : qz_Z} {ν : qz_N} (h : Z 11 0 0 5 = 0) : qf_19 [.inr (.inr (some (10, 0, 0))), .inr (.inr (some (69, 0, 0)))] (zm Z ν) = some (zm Z ν, .inl (some (.inl (i3 0)))) := by
  refine wz_call_eq (fw_19 _ _ _ ?_)
  refine wz_l0 sb_19_1 (fb_19_1 0 (i3 0) (i3 0) _ _ _ _ rfl ?_)
  refine wz_i1 (Eq.trans (i3Le (Eq.trans (zm_rd (Z := Z) (ν := ν) (k := 11) rfl rfl rfl) (congrArg i3 h)) (rfl : i3 0 = i3 0) (by omega) (by omega) (by omega) (by omega)) (decide_eq_true (by omega))) ?_
  exact wz_lk0 (wz_sk0 (fc_19_2 _ _ _ _ _ rfl ⟨rfl, rfl⟩))
theorem ma_27 {Z : qz_Z} {ν : qz_N} (h : Z 11 0 0 5 = 0) : qf_27 [.inr (.inr (some (10, 0, 0)))] (zm Z ν) = some (zm Z ν, .inl (some (.inl (i3 0)))) := by
  refine wz_call_eq (fw_27 _ _ _ ?_)
  refine wz_l0 sb_27_1 (fb_27_1 0 (i3 0) (i3 0) _ _ _ _ rfl ?_)
  refine wz_i1 (Eq.trans (i3Le (Eq.trans (zm_rd (Z := Z) (ν := ν) (k := 11) rfl rfl rfl) (congrArg i3 h)) (rfl : i3 0 = i3 0) (by omega) (by omega) (by omega) (by omega)) (decide_eq_true (by omega))) ?_
  exact wz_lk0 (wz_sk0 (fc_27_2 _ _ _ _ _ rfl ⟨rfl, rfl⟩))
/-- fill() of no orders -/
theorem ma_21 {Z : qz_Z} {ν : qz_N} (hZ : zI none Z) (h3 : Z 11 0 0 3 = 0) (h5 : Z 11 0 0 5 = 0) : ∃ Z1, qf_21 [.inr (.inr (some (10, 0, 0))), .inr (.inr (some (69, 0, 0)))] (zm Z ν) = some (zm Z1 (nal ν 50 1 20 1 20), .inl (some (.inl (i3 0)))) ∧ zI none Z1 ∧ zJ [69] ν.2.2.2.1 Z Z1 := by
  have main : wz_call qf_21 [.inr (.inr (some (10, 0, 0))), .inr (.inr (some (69, 0, 0)))] (zm Z ν) (fun μ2 o2 => ∃ Z1, μ2 = zm Z1 (nal ν 50 1 20 1 20) ∧ o2 = .inl (some (.inl (i3 0))) ∧ zI none Z1 ∧ zJ [69] ν.2.2.2.1 Z Z1) := by
    refine fw_21 _ _ _ ?_
    intro μ1 e1
    rw [zal] at e1
    subst e1
    obtain ⟨Z1, hZ1⟩ := zx (zzr Z ν.2.2.2.1)
    obtain ⟨ν1, hν1⟩ := zx (nal ν 50 1 20 1 20)
    have I1 : zI none Z1 := by rw [hZ1]; exact zzr_I hZ
    have J1 : zJ [69] ν.2.2.2.1 Z Z1 := by rw [hZ1]; exact zJ_z zJ_r (by omega)
    rw [← hZ1, ← hν1]
    refine wz_cV_of (ma_22 (by rw [hZ1]; exact (zzr_ne (fun q => absurd q.1 (by decide))).trans h3)) ?_
    have e5 : Z1 11 0 0 5 = 0 := by rw [hZ1]; exact (zzr_ne (fun q => absurd q.1 (by decide))).trans h5
    clear hZ1
    refine wz_lp sb_21_1 (fun m x => ∃ (Z' : qz_Z) (n : Int), 0 ≤ n ∧ n + m = 24 ∧ qz_fg [true, true, true, true, false, false] x.1 = [some (.inr (.inr (some (10, 0, 0)))), some (.inr (.inr (some (69, 0, 0)))), some (.inr (.inr (some (200, ν.2.2.2.1, 0)))), some (.inl (i3 n)), none, none] ∧ x.2 = ([], zm Z' ν1) ∧ zI none Z' ∧ zJ [69] ν.2.2.2.1 Z Z' ∧ Z' 11 0 0 5 = 0) ?_ 65536 24 _ (by omega) ⟨Z1, 0, by omega, by omega, rfl, rfl, I1, J1, e5⟩
    rintro m ⟨L, st, μ⟩ ⟨Z', n, hn0, hnm, hL, hx, I', J', e'⟩
    cases hx
    refine fb_21_1 _ _ _ _ _ _ _ hL ?_
    refine wz_br (i3Le (show (24 : Int32) = i3 24 from rfl) (rfl : i3 n = i3 n) (by omega) (by omega) (by omega) (by omega)) (fun q => wz_lk0 (wz_sk0 ?_)) (fun q => ?_)
    · refine fc_21_4 _ _ _ _ _ _ rfl ?_
      refine wz_lp sb_21_2 (fun m x => ∃ (n : Int), 0 ≤ n ∧ n + m = 24 ∧ qz_fg [true, true, true, true, true, false] x.1 = [some (.inr (.inr (some (10, 0, 0)))), some (.inr (.inr (some (69, 0, 0)))), some (.inr (.inr (some (200, ν.2.2.2.1, 0)))), some (.inl (i3 0)), some (.inl (i3 n)), none] ∧ x.2 = ([], zm Z' ν1)) ?_ 65536 24 _ (by omega) ⟨0, by omega, by omega, rfl, rfl⟩
      rintro m2 ⟨L2, st2, μ2⟩ ⟨n2, hn2, hnm2, hL2, hx2⟩
      cases hx2
      refine fb_21_2 _ _ _ _ _ _ _ _ hL2 ?_
      refine wz_br (i3Le (show (24 : Int32) = i3 24 from rfl) (rfl : i3 n2 = i3 n2) (by omega) (by omega) (by omega) (by omega)) (fun q => wz_lk0 (wz_sk0 ?_)) (fun q => ?_)
      · refine fc_21_3 _ _ _ _ _ rfl ⟨Z', by rw [hν1], rfl, I', J'⟩
      · refine wz_cI_of (ma_29 e') (wz_i1 (by decide) ?_)
        refine wz_k1 ⟨m2 - 1, by omega, n2 + 1, by omega, by omega, ?_, rfl⟩
        show [_, _, _, _, some (Sum.inl (i3 n2 + 1)), none] = _
        rw [show (1 : Int32) = i3 1 from rfl, i3_add] <;> rfl
    · refine wz_i1 (Eq.trans (i3Le (Eq.trans (zm_rd (Z := Z') (ν := ν1) (k := 11) rfl rfl rfl) (congrArg i3 e')) (rfl : i3 n = i3 n) (by omega) (by omega) (by omega) (by omega)) (decide_eq_true (by omega))) ?_
      refine wz_i0 (i3O rfl hn0 (by show n < (24 : Int); omega) (by decide)) ?_
      intro μ2 e2
      obtain ⟨Z2, hZ2⟩ := zx (zu Z' 69 0 0 n 0)
      replace e2 := e2.trans (zm_wI (ν := ν1) hZ2 rfl rfl (show (((i3 n).toNatClampNeg : Nat) : Int) = n by rw [i3_nat hn0 (by omega)]; omega) (show (0 : Int32) = i3 0 from rfl))
      subst e2
      refine wz_k1 ⟨m - 1, by omega, Z2, n + 1, by omega, by omega, ?_, rfl, zI_0 I' hZ2 (by decide) (.inl (by decide)), zJ_u J' hZ2 (.inl rfl), (zu_ne hZ2 (fun q => absurd q.1 (by decide))).trans e'⟩
      show [_, _, _, some (Sum.inl (i3 n + 1)), none, none] = _
      rw [show (1 : Int32) = i3 1 from rfl, i3_add] <;> rfl
  obtain ⟨μ', o, e, Z1, rfl, rfl, hh⟩ := main
  exact ⟨Z1, e, hh⟩
def zg_218 (a1 : Int) : Int × Int := if 0 ≤ a1 ∧ a1 ≤ 2 then (0, 0) else (0, 13)
theorem sg_218 {Z : qz_Z} {ν : qz_N} (h : zNew Z ν) {a1 : Int} (g1 : -2147483648 ≤ a1 ∧ a1 ≤ 2147483647) : ∃ (Z1 : qz_Z) (ν1 : qz_N) (v E : Int), (v, E) = zg_218 a1 ∧ qf_218 [.inr (.inr (some (0, 0, 0))), .inl (i3 a1)] (zm Z ν) = some (zm Z1 ν1, zoX v E) ∧ (zSt Z1 ν1 ∧ ∀ j, Z1 200 0 0 j = Z 200 0 0 j) := by
  unfold zg_218
  have c0 : (0 : Int32) = i3 0 := rfl
  have c1 : (1 : Int32) = i3 1 := rfl
  have c2 : (2 : Int32) = i3 2 := rfl
  have e5 : Z 11 0 0 5 = 0 := (h.2.1 11 0 5 (by decide)).trans (by decide)
  by_cases hO : 0 ≤ a1 ∧ a1 ≤ 2
  · rw [if_pos hO]
    obtain ⟨Z1, hq, I1, J1⟩ := ma_21 (ν := ν) h.1 ((h.2.1 11 0 3 (by decide)).trans (by decide)) e5
    have e51 : Z1 11 0 0 5 = 0 := (J1 11 0 0 5 (by decide) (fun q => absurd q.1 (by decide))).trans e5
    refine ⟨Z1, nal ν 50 1 20 1 20, _, _, rfl, wz_call_eq (fw_218 _ _ _ ?_), zSt_J h I1 J1 (zG_al zG_r) (by decide) (by decide) (by decide)⟩
    refine wz_i0 (Eq.trans (i3L (rfl : i3 a1 = i3 a1) c0 (by omega) (by omega) (by omega) (by omega)) (decide_eq_false (by omega))) ?_
    refine wz_i1 (Eq.trans (i3Le (rfl : i3 a1 = i3 a1) c2 (by omega) (by omega) (by omega) (by omega)) (decide_eq_true (by omega))) ?_
    refine wz_cI_of hq ?_
    refine wz_br (i3NE (rfl : i3 a1 = i3 a1) c0 (by omega) (by omega) (by omega) (by omega)) (fun q => ?_) (fun q => ⟨rfl, rfl⟩)
    refine wz_br (i3NE (rfl : i3 a1 = i3 a1) c1 (by omega) (by omega) (by omega) (by omega)) (fun q2 => ?_) (fun q2 => wz_cI_of (ma_19 e51) ⟨rfl, rfl⟩)
    exact wz_i0 (Eq.trans (i3NE (rfl : i3 a1 = i3 a1) c2 (by omega) (by omega) (by omega) (by omega)) (decide_eq_false (by omega))) (wz_cI_of (ma_27 e51) ⟨rfl, rfl⟩)
  · rw [if_neg hO]
    have hS := zSt_to (WS := []) (ν1 := nkk ν 1 6) h.2.2.1 h.2.2.2.1 ⟨by have := h.2.2.2.2.1; omega, by have := h.2.2.2.2.2; omega⟩ (zF_m h.2.1) h.1 zK_r (zN_k rfl) (by decide)
    refine ⟨Z, nkk ν 1 6, _, _, rfl, wz_call_eq (fw_218 _ _ _ ?_), hS⟩
    have c9 : (9 : Int32) + qz_im (zm Z ν) 11 0 0 5 = i3 9 := i3A (y := 0) (show (9 : Int32) = i3 9 from rfl) (Eq.trans (zm_rd (Z := Z) (ν := ν) (k := 11) rfl rfl rfl) (congrArg i3 e5))
    refine wz_br (i3L (rfl : i3 a1 = i3 a1) c0 (by omega) (by omega) (by omega) (by omega)) (fun q => ?_) (fun q => ?_)
    · exact wz_inR_n (rfl : i3 a1 = i3 a1) (show (10 : Int32) = i3 10 from rfl) c9 (by omega) (by omega) (by omega) (by omega) (by omega) (by omega) (by omega) ⟨rfl, rfl⟩
    · refine wz_i0 (Eq.trans (i3Le (rfl : i3 a1 = i3 a1) c2 (by omega) (by omega) (by omega) (by omega)) (decide_eq_false (by omega))) ?_
      exact wz_inR_n (rfl : i3 a1 = i3 a1) (show (10 : Int32) = i3 10 from rfl) c9 (by omega) (by omega) (by omega) (by omega) (by omega) (by omega) (by omega) ⟨rfl, rfl⟩
theorem lc_24 {Z : qz_Z} {ν : qz_N} (h : zNew Z ν) {k : wz_K} {R : wz_R} (hk : ∀ Z3 ν3 v2 v4, zEnd ν3 → k 40 ([some (.inr (.inr (some (200, 0, 0)))), some (.inr (.inr (some (0, 0, 0)))), some (.inr (.inr (some (1, 0, 0)))), some (.inr (.inr (some (71, 0, 0)))), some (.inl (0 : Int32)), some (.inl v2), some (.inl v4), none], [], zm Z3 ν3)) : gx_24 k R (gx_L 0, [], zm Z ν) := by
  refine fk_24 0 (zm Z ν) k R ?_
  have st := zNew_S h
  refine wz_i1 (zS_t st) (wz_i0 (zS_o st (by decide)) ?_)
  have g1 := zI_f h.1 200 0 0 1
  obtain ⟨Z2, ν2, v, E, hP, hq, hE0, st2, hs2⟩ := wrap_2 (hs := [(13, 1)]) (fun R hR => fv_597 _ _ R hR) (sg_218 h g1) (fun v E he => by
    unfold zg_218 at he
    split at he <;> cases he
    · exact .inl rfl
    · exact .inr ⟨(13, 1), by decide, rfl⟩) (by decide)
  refine wz_cI_of hq ?_
  refine wz_i1 (zS_t st2) (wz_i0 (zS_o st2 (by decide)) ?_)
  obtain ⟨Z3, ν3, w, t, hP2, hq2, ht, hI3, hK3, hN3⟩ := sg_436 (ν := ν2) st2.1 st2.2.1 (zI_f st2.1 200 0 0 1)
  refine wz_cI_of hq2 ?_
  rw [hs2 1] at hP2
  have hend : zEnd ν3 := zD_end st2 (zN_D hN3) (by decide) (by decide)
  have hc : (E = 0 ∧ v = 0 ∧ t = 0 ∧ w = 0) ∨ (E = 13 ∧ t = 1) := by
    unfold zg_218 at hP
    unfold zg_436 at hP2
    by_cases hO : 0 ≤ Z 200 0 0 1 ∧ Z 200 0 0 1 ≤ 2
    · rw [if_pos hO] at hP
      rw [if_neg (by omega), if_neg (by omega)] at hP2
      cases hP
      left
      split at hP2 <;> cases hP2 <;> exact ⟨rfl, rfl, rfl, rfl⟩
    · rw [if_neg hO] at hP
      cases hP
      right
      refine ⟨rfl, ?_⟩
      by_cases hn : Z 200 0 0 1 < 0
      · rw [if_pos hn] at hP2
        cases hP2
        rfl
      · rw [if_neg hn, if_pos (by omega)] at hP2
        split at hP2 <;> cases hP2 <;> rfl
  rcases hc with ⟨rfl, rfl, rfl, rfl⟩ | ⟨rfl, rfl⟩
  · refine wz_i1 (decide_eq_true (show i3 (Z3 1 0 0 2) = i3 (tcL [(13, 1)] 0) by rw [ht]; rfl)) ?_
    refine wz_i0 (by decide) (wz_i1 (decide_eq_true ?_) (hk _ _ _ _ hend))
    have e1 : qz_lm (zm Z3 ν3) 71 0 0 0 = (i3 0).toInt64 := (hN3.1 71 0 0 0 (by decide)).trans (hE0 rfl)
    rw [e1]
    exact lg_self _
  · refine wz_i1 (decide_eq_true (show i3 (Z3 1 0 0 2) = i3 (tcL [(13, 1)] 13) by rw [ht]; rfl)) ?_
    exact wz_i1 (by decide) (hk _ _ _ _ hend)
