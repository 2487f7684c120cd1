/-! KEEP -/
def zg_213 (a1 : Int) : Int × Int := if 0 ≤ a1 ∧ a1 ≤ 1 then (0, 0) else (0, 13)
def zg_424 (a1 : Int) : Int × Int := if 0 ≤ a1 ∧ a1 ≤ 1 then (0, 0) else (0, 1)
theorem sg_213 {Z : qz_Z} {ν : qz_N} (h : zNew Z ν) (hR : zRf Z ν) {a1 : Int} (g1 : -2147483648 ≤ a1 ∧ a1 ≤ 2147483647) : ∃ (Z1 : qz_Z) (ν1 : qz_N) (v E : Int), (v, E) = zg_213 a1 ∧ qf_213 [.inr (.inr (some (0, 0, 0))), .inl (i3 a1)] (zm Z ν) = some (zm Z1 ν1, zoX v E) ∧ zSt Z1 ν1 ∧ (∀ j, Z1 200 0 0 j = Z 200 0 0 j) ∧ (∀ j, ν1.2.1 1 0 0 j = lk_0 j) := by
  unfold zg_213
  by_cases hO : 0 ≤ a1 ∧ a1 ≤ 1
  · rw [if_pos hO]
    have hn : (i3 a1).toNatClampNeg = a1.toNat := i3_nat hO.1 (by omega)
    have o2 : pz_out (i3 a1) 2 = false := i3O rfl hO.1 (by show a1 < (2 : Int); omega) (by decide)
    obtain ⟨Z2, -, hq, hI, hK, hb⟩ := sp_cp (ν := ν) h.1 0 (10 + a1.toNat) (by omega)
    obtain ⟨Z3, hZ3⟩ := zx (zu Z2 65 0 0 a1 1)
    have hI3 : zI none Z3 := by
      rcases (show a1 = 0 ∨ a1 = 1 by omega) with rfl | rfl
      · exact zI_v hI hZ3 (by decide) (by decide) (by decide) (.inl (by decide))
      · exact zI_v hI hZ3 (by decide) (by decide) (by decide) (.inl (by decide))
    have hK3 : zK [11, 12, 13, 14, 40, 41, 42, 43, 44, 45, 46, 47, 48, 49, 50, 51, 52, 53, 54, 65] Z Z3 := zK_u (zK_w hK (by decide)) hZ3 (by decide)
    have e11 : Z3 11 0 0 15 = 0 := (zu_ne hZ3 (fun q => absurd q.1 (by decide))).trans ((hb 11 0 0 15 (by omega)).trans ((hR.1 11 0 0 15 (by decide)).trans (by decide)))
    have hS := zSt_to (ν1 := ν) h.2.2.1 h.2.2.2.1 ⟨by have := h.2.2.2.2.1; omega, by have := h.2.2.2.2.2; omega⟩ (zF_m h.2.1) hI3 hK3 zN_r (by decide)
    refine ⟨Z3, ν, _, _, rfl, wz_call_eq (fw_213 _ _ _ ?_), hS.1, hS.2, hR.2⟩
    refine wz_inR_y (rfl : i3 a1 = i3 a1) (show (0 : Int32) = i3 0 from rfl) (show (1 : Int32) = i3 1 from rfl) (by omega) (by omega) (by omega) (by omega) (by omega) (by omega) hO ?_
    rw [hn]
    refine wz_i0 o2 (wz_cV_of hq (wz_i0 o2 ?_))
    intro μ3 e3
    replace e3 := e3.trans (zm_wI (ν := ν) hZ3 rfl rfl (show ((a1.toNat : Nat) : Int) = a1 by omega) (show (1 : Int32) = i3 1 from rfl))
    subst e3
    exact ⟨rfl, zo _ _ (Eq.trans (zm_rd (Z := Z3) (ν := ν) (k := 11) rfl rfl rfl) (congrArg i3 e11))⟩
  · rw [if_neg hO]
    have hS := zSt_to (WS := []) (ν1 := nkk ν 1 6) h.2.2.1 h.2.2.2.1 ⟨by have := h.2.2.2.2.1; omega, by have := h.2.2.2.2.2; omega⟩ (zF_m h.2.1) h.1 zK_r (zN_k rfl) (by decide)
    refine ⟨Z, nkk ν 1 6, _, _, rfl, wz_call_eq (fw_213 _ _ _ ?_), hS.1, hS.2, hR.2⟩
    exact wz_inR_n (rfl : i3 a1 = i3 a1) (show (0 : Int32) = i3 0 from rfl) (show (1 : Int32) = i3 1 from rfl) (by omega) (by omega) (by omega) (by omega) (by omega) (by omega) hO ⟨rfl, rfl⟩
/-- a row of no length -/
theorem kp_565 {Z : qz_Z} {ν : qz_N} (r : qz_R) : qf_565 [.inr (.inr (some r)), .inl (i3 0), .inl (i3 0)] (zm Z ν) = some (zm (zzr Z ν.2.2.2.1) (nal ν 50 1 0 1 0), .inl (some (.inr (.inr (some (200, ν.2.2.2.1, 0)))))) := by
  refine wz_call_eq (fw_565 r (i3 0) (i3 0) (zm Z ν) _ ?_)
  refine wz_i0 (by decide) ?_
  intro μ1 e1
  have hn : (i3 0).toNatClampNeg = 0 := by decide
  rw [hn, zal] at e1
  subst e1
  refine wz_l0 sb_565_1 (fb_565_1 _ _ _ _ _ _ _ _ rfl ?_)
  refine wz_i1 (by decide) (wz_lk0 (wz_sk0 (fc_565_2 _ _ _ _ _ rfl ?_)))
  exact ⟨rfl, rfl⟩
theorem kp_wI {Z : qz_Z} {ν : qz_N} {k b i j : Nat} {v : Int32} {K : qz_M → Prop} (h : ∀ Z1, (∀ k' (b' i' j' : Int), k' ≠ k → Z1 k' b' i' j' = Z k' b' i' j') → K (zm Z1 ν)) : wz_wr (qz_wI (zm Z ν) (k, b, i) j v) K := by
  intro μ1 e1
  obtain ⟨Z1, hZ1⟩ := zx (zu Z k b i j v.toInt)
  replace e1 := e1.trans (zm_wI (ν := ν) hZ1 rfl rfl rfl (i3_of v))
  subst e1
  exact h Z1 (fun k' b' i' j' hk => zu_ne hZ1 (fun q => hk q.1))
theorem sg_424 {Z : qz_Z} {ν : qz_N} (hF : zFm Z) (hr : ∀ j, ν.2.1 1 0 0 j = lk_0 j) {a1 : Int} (g1 : -2147483648 ≤ a1 ∧ a1 ≤ 2147483647) : ∃ (Z1 : qz_Z) (ν1 : qz_N) (v t : Int), (v, t) = zg_424 a1 ∧ qf_424 [.inr (.inr (some (1, 0, 0))), .inl (i3 a1)] (zm Z ν) = some (zm Z1 ν1, .inl (some (.inl (i3 v)))) ∧ Z1 1 0 0 2 = t ∧ zD 2 0 ν ν1 := by
  unfold zg_424
  have c0 : (0 : Int32) = i3 0 := rfl
  have c1 : (1 : Int32) = i3 1 := rfl
  by_cases hO : 0 ≤ a1 ∧ a1 ≤ 1
  · rw [if_pos hO]
    have main : wz_call qf_424 [.inr (.inr (some (1, 0, 0))), .inl (i3 a1)] (zm Z ν) (fun μ2 o2 => ∃ Z1 ν1, μ2 = zm Z1 ν1 ∧ o2 = .inl (some (.inl (i3 0))) ∧ Z1 1 0 0 2 = 0 ∧ zD 2 0 ν ν1) := by
      refine fw_424 _ _ _ ?_
      refine wz_i0 (Eq.trans (i3L (rfl : i3 a1 = i3 a1) c0 (by omega) (by omega) (by omega) (by omega)) (decide_eq_false (by omega))) ?_
      refine wz_i0 (Eq.trans (i3L c1 (rfl : i3 a1 = i3 a1) (by omega) (by omega) (by omega) (by omega)) (decide_eq_false (by omega))) ?_
      obtain ⟨Z2, hZ2⟩ := zx (zu Z 1 0 0 2 0)
      intro μ1 e1
      replace e1 := e1.trans (zm_wI (ν := ν) hZ2 rfl rfl rfl c0)
      subst e1
      refine wz_lp sb_424_1 (fun m x => ∃ (Z' : qz_Z) (n : Int), 0 ≤ n ∧ n + m = 4400 ∧ qz_fg [true, true, true, false] x.1 = [some (.inr (.inr (some (1, 0, 0)))), some (.inl (i3 a1)), some (.inl (i3 n)), none] ∧ x.2 = ([], zm Z' ν) ∧ ∀ k (b i j : Int), k ≠ 104 → Z' k b i j = Z2 k b i j) ?_ 65536 4400 _ (by omega) ⟨Z2, 0, by omega, by omega, rfl, rfl, fun _ _ _ _ _ => rfl⟩
      rintro m ⟨L, st, μ⟩ ⟨Z', n, hn0, hnm, hL, hx, hZ'⟩
      cases hx
      refine fb_424_1 _ _ _ _ _ _ hL ?_
      refine wz_br (i3Le (show (4400 : Int32) = i3 4400 from rfl) (rfl : i3 n = i3 n) (by omega) (by omega) (by omega) (by omega)) (fun q => wz_lk0 (wz_sk0 ?_)) (fun q => ?_)
      · refine fc_424_2 _ _ _ _ _ rfl ?_
        have f37 : ∀ {Z9 : qz_Z}, (∀ k (b i j : Int), k ≠ 200 → k ≠ 104 → k ≠ 109 → k ≠ 110 → k ≠ 111 → Z9 k b i j = Z2 k b i j) → ∀ ν9, qz_im (zm Z9 ν9) 1 0 0 37 = i3 0 := fun hk ν9 => Eq.trans (zm_rd (k := 1) rfl rfl rfl) (congrArg i3 ((hk 1 0 0 37 (by decide) (by decide) (by decide) (by decide) (by decide)).trans ((zu_ne hZ2 (by omega)).trans ((hF 1 0 37 (by decide)).trans (by decide)))))
        have f39 : ∀ {Z9 : qz_Z}, (∀ k (b i j : Int), k ≠ 200 → k ≠ 104 → k ≠ 109 → k ≠ 110 → k ≠ 111 → Z9 k b i j = Z2 k b i j) → ∀ ν9, qz_im (zm Z9 ν9) 1 0 0 39 = i3 0 := fun hk ν9 => Eq.trans (zm_rd (k := 1) rfl rfl rfl) (congrArg i3 ((hk 1 0 0 39 (by decide) (by decide) (by decide) (by decide) (by decide)).trans ((zu_ne hZ2 (by omega)).trans ((hF 1 0 39 (by decide)).trans (by decide)))))
        have k0 : ∀ k (b i j : Int), k ≠ 200 → k ≠ 104 → k ≠ 109 → k ≠ 110 → k ≠ 111 → Z' k b i j = Z2 k b i j := fun k b i j _ h _ _ _ => hZ' k b i j h
        refine wz_rko (hr 36) ?_
        rw [f37 k0, show (7 : Int32) * i3 0 = i3 0 from by decide]
        refine wz_cR_of (kp_565 _) ?_
        obtain ⟨Z3, hZ3⟩ := zx (zzr Z' ν.2.2.2.1)
        obtain ⟨ν3, hν3⟩ := zx (nal ν 50 1 0 1 0)
        have k3 : ∀ k (b i j : Int), k ≠ 200 → k ≠ 104 → k ≠ 109 → k ≠ 110 → k ≠ 111 → Z3 k b i j = Z2 k b i j := fun k b i j a b' c d e => by subst hZ3; exact (zzr_ne (fun q => a q.1)).trans (k0 k b i j a b' c d e)
        have r3 : ∀ j, ν3.2.1 1 0 0 j = lk_0 j := fun j => by subst hν3; exact (nal_r (by decide)).trans (hr j)
        have d3 : zD 1 0 ν ν3 := by subst hν3; exact zD_al zD_r
        rw [← hZ3, ← hν3]
        refine wz_rko (r3 38) ?_
        rw [f39 k3]
        refine wz_cR_of (kp_565 _) ?_
        obtain ⟨Z4, hZ4⟩ := zx (zzr Z3 ν3.2.2.2.1)
        obtain ⟨ν4, hν4⟩ := zx (nal ν3 50 1 0 1 0)
        have k4 : ∀ k (b i j : Int), k ≠ 200 → k ≠ 104 → k ≠ 109 → k ≠ 110 → k ≠ 111 → Z4 k b i j = Z2 k b i j := fun k b i j a b' c d e => by subst hZ4; exact (zzr_ne (fun q => a q.1)).trans (k3 k b i j a b' c d e)
        have r4 : ∀ j, ν4.2.1 1 0 0 j = lk_0 j := fun j => by subst hν4; exact (nal_r (by decide)).trans (r3 j)
        have d4 : zD 2 0 ν ν4 := by subst hν4; exact zD_al d3
        rw [← hZ4, ← hν4]
        generalize ν.2.2.2.1 = n1
        generalize ν3.2.2.2.1 = n2
        clear hZ3 hZ4 hν3 hν4
        have o2 : pz_out (i3 a1) 2 = false := i3O rfl hO.1 (by show a1 < (2 : Int); omega) (by decide)
        -- the tail: three marks, and the answer
        have tail : ∀ ν9, zD 2 0 ν ν9 → (bif pz_out (i3 a1) 2 then False else (wz_wr (qz_wI (zm Z4 ν9) (109, 0, 0) (i3 a1).toNatClampNeg (qz_im (zm Z4 ν9) 1 0 0 37)) (fun μ15 => (bif pz_out (i3 a1) 2 then False else (wz_wr (qz_wI μ15 (110, 0, 0) (i3 a1).toNatClampNeg (qz_im μ15 1 0 0 39)) (fun μ16 => (bif pz_out (i3 a1) 2 then False else (wz_wr (qz_wI μ16 (111, 0, 0) (i3 a1).toNatClampNeg (1 : Int32)) (fun μ17 => ((fun μ2 (o2 : qz_Oc) => ∃ Z1 ν1, μ2 = zm Z1 ν1 ∧ o2 = .inl (some (.inl (i3 0))) ∧ Z1 1 0 0 2 = 0 ∧ zD 2 0 ν ν1) μ17 (.inl (some (.inl (qz_im μ17 1 0 0 37)))))))))))))) := by
          intro ν9 hd
          refine wz_i0 o2 (kp_wI (fun Z5 h5 => wz_i0 o2 (kp_wI (fun Z6 h6 => wz_i0 o2 (kp_wI (fun Z7 h7 => ?_))))))
          have k7 : ∀ k (b i j : Int), k ≠ 200 → k ≠ 104 → k ≠ 109 → k ≠ 110 → k ≠ 111 → Z7 k b i j = Z2 k b i j := fun k b i j a b' c d e => (h7 k b i j e).trans ((h6 k b i j d).trans ((h5 k b i j c).trans (k4 k b i j a b' c d e)))
          refine ⟨Z7, ν9, rfl, zo _ _ (f37 k7 ν9), (k7 1 0 0 2 (by decide) (by decide) (by decide) (by decide) (by decide)).trans (zu_at hZ2), hd⟩
        rcases (show a1 = 0 ∨ a1 = 1 by omega) with rfl | rfl
        · refine wz_i0 (by decide) ?_
          intro μ5 e5
          rw [zm_wR] at e5
          subst e5
          refine wz_i1 (by decide) (wz_rko ((nwr_ne (by omega)).trans (r4 42)) ?_)
          intro μ6 e6
          rw [zm_wR] at e6
          subst e6
          refine wz_i0 (by decide) ?_
          intro μ7 e7
          rw [zm_wR] at e7
          subst e7
          refine wz_i1 (by decide) (wz_rko ((nwr_ne (by omega)).trans ((nwr_ne (by omega)).trans ((nwr_ne (by omega)).trans (r4 44)))) ?_)
          intro μ8 e8
          rw [zm_wR] at e8
          subst e8
          exact tail _ d4
        · refine wz_i1 (by decide) (wz_rko (r4 41) ?_)
          intro μ5 e5
          rw [zm_wR] at e5
          subst e5
          refine wz_i0 (by decide) ?_
          intro μ6 e6
          rw [zm_wR] at e6
          subst e6
          refine wz_i1 (by decide) (wz_rko ((nwr_ne (by omega)).trans ((nwr_ne (by omega)).trans (r4 43))) ?_)
          intro μ7 e7
          rw [zm_wR] at e7
          subst e7
          refine wz_i0 (by decide) ?_
          intro μ8 e8
          rw [zm_wR] at e8
          subst e8
          exact tail _ d4
      · have hx : 0 ≤ 4400 * a1 + n ∧ 4400 * a1 + n < 8800 := by omega
        have ex : (4400 : Int32) * i3 a1 + i3 n = i3 (4400 * a1 + n) := i3A (i3M (show (4400 : Int32) = i3 4400 from rfl) rfl) rfl
        rw [ex]
        refine wz_i0 (i3O rfl hn0 (by show n < (4400 : Int); omega) (by decide)) (wz_i0 (i3O rfl hx.1 (by show _ < (8800 : Int); omega) (by decide)) (kp_wI (fun Z5 h5 => ?_)))
        refine wz_k1 ⟨m - 1, by omega, Z5, n + 1, by omega, by omega, ?_, rfl, fun k b i j hk => (h5 k b i j hk).trans (hZ' k b i j hk)⟩
        show [_, _, some (Sum.inl (i3 n + 1)), none] = _
        rw [c1, i3_add] <;> rfl
    obtain ⟨μ', o, e, Z1, ν1, rfl, rfl, hh⟩ := main
    exact ⟨Z1, ν1, _, _, rfl, e, hh⟩
  · rw [if_neg hO]
    obtain ⟨Z2, hZ2⟩ := zx (zu Z 1 0 0 2 1)
    refine ⟨Z2, ν, _, _, rfl, wz_call_eq (fw_424 _ _ _ ?_), zu_at hZ2, zD_w zD_r (by decide) (by decide)⟩
    have hn : wz_wr (qz_wI (zm Z ν) (1, 0, 0) 2 (1 : Int32)) (fun μ9 => μ9 = zm Z2 ν ∧ (.inl (some (.inl (0 : Int32))) : qz_Oc) = .inl (some (.inl (i3 0)))) := by
      intro μ9 e9
      exact ⟨e9.trans (zm_wI (Z := Z) (ν := ν) hZ2 rfl rfl rfl c1), rfl⟩
    refine wz_br (i3L (rfl : i3 a1 = i3 a1) c0 (by omega) (by omega) (by omega) (by omega)) (fun _ => hn) (fun h1 => ?_)
    exact wz_i1 (Eq.trans (i3L c1 (rfl : i3 a1 = i3 a1) (by omega) (by omega) (by omega) (by omega)) (decide_eq_true (by omega))) hn
theorem lc_60 {Z : qz_Z} {ν : qz_N} (h : zNew Z ν) (hR : zRf Z ν) {k : wz_K} {R : wz_R} (hk : ∀ Z3 ν3 v2 v4, zEnd ν3 → k 4 ([some (.inr (.inr (some (200, 0, 0)))), some (.inr (.inr (some (0, 0, 0)))), some (.inr (.inr (some (1, 0, 0)))), some (.inr (.inr (some (71, 0, 0)))), some (.inl (0 : Int32)), some (.inl v2), some (.inl v4), none], [], zm Z3 ν3)) : gx_60 k R (gx_L 0, [], zm Z ν) := by
  refine fk_60 0 (zm Z ν) k R ?_
  have st := zNew_S h
  refine wz_i1 (zS_t st) (wz_i0 (zS_o st (by decide)) ?_)
  have g1 := zI_f h.1 200 0 0 1
  have lw : ∃ (Z2 : qz_Z) (ν2 : qz_N) (v E : Int), (v, E) = zg_213 (Z 200 0 0 1) ∧ qf_592 [.inr (.inr (some (0, 0, 0))), .inl (i3 (Z 200 0 0 1)), .inr (.inr (some (71, 0, 0)))] (zm Z ν) = some (zm Z2 ν2, .inl (some (.inl (i3 (tcL [(13, 1)] E))))) ∧ (E = 0 → ν2.1 71 0 0 0 = (i3 v).toInt64) ∧ zSt Z2 ν2 ∧ (∀ j, Z2 200 0 0 j = Z 200 0 0 j) ∧ (∀ j, ν2.2.1 1 0 0 j = lk_0 j) := by
    refine wrap_3 (hs := [(13, 1)]) (fun Z1 ν1 => (∀ j, Z1 200 0 0 j = Z 200 0 0 j) ∧ (∀ j, ν1.2.1 1 0 0 j = lk_0 j)) (fun _ _ _ _ h => h) (fun _ _ s h => ⟨fun j => (zs_X2 s j).trans (h.1 j), fun j => (nal_r (by decide)).trans (h.2 j)⟩) (fun R hR => fv_592 _ _ R hR) (sg_213 h hR g1) (fun v E he => ?_) (by decide)
    unfold zg_213 at he
    split at he <;> cases he
    · exact .inl rfl
    · exact .inr ⟨(13, 1), by decide, rfl⟩
  obtain ⟨Z2, ν2, v, E, hP, hq, hE0, st2, hs2, hr2⟩ := lw
  refine wz_cI_of hq ?_
  refine wz_i1 (zS_t st2) (wz_i0 (zS_o st2 (by decide)) ?_)
  obtain ⟨Z3, ν3, w, t, hP2, hq2, ht, hD⟩ := sg_424 st2.2.1 hr2 (zI_f st2.1 200 0 0 1)
  refine wz_cI_of hq2 ?_
  rw [hs2 1] at hP2
  unfold zg_213 at hP
  unfold zg_424 at hP2
  have hend : zEnd ν3 := zD_end st2 hD (by decide) (by decide)
  by_cases hO : 0 ≤ Z 200 0 0 1 ∧ Z 200 0 0 1 ≤ 1
  · rw [if_pos hO] at hP hP2
    cases hP
    cases hP2
    refine wz_i1 (decide_eq_true (show i3 (Z3 1 0 0 2) = i3 (tcL [(13, 1)] 0) by rw [ht]; rfl)) ?_
    refine wz_i0 (by decide) (wz_i1 (decide_eq_true ?_) (hk _ _ _ _ hend))
    have e1 : qz_lm (zm Z3 ν3) 71 0 0 0 = (i3 0).toInt64 := (hD.1 71 0 0 0 (by decide)).trans (hE0 rfl)
    rw [e1]
    exact lg_self _
  · rw [if_neg hO] at hP hP2
    cases hP
    cases hP2
    refine wz_i1 (decide_eq_true (show i3 (Z3 1 0 0 2) = i3 (tcL [(13, 1)] 13) by rw [ht]; rfl)) ?_
    exact wz_i1 (by decide) (hk _ _ _ _ hend)
