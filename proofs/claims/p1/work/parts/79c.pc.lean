/-! pass(): compared, its case -/
/- pass -/
theorem cm_pass {a1 : Int} (ga1 : -2147483648 ≤ a1 ∧ a1 ≤ 2147483647) {v E w t : Int} (h1 : (v, E) = zg_227 a1) (h2 : (w, t) = zg_450 a1) : t = (if E = 13 then 1 else (if E = 15 then 2 else 0)) ∧ (E = 0 → v = w) ∧ (E = 0 ∨ E = 13 ∨ E = 15) := by
  unfold zg_227 at h1
  unfold zg_450 at h2
  grind (splits := 60) [frz, frs]
/- pass -/
theorem lw_pass {Z : qz_Z} {ν : qz_N} (h : zNew Z ν) {a1 : Int} (g1 : -2147483648 ≤ a1 ∧ a1 ≤ 2147483647) : ∃ (Z2 : qz_Z) (ν2 : qz_N) (v E : Int), (v, E) = zg_227 a1 ∧ qf_606 [.inr (.inr (some (0, 0, 0))), .inl (i3 a1), .inr (.inr (some (71, 0, 0)))] (zm Z ν) = some (zm Z2 ν2, .inl (some (.inl (i3 (tcL [(13, 1), (15, 2)] E))))) ∧ zW Z ν v E Z2 ν2 := by
  refine wrap_ok (hs := [(13, 1), (15, 2)]) (WS := [3, 11, 12, 13, 14, 40, 41, 42, 43, 44, 45, 46, 47, 48, 49, 50, 51, 52, 53, 54, 61, 68]) h.2.2.1 h.2.2.2.1 h.2.2.2.2 (zF_m h.2.1) (fun R hR => fv_606 (i3 a1) _ R hR) (sg_227 h.1 h.2.1 g1) (fun v E he => ?_) (by decide) (by decide)
  obtain ⟨-, -, c3⟩ := cm_pass g1 he (w := (zg_450 a1).1) (t := (zg_450 a1).2) rfl
  rcases c3 with c3 | c3 | c3
  · exact .inl c3
  · exact .inr ⟨(13, 1), by decide, c3⟩
  · exact .inr ⟨(15, 2), by decide, c3⟩
theorem lc_58 {Z : qz_Z} {ν : qz_N} (h : zNew Z ν) {k : wz_K} {R : wz_R} (hk : ∀ Z3 ν3 v2 v4, zEnd ν3 → k 6 ([some (.inr (.inr (some (200, 0, 0)))), some (.inr (.inr (some (0, 0, 0)))), some (.inr (.inr (some (1, 0, 0)))), some (.inr (.inr (some (71, 0, 0)))), some (.inl (0 : Int32)), some (.inl v2), some (.inl v4), none], [], zm Z3 ν3)) : gx_58 k R (gx_L 0, [], zm Z ν) := by
  refine fk_58 0 (zm Z ν) k R ?_
  have st := zNew_S h
  refine wz_i1 (zS_t st) (wz_i0 (zS_o st (by decide)) ?_)
  have g1 := zI_f h.1 200 0 0 1
  obtain ⟨Z2, ν2, v, E, hP, hq, hE0, st2, hs2⟩ := lw_pass h g1
  refine wz_cI_of hq ?_
  refine wz_i1 (zS_t st2) (wz_i0 (zS_o st2 (by decide)) ?_)
  have f1 := zI_f st2.1 200 0 0 1
  obtain ⟨Z3, ν3, w, t, hP2, hq2, ht, hI3, hK3, hN3⟩ := sg_450 st2.1 st2.2.1 f1 (fun _ => st2.2.2.2.1)
  refine wz_cI_of hq2 ?_
  rw [hs2 1] at hP2
  obtain ⟨c1, c2, c3⟩ := cm_pass g1 hP hP2
  have hend : zEnd ν3 := ⟨⟨(hN3.2.2.1 0 (by have := st2.2.2.1.2; omega)).trans st2.2.2.1.1, by have := st2.2.2.1.2; have := hN3.2.2.2.1; omega⟩, by have := st2.2.2.2.2.1; have := hN3.2.2.2.2.1; omega, by have := st2.2.2.2.2.2; have := hN3.2.2.2.2.2; omega⟩
  refine wz_i1 (decide_eq_true (show i3 (Z3 1 0 0 2) = i3 (tcL [(13, 1), (15, 2)] E) by rw [ht, c1]; rfl)) ?_
  rcases c3 with rfl | rfl | rfl
  · refine wz_i0 (by decide) (wz_i1 (decide_eq_true ?_) (hk _ _ _ _ hend))
    have e1 : qz_lm (zm Z3 ν3) 71 0 0 0 = (i3 v).toInt64 := (hN3.1 71 0 0 0 (by decide)).trans (hE0 rfl)
    rw [e1, c2 rfl]
    exact lg_self _
  · exact wz_i1 (by decide) (hk _ _ _ _ hend)
  · exact wz_i1 (by decide) (hk _ _ _ _ hend)
