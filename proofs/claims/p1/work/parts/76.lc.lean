/-! the law's cases at a new object (printed by lcs.py) -/
/- sort -/
theorem lw_sort {Z : qz_Z} {ν : qz_N} (h : zNew Z ν) {a1 : Int} (g1 : -2147483648 ≤ a1 ∧ a1 ≤ 2147483647) {a2 : Int} (g2 : -2147483648 ≤ a2 ∧ a2 ≤ 2147483647) {a3 : Int} (g3 : -2147483648 ≤ a3 ∧ a3 ≤ 2147483647) {a4 : Int} (g4 : -2147483648 ≤ a4 ∧ a4 ≤ 2147483647) {a5 : Int} (g5 : -2147483648 ≤ a5 ∧ a5 ≤ 2147483647) : ∃ (Z2 : qz_Z) (ν2 : qz_N) (v E : Int), (v, E) = zg_243 a1 a2 a3 a4 a5 ∧ qf_621 [.inr (.inr (some (0, 0, 0))), .inl (i3 a1), .inl (i3 a2), .inl (i3 a3), .inl (i3 a4), .inl (i3 a5), .inr (.inr (some (71, 0, 0)))] (zm Z ν) = some (zm Z2 ν2, .inl (some (.inl (i3 (tcL [(13, 1), (15, 2)] E))))) ∧ zW Z ν v E Z2 ν2 := by
  refine wrap_ok (hs := [(13, 1), (15, 2)]) (WS := [3, 11, 12, 13, 14, 40, 41, 42, 43, 44, 45, 46, 47, 48, 49, 50, 51, 52, 53, 54, 61, 68]) h.2.2.1 h.2.2.2.1 h.2.2.2.2 (zF_m h.2.1) (fun R hR => fv_621 (i3 a1) (i3 a2) (i3 a3) (i3 a4) (i3 a5) _ R hR) (sg_243 h.1 h.2.1 g1 g2 g3 g4 g5) (fun v E he => ?_) (by decide) (by decide)
  obtain ⟨-, -, c3⟩ := cm_sort g1 g2 g3 g4 g5 he (w := (zg_503 a1 a2 a3 a4 a5).1) (t := (zg_503 a1 a2 a3 a4 a5).2) rfl
  rcases c3 with c3 | c3 | c3
  · exact .inl c3
  · exact .inr ⟨(13, 1), by decide, c3⟩
  · exact .inr ⟨(15, 2), by decide, c3⟩
theorem lc_0 {Z : qz_Z} {ν : qz_N} (h : zNew Z ν) {k : wz_K} {R : wz_R} (hk : ∀ Z3 ν3 v2 v4, zEnd ν3 → k 64 ([some (.inr (.inr (some (200, 0, 0)))), some (.inr (.inr (some (0, 0, 0)))), some (.inr (.inr (some (1, 0, 0)))), some (.inr (.inr (some (71, 0, 0)))), some (.inl (0 : Int32)), some (.inl v2), some (.inl v4), none], [], zm Z3 ν3)) : gx_0 k R (gx_L 0, [], zm Z ν) := by
  refine fk_0 0 (zm Z ν) k R ?_
  have st := zNew_S h
  refine wz_i1 (zS_t st) (wz_i0 (zS_o st (by decide)) ?_)
  refine wz_i1 (zS_t st) (wz_i0 (zS_o st (by decide)) ?_)
  refine wz_i1 (zS_t st) (wz_i0 (zS_o st (by decide)) ?_)
  refine wz_i1 (zS_t st) (wz_i0 (zS_o st (by decide)) ?_)
  refine wz_i1 (zS_t st) (wz_i0 (zS_o st (by decide)) ?_)
  have g1 := zI_f h.1 200 0 0 1
  have g2 := zI_f h.1 200 0 0 2
  have g3 := zI_f h.1 200 0 0 3
  have g4 := zI_f h.1 200 0 0 4
  have g5 := zI_f h.1 200 0 0 5
  obtain ⟨Z2, ν2, v, E, hP, hq, hE0, st2, hs2⟩ := lw_sort h g1 g2 g3 g4 g5
  refine wz_cI_of hq ?_
  refine wz_i1 (zS_t st2) (wz_i0 (zS_o st2 (by decide)) ?_)
  refine wz_i1 (zS_t st2) (wz_i0 (zS_o st2 (by decide)) ?_)
  refine wz_i1 (zS_t st2) (wz_i0 (zS_o st2 (by decide)) ?_)
  refine wz_i1 (zS_t st2) (wz_i0 (zS_o st2 (by decide)) ?_)
  refine wz_i1 (zS_t st2) (wz_i0 (zS_o st2 (by decide)) ?_)
  have f1 := zI_f st2.1 200 0 0 1
  have f2 := zI_f st2.1 200 0 0 2
  have f3 := zI_f st2.1 200 0 0 3
  have f4 := zI_f st2.1 200 0 0 4
  have f5 := zI_f st2.1 200 0 0 5
  obtain ⟨Z3, ν3, w, t, hP2, hq2, ht, hI3, hK3, hN3⟩ := sg_503 st2.1 st2.2.1 f1 f2 f3 f4 f5 (fun _ => st2.2.2.2.1)
  refine wz_cI_of hq2 ?_
  rw [hs2 1, hs2 2, hs2 3, hs2 4, hs2 5] at hP2
  obtain ⟨c1, c2, c3⟩ := cm_sort g1 g2 g3 g4 g5 hP hP2
  have hend : zEnd ν3 := ⟨⟨(hN3.2.2.1 0 (by have := st2.2.2.1.2; omega)).trans st2.2.2.1.1, by have := st2.2.2.1.2; have := hN3.2.2.2.1; omega⟩, by have := st2.2.2.2.2.1; have := hN3.2.2.2.2.1; omega, by have := st2.2.2.2.2.2; have := hN3.2.2.2.2.2; omega⟩
  refine wz_i1 (decide_eq_true (show i3 (Z3 1 0 0 2) = i3 (tcL [(13, 1), (15, 2)] E) by rw [ht, c1]; rfl)) ?_
  rcases c3 with rfl | rfl | rfl
  · refine wz_i0 (by decide) (wz_i1 (decide_eq_true ?_) (hk _ _ _ _ hend))
    have e1 : qz_lm (zm Z3 ν3) 71 0 0 0 = (i3 v).toInt64 := (hN3.1 71 0 0 0 (by decide)).trans (hE0 rfl)
    rw [e1, c2 rfl]
    exact lg_self _
  · exact wz_i1 (by decide) (hk _ _ _ _ hend)
  · exact wz_i1 (by decide) (hk _ _ _ _ hend)

/- grower -/
theorem lw_grower {Z : qz_Z} {ν : qz_N} (h : zNew Z ν) {a1 : Int} (g1 : -2147483648 ≤ a1 ∧ a1 ≤ 2147483647) {a2 : Int} (g2 : -2147483648 ≤ a2 ∧ a2 ≤ 2147483647) : ∃ (Z2 : qz_Z) (ν2 : qz_N) (v E : Int), (v, E) = zg_204 a1 a2 ∧ qf_586 [.inr (.inr (some (0, 0, 0))), .inl (i3 a1), .inl (i3 a2), .inr (.inr (some (71, 0, 0)))] (zm Z ν) = some (zm Z2 ν2, .inl (some (.inl (i3 (tcL [(13, 1), (15, 2)] E))))) ∧ zW Z ν v E Z2 ν2 := by
  refine wrap_ok (hs := [(13, 1), (15, 2)]) (WS := [3, 11, 12, 13, 14, 40, 41, 42, 43, 44, 45, 46, 47, 48, 49, 50, 51, 52, 53, 54, 61, 68]) h.2.2.1 h.2.2.2.1 h.2.2.2.2 (zF_m h.2.1) (fun R hR => fv_586 (i3 a1) (i3 a2) _ R hR) (sg_204 h.1 h.2.1 g1 g2) (fun v E he => ?_) (by decide) (by decide)
  obtain ⟨-, -, c3⟩ := cm_grower g1 g2 he (w := (zg_347 a1 a2).1) (t := (zg_347 a1 a2).2) rfl
  rcases c3 with c3 | c3 | c3
  · exact .inl c3
  · exact .inr ⟨(13, 1), by decide, c3⟩
  · exact .inr ⟨(15, 2), by decide, c3⟩
theorem lc_1 {Z : qz_Z} {ν : qz_N} (h : zNew Z ν) {k : wz_K} {R : wz_R} (hk : ∀ Z3 ν3 v2 v4, zEnd ν3 → k 63 ([some (.inr (.inr (some (200, 0, 0)))), some (.inr (.inr (some (0, 0, 0)))), some (.inr (.inr (some (1, 0, 0)))), some (.inr (.inr (some (71, 0, 0)))), some (.inl (0 : Int32)), some (.inl v2), some (.inl v4), none], [], zm Z3 ν3)) : gx_1 k R (gx_L 0, [], zm Z ν) := by
  refine fk_1 0 (zm Z ν) k R ?_
  have st := zNew_S h
  refine wz_i1 (zS_t st) (wz_i0 (zS_o st (by decide)) ?_)
  refine wz_i1 (zS_t st) (wz_i0 (zS_o st (by decide)) ?_)
  have g1 := zI_f h.1 200 0 0 1
  have g2 := zI_f h.1 200 0 0 2
  obtain ⟨Z2, ν2, v, E, hP, hq, hE0, st2, hs2⟩ := lw_grower h g1 g2
  refine wz_cI_of hq ?_
  refine wz_i1 (zS_t st2) (wz_i0 (zS_o st2 (by decide)) ?_)
  refine wz_i1 (zS_t st2) (wz_i0 (zS_o st2 (by decide)) ?_)
  have f1 := zI_f st2.1 200 0 0 1
  have f2 := zI_f st2.1 200 0 0 2
  obtain ⟨Z3, ν3, w, t, hP2, hq2, ht, hI3, hK3, hN3⟩ := sg_347 st2.1 st2.2.1 f1 f2 (fun _ => st2.2.2.2.1)
  refine wz_cI_of hq2 ?_
  rw [hs2 1, hs2 2] at hP2
  obtain ⟨c1, c2, c3⟩ := cm_grower g1 g2 hP hP2
  have hend : zEnd ν3 := ⟨⟨(hN3.2.2.1 0 (by have := st2.2.2.1.2; omega)).trans st2.2.2.1.1, by have := st2.2.2.1.2; have := hN3.2.2.2.1; omega⟩, by have := st2.2.2.2.2.1; have := hN3.2.2.2.2.1; omega, by have := st2.2.2.2.2.2; have := hN3.2.2.2.2.2; omega⟩
  refine wz_i1 (decide_eq_true (show i3 (Z3 1 0 0 2) = i3 (tcL [(13, 1), (15, 2)] E) by rw [ht, c1]; rfl)) ?_
  rcases c3 with rfl | rfl | rfl
  · refine wz_i0 (by decide) (wz_i1 (decide_eq_true ?_) (hk _ _ _ _ hend))
    have e1 : qz_lm (zm Z3 ν3) 71 0 0 0 = (i3 v).toInt64 := (hN3.1 71 0 0 0 (by decide)).trans (hE0 rfl)
    rw [e1, c2 rfl]
    exact lg_self _
  · exact wz_i1 (by decide) (hk _ _ _ _ hend)
  · exact wz_i1 (by decide) (hk _ _ _ _ hend)

/- deliver -/
theorem lw_deliver {Z : qz_Z} {ν : qz_N} (h : zNew Z ν) {a1 : Int} (g1 : -2147483648 ≤ a1 ∧ a1 ≤ 2147483647) {a2 : Int} (g2 : -2147483648 ≤ a2 ∧ a2 ≤ 2147483647) {a3 : Int} (g3 : -2147483648 ≤ a3 ∧ a3 ≤ 2147483647) {a4 : Int} (g4 : -2147483648 ≤ a4 ∧ a4 ≤ 2147483647) {a5 : Int} (g5 : -2147483648 ≤ a5 ∧ a5 ≤ 2147483647) : ∃ (Z2 : qz_Z) (ν2 : qz_N) (v E : Int), (v, E) = zg_195 a1 a2 a3 a4 a5 ∧ qf_578 [.inr (.inr (some (0, 0, 0))), .inl (i3 a1), .inl (i3 a2), .inl (i3 a3), .inl (i3 a4), .inl (i3 a5), .inr (.inr (some (71, 0, 0)))] (zm Z ν) = some (zm Z2 ν2, .inl (some (.inl (i3 (tcL [(24, 1), (13, 2), (15, 3)] E))))) ∧ zW Z ν v E Z2 ν2 := by
  refine wrap_ok (hs := [(24, 1), (13, 2), (15, 3)]) (WS := []) h.2.2.1 h.2.2.2.1 h.2.2.2.2 (zF_m h.2.1) (fun R hR => fv_578 (i3 a1) (i3 a2) (i3 a3) (i3 a4) (i3 a5) _ R hR) (sg_195 h.1 h.2.1 g1 g2 g3 g4 g5) (fun v E he => ?_) (by decide) (by decide)
  obtain ⟨-, -, c3⟩ := cm_deliver g1 g2 g3 g4 g5 he (w := (zg_335 a1 a2 a3 a4 a5).1) (t := (zg_335 a1 a2 a3 a4 a5).2) rfl
  rcases c3 with c3 | c3 | c3 | c3
  · exact .inl c3
  · exact .inr ⟨(24, 1), by decide, c3⟩
  · exact .inr ⟨(13, 2), by decide, c3⟩
  · exact .inr ⟨(15, 3), by decide, c3⟩
theorem lc_2 {Z : qz_Z} {ν : qz_N} (h : zNew Z ν) {k : wz_K} {R : wz_R} (hk : ∀ Z3 ν3 v2 v4, zEnd ν3 → k 62 ([some (.inr (.inr (some (200, 0, 0)))), some (.inr (.inr (some (0, 0, 0)))), some (.inr (.inr (some (1, 0, 0)))), some (.inr (.inr (some (71, 0, 0)))), some (.inl (0 : Int32)), some (.inl v2), some (.inl v4), none], [], zm Z3 ν3)) : gx_2 k R (gx_L 0, [], zm Z ν) := by
  refine fk_2 0 (zm Z ν) k R ?_
  have st := zNew_S h
  refine wz_i1 (zS_t st) (wz_i0 (zS_o st (by decide)) ?_)
  refine wz_i1 (zS_t st) (wz_i0 (zS_o st (by decide)) ?_)
  refine wz_i1 (zS_t st) (wz_i0 (zS_o st (by decide)) ?_)
  refine wz_i1 (zS_t st) (wz_i0 (zS_o st (by decide)) ?_)
  refine wz_i1 (zS_t st) (wz_i0 (zS_o st (by decide)) ?_)
  have g1 := zI_f h.1 200 0 0 1
  have g2 := zI_f h.1 200 0 0 2
  have g3 := zI_f h.1 200 0 0 3
  have g4 := zI_f h.1 200 0 0 4
  have g5 := zI_f h.1 200 0 0 5
  obtain ⟨Z2, ν2, v, E, hP, hq, hE0, st2, hs2⟩ := lw_deliver h g1 g2 g3 g4 g5
  refine wz_cI_of hq ?_
  refine wz_i1 (zS_t st2) (wz_i0 (zS_o st2 (by decide)) ?_)
  refine wz_i1 (zS_t st2) (wz_i0 (zS_o st2 (by decide)) ?_)
  refine wz_i1 (zS_t st2) (wz_i0 (zS_o st2 (by decide)) ?_)
  refine wz_i1 (zS_t st2) (wz_i0 (zS_o st2 (by decide)) ?_)
  refine wz_i1 (zS_t st2) (wz_i0 (zS_o st2 (by decide)) ?_)
  have f1 := zI_f st2.1 200 0 0 1
  have f2 := zI_f st2.1 200 0 0 2
  have f3 := zI_f st2.1 200 0 0 3
  have f4 := zI_f st2.1 200 0 0 4
  have f5 := zI_f st2.1 200 0 0 5
  obtain ⟨Z3, ν3, w, t, hP2, hq2, ht, hI3, hK3, hN3⟩ := sg_335 st2.1 st2.2.1 f1 f2 f3 f4 f5
  refine wz_cI_of hq2 ?_
  rw [hs2 1, hs2 2, hs2 3, hs2 4, hs2 5] at hP2
  obtain ⟨c1, c2, c3⟩ := cm_deliver g1 g2 g3 g4 g5 hP hP2
  have hend : zEnd ν3 := ⟨⟨(hN3.2.2.1 0 (by have := st2.2.2.1.2; omega)).trans st2.2.2.1.1, by have := st2.2.2.1.2; have := hN3.2.2.2.1; omega⟩, by have := st2.2.2.2.2.1; have := hN3.2.2.2.2.1; omega, by have := st2.2.2.2.2.2; have := hN3.2.2.2.2.2; omega⟩
  refine wz_i1 (decide_eq_true (show i3 (Z3 1 0 0 2) = i3 (tcL [(24, 1), (13, 2), (15, 3)] E) by rw [ht, c1]; rfl)) ?_
  rcases c3 with rfl | rfl | rfl | rfl
  · refine wz_i0 (by decide) (wz_i1 (decide_eq_true ?_) (hk _ _ _ _ hend))
    have e1 : qz_lm (zm Z3 ν3) 71 0 0 0 = (i3 v).toInt64 := (hN3.1 71 0 0 0 (by decide)).trans (hE0 rfl)
    rw [e1, c2 rfl]
    exact lg_self _
  · exact wz_i1 (by decide) (hk _ _ _ _ hend)
  · exact wz_i1 (by decide) (hk _ _ _ _ hend)
  · exact wz_i1 (by decide) (hk _ _ _ _ hend)

/- grade -/
theorem lw_grade {Z : qz_Z} {ν : qz_N} (h : zNew Z ν) {a1 : Int} (g1 : -2147483648 ≤ a1 ∧ a1 ≤ 2147483647) {a2 : Int} (g2 : -2147483648 ≤ a2 ∧ a2 ≤ 2147483647) {a3 : Int} (g3 : -2147483648 ≤ a3 ∧ a3 ≤ 2147483647) {a4 : Int} (g4 : -2147483648 ≤ a4 ∧ a4 ≤ 2147483647) : ∃ (Z2 : qz_Z) (ν2 : qz_N) (v E : Int), (v, E) = zg_203 a1 a2 a3 a4 ∧ qf_585 [.inr (.inr (some (0, 0, 0))), .inl (i3 a1), .inl (i3 a2), .inl (i3 a3), .inl (i3 a4), .inr (.inr (some (71, 0, 0)))] (zm Z ν) = some (zm Z2 ν2, .inl (some (.inl (i3 (tcL [(24, 1), (13, 2), (15, 3)] E))))) ∧ zW Z ν v E Z2 ν2 := by
  refine wrap_ok (hs := [(24, 1), (13, 2), (15, 3)]) (WS := []) h.2.2.1 h.2.2.2.1 h.2.2.2.2 (zF_m h.2.1) (fun R hR => fv_585 (i3 a1) (i3 a2) (i3 a3) (i3 a4) _ R hR) (sg_203 h.1 h.2.1 g1 g2 g3 g4) (fun v E he => ?_) (by decide) (by decide)
  obtain ⟨-, -, c3⟩ := cm_grade g1 g2 g3 g4 he (w := (zg_345 a1 a2 a3 a4).1) (t := (zg_345 a1 a2 a3 a4).2) rfl
  rcases c3 with c3 | c3 | c3 | c3
  · exact .inl c3
  · exact .inr ⟨(24, 1), by decide, c3⟩
  · exact .inr ⟨(13, 2), by decide, c3⟩
  · exact .inr ⟨(15, 3), by decide, c3⟩
theorem lc_3 {Z : qz_Z} {ν : qz_N} (h : zNew Z ν) {k : wz_K} {R : wz_R} (hk : ∀ Z3 ν3 v2 v4, zEnd ν3 → k 61 ([some (.inr (.inr (some (200, 0, 0)))), some (.inr (.inr (some (0, 0, 0)))), some (.inr (.inr (some (1, 0, 0)))), some (.inr (.inr (some (71, 0, 0)))), some (.inl (0 : Int32)), some (.inl v2), some (.inl v4), none], [], zm Z3 ν3)) : gx_3 k R (gx_L 0, [], zm Z ν) := by
  refine fk_3 0 (zm Z ν) k R ?_
  have st := zNew_S h
  refine wz_i1 (zS_t st) (wz_i0 (zS_o st (by decide)) ?_)
  refine wz_i1 (zS_t st) (wz_i0 (zS_o st (by decide)) ?_)
  refine wz_i1 (zS_t st) (wz_i0 (zS_o st (by decide)) ?_)
  refine wz_i1 (zS_t st) (wz_i0 (zS_o st (by decide)) ?_)
  have g1 := zI_f h.1 200 0 0 1
  have g2 := zI_f h.1 200 0 0 2
  have g3 := zI_f h.1 200 0 0 3
  have g4 := zI_f h.1 200 0 0 4
  obtain ⟨Z2, ν2, v, E, hP, hq, hE0, st2, hs2⟩ := lw_grade h g1 g2 g3 g4
  refine wz_cI_of hq ?_
  refine wz_i1 (zS_t st2) (wz_i0 (zS_o st2 (by decide)) ?_)
  refine wz_i1 (zS_t st2) (wz_i0 (zS_o st2 (by decide)) ?_)
  refine wz_i1 (zS_t st2) (wz_i0 (zS_o st2 (by decide)) ?_)
  refine wz_i1 (zS_t st2) (wz_i0 (zS_o st2 (by decide)) ?_)
  have f1 := zI_f st2.1 200 0 0 1
  have f2 := zI_f st2.1 200 0 0 2
  have f3 := zI_f st2.1 200 0 0 3
  have f4 := zI_f st2.1 200 0 0 4
  obtain ⟨Z3, ν3, w, t, hP2, hq2, ht, hI3, hK3, hN3⟩ := sg_345 st2.1 st2.2.1 f1 f2 f3 f4
  refine wz_cI_of hq2 ?_
  rw [hs2 1, hs2 2, hs2 3, hs2 4] at hP2
  obtain ⟨c1, c2, c3⟩ := cm_grade g1 g2 g3 g4 hP hP2
  have hend : zEnd ν3 := ⟨⟨(hN3.2.2.1 0 (by have := st2.2.2.1.2; omega)).trans st2.2.2.1.1, by have := st2.2.2.1.2; have := hN3.2.2.2.1; omega⟩, by have := st2.2.2.2.2.1; have := hN3.2.2.2.2.1; omega, by have := st2.2.2.2.2.2; have := hN3.2.2.2.2.2; omega⟩
  refine wz_i1 (decide_eq_true (show i3 (Z3 1 0 0 2) = i3 (tcL [(24, 1), (13, 2), (15, 3)] E) by rw [ht, c1]; rfl)) ?_
  rcases c3 with rfl | rfl | rfl | rfl
  · refine wz_i0 (by decide) (wz_i1 (decide_eq_true ?_) (hk _ _ _ _ hend))
    have e1 : qz_lm (zm Z3 ν3) 71 0 0 0 = (i3 v).toInt64 := (hN3.1 71 0 0 0 (by decide)).trans (hE0 rfl)
    rw [e1, c2 rfl]
    exact lg_self _
  · exact wz_i1 (by decide) (hk _ _ _ _ hend)
  · exact wz_i1 (by decide) (hk _ _ _ _ hend)
  · exact wz_i1 (by decide) (hk _ _ _ _ hend)

/- grown -/
theorem lw_grown {Z : qz_Z} {ν : qz_N} (h : zNew Z ν) {a1 : Int} (g1 : -2147483648 ≤ a1 ∧ a1 ≤ 2147483647) {a2 : Int} (g2 : -2147483648 ≤ a2 ∧ a2 ≤ 2147483647) : ∃ (Z2 : qz_Z) (ν2 : qz_N) (v E : Int), (v, E) = zg_205 a1 a2 ∧ qf_587 [.inr (.inr (some (0, 0, 0))), .inl (i3 a1), .inl (i3 a2), .inr (.inr (some (71, 0, 0)))] (zm Z ν) = some (zm Z2 ν2, .inl (some (.inl (i3 (tcL [(24, 1), (13, 2)] E))))) ∧ zW Z ν v E Z2 ν2 := by
  refine wrap_ok (hs := [(24, 1), (13, 2)]) (WS := []) h.2.2.1 h.2.2.2.1 h.2.2.2.2 (zF_m h.2.1) (fun R hR => fv_587 (i3 a1) (i3 a2) _ R hR) (sg_205 h.1 h.2.1 g1 g2) (fun v E he => ?_) (by decide) (by decide)
  obtain ⟨-, -, c3⟩ := cm_grown g1 g2 he (w := (zg_348 a1 a2).1) (t := (zg_348 a1 a2).2) rfl
  rcases c3 with c3 | c3 | c3
  · exact .inl c3
  · exact .inr ⟨(24, 1), by decide, c3⟩
  · exact .inr ⟨(13, 2), by decide, c3⟩
theorem lc_6 {Z : qz_Z} {ν : qz_N} (h : zNew Z ν) {k : wz_K} {R : wz_R} (hk : ∀ Z3 ν3 v2 v4, zEnd ν3 → k 58 ([some (.inr (.inr (some (200, 0, 0)))), some (.inr (.inr (some (0, 0, 0)))), some (.inr (.inr (some (1, 0, 0)))), some (.inr (.inr (some (71, 0, 0)))), some (.inl (0 : Int32)), some (.inl v2), some (.inl v4), none], [], zm Z3 ν3)) : gx_6 k R (gx_L 0, [], zm Z ν) := by
  refine fk_6 0 (zm Z ν) k R ?_
  have st := zNew_S h
  refine wz_i1 (zS_t st) (wz_i0 (zS_o st (by decide)) ?_)
  refine wz_i1 (zS_t st) (wz_i0 (zS_o st (by decide)) ?_)
  have g1 := zI_f h.1 200 0 0 1
  have g2 := zI_f h.1 200 0 0 2
  obtain ⟨Z2, ν2, v, E, hP, hq, hE0, st2, hs2⟩ := lw_grown h g1 g2
  refine wz_cI_of hq ?_
  refine wz_i1 (zS_t st2) (wz_i0 (zS_o st2 (by decide)) ?_)
  refine wz_i1 (zS_t st2) (wz_i0 (zS_o st2 (by decide)) ?_)
  have f1 := zI_f st2.1 200 0 0 1
  have f2 := zI_f st2.1 200 0 0 2
  obtain ⟨Z3, ν3, w, t, hP2, hq2, ht, hI3, hK3, hN3⟩ := sg_348 st2.1 st2.2.1 f1 f2
  refine wz_cI_of hq2 ?_
  rw [hs2 1, hs2 2] at hP2
  obtain ⟨c1, c2, c3⟩ := cm_grown g1 g2 hP hP2
  have hend : zEnd ν3 := ⟨⟨(hN3.2.2.1 0 (by have := st2.2.2.1.2; omega)).trans st2.2.2.1.1, by have := st2.2.2.1.2; have := hN3.2.2.2.1; omega⟩, by have := st2.2.2.2.2.1; have := hN3.2.2.2.2.1; omega, by have := st2.2.2.2.2.2; have := hN3.2.2.2.2.2; omega⟩
  refine wz_i1 (decide_eq_true (show i3 (Z3 1 0 0 2) = i3 (tcL [(24, 1), (13, 2)] E) by rw [ht, c1]; rfl)) ?_
  rcases c3 with rfl | rfl | rfl
  · refine wz_i0 (by decide) (wz_i1 (decide_eq_true ?_) (hk _ _ _ _ hend))
    have e1 : qz_lm (zm Z3 ν3) 71 0 0 0 = (i3 v).toInt64 := (hN3.1 71 0 0 0 (by decide)).trans (hE0 rfl)
    rw [e1, c2 rfl]
    exact lg_self _
  · exact wz_i1 (by decide) (hk _ _ _ _ hend)
  · exact wz_i1 (by decide) (hk _ _ _ _ hend)

/- room -/
theorem lw_room {Z : qz_Z} {ν : qz_N} (h : zNew Z ν) {a1 : Int} (g1 : -2147483648 ≤ a1 ∧ a1 ≤ 2147483647) {a2 : Int} (g2 : -2147483648 ≤ a2 ∧ a2 ≤ 2147483647) {a3 : Int} (g3 : -2147483648 ≤ a3 ∧ a3 ≤ 2147483647) : ∃ (Z2 : qz_Z) (ν2 : qz_N) (v E : Int), (v, E) = zg_236 a1 a2 a3 ∧ qf_614 [.inr (.inr (some (0, 0, 0))), .inl (i3 a1), .inl (i3 a2), .inl (i3 a3), .inr (.inr (some (71, 0, 0)))] (zm Z ν) = some (zm Z2 ν2, .inl (some (.inl (i3 (tcL [(13, 1), (15, 2)] E))))) ∧ zW Z ν v E Z2 ν2 := by
  refine wrap_ok (hs := [(13, 1), (15, 2)]) (WS := [3, 11, 12, 13, 14, 40, 41, 42, 43, 44, 45, 46, 47, 48, 49, 50, 51, 52, 53, 54, 61, 68]) h.2.2.1 h.2.2.2.1 h.2.2.2.2 (zF_m h.2.1) (fun R hR => fv_614 (i3 a1) (i3 a2) (i3 a3) _ R hR) (sg_236 h.1 h.2.1 g1 g2 g3) (fun v E he => ?_) (by decide) (by decide)
  obtain ⟨-, -, c3⟩ := cm_room g1 g2 g3 he (w := (zg_495 a1 a2 a3).1) (t := (zg_495 a1 a2 a3).2) rfl
  rcases c3 with c3 | c3 | c3
  · exact .inl c3
  · exact .inr ⟨(13, 1), by decide, c3⟩
  · exact .inr ⟨(15, 2), by decide, c3⟩
theorem lc_7 {Z : qz_Z} {ν : qz_N} (h : zNew Z ν) {k : wz_K} {R : wz_R} (hk : ∀ Z3 ν3 v2 v4, zEnd ν3 → k 57 ([some (.inr (.inr (some (200, 0, 0)))), some (.inr (.inr (some (0, 0, 0)))), some (.inr (.inr (some (1, 0, 0)))), some (.inr (.inr (some (71, 0, 0)))), some (.inl (0 : Int32)), some (.inl v2), some (.inl v4), none], [], zm Z3 ν3)) : gx_7 k R (gx_L 0, [], zm Z ν) := by
  refine fk_7 0 (zm Z ν) k R ?_
  have st := zNew_S h
  refine wz_i1 (zS_t st) (wz_i0 (zS_o st (by decide)) ?_)
  refine wz_i1 (zS_t st) (wz_i0 (zS_o st (by decide)) ?_)
  refine wz_i1 (zS_t st) (wz_i0 (zS_o st (by decide)) ?_)
  have g1 := zI_f h.1 200 0 0 1
  have g2 := zI_f h.1 200 0 0 2
  have g3 := zI_f h.1 200 0 0 3
  obtain ⟨Z2, ν2, v, E, hP, hq, hE0, st2, hs2⟩ := lw_room h g1 g2 g3
  refine wz_cI_of hq ?_
  refine wz_i1 (zS_t st2) (wz_i0 (zS_o st2 (by decide)) ?_)
  refine wz_i1 (zS_t st2) (wz_i0 (zS_o st2 (by decide)) ?_)
  refine wz_i1 (zS_t st2) (wz_i0 (zS_o st2 (by decide)) ?_)
  have f1 := zI_f st2.1 200 0 0 1
  have f2 := zI_f st2.1 200 0 0 2
  have f3 := zI_f st2.1 200 0 0 3
  obtain ⟨Z3, ν3, w, t, hP2, hq2, ht, hI3, hK3, hN3⟩ := sg_495 st2.1 st2.2.1 f1 f2 f3 (fun _ => st2.2.2.2.1)
  refine wz_cI_of hq2 ?_
  rw [hs2 1, hs2 2, hs2 3] at hP2
  obtain ⟨c1, c2, c3⟩ := cm_room g1 g2 g3 hP hP2
  have hend : zEnd ν3 := ⟨⟨(hN3.2.2.1 0 (by have := st2.2.2.1.2; omega)).trans st2.2.2.1.1, by have := st2.2.2.1.2; have := hN3.2.2.2.1; omega⟩, by have := st2.2.2.2.2.1; have := hN3.2.2.2.2.1; omega, by have := st2.2.2.2.2.2; have := hN3.2.2.2.2.2; omega⟩
  refine wz_i1 (decide_eq_true (show i3 (Z3 1 0 0 2) = i3 (tcL [(13, 1), (15, 2)] E) by rw [ht, c1]; rfl)) ?_
  rcases c3 with rfl | rfl | rfl
  · refine wz_i0 (by decide) (wz_i1 (decide_eq_true ?_) (hk _ _ _ _ hend))
    have e1 : qz_lm (zm Z3 ν3) 71 0 0 0 = (i3 v).toInt64 := (hN3.1 71 0 0 0 (by decide)).trans (hE0 rfl)
    rw [e1, c2 rfl]
    exact lg_self _
  · exact wz_i1 (by decide) (hk _ _ _ _ hend)
  · exact wz_i1 (by decide) (hk _ _ _ _ hend)

/- set -/
theorem lw_set {Z : qz_Z} {ν : qz_N} (h : zNew Z ν) {a1 : Int} (g1 : -2147483648 ≤ a1 ∧ a1 ≤ 2147483647) {a2 : Int} (g2 : -2147483648 ≤ a2 ∧ a2 ≤ 2147483647) : ∃ (Z2 : qz_Z) (ν2 : qz_N) (v E : Int), (v, E) = zg_240 a1 a2 ∧ qf_618 [.inr (.inr (some (0, 0, 0))), .inl (i3 a1), .inl (i3 a2), .inr (.inr (some (71, 0, 0)))] (zm Z ν) = some (zm Z2 ν2, .inl (some (.inl (i3 (tcL [(24, 1), (13, 2)] E))))) ∧ zW Z ν v E Z2 ν2 := by
  refine wrap_ok (hs := [(24, 1), (13, 2)]) (WS := []) h.2.2.1 h.2.2.2.1 h.2.2.2.2 (zF_m h.2.1) (fun R hR => fv_618 (i3 a1) (i3 a2) _ R hR) (sg_240 h.1 h.2.1 g1 g2) (fun v E he => ?_) (by decide) (by decide)
  obtain ⟨-, -, c3⟩ := cm_set g1 g2 he (w := (zg_500 a1 a2).1) (t := (zg_500 a1 a2).2) rfl
  rcases c3 with c3 | c3 | c3
  · exact .inl c3
  · exact .inr ⟨(24, 1), by decide, c3⟩
  · exact .inr ⟨(13, 2), by decide, c3⟩
theorem lc_8 {Z : qz_Z} {ν : qz_N} (h : zNew Z ν) {k : wz_K} {R : wz_R} (hk : ∀ Z3 ν3 v2 v4, zEnd ν3 → k 56 ([some (.inr (.inr (some (200, 0, 0)))), some (.inr (.inr (some (0, 0, 0)))), some (.inr (.inr (some (1, 0, 0)))), some (.inr (.inr (some (71, 0, 0)))), some (.inl (0 : Int32)), some (.inl v2), some (.inl v4), none], [], zm Z3 ν3)) : gx_8 k R (gx_L 0, [], zm Z ν) := by
  refine fk_8 0 (zm Z ν) k R ?_
  have st := zNew_S h
  refine wz_i1 (zS_t st) (wz_i0 (zS_o st (by decide)) ?_)
  refine wz_i1 (zS_t st) (wz_i0 (zS_o st (by decide)) ?_)
  have g1 := zI_f h.1 200 0 0 1
  have g2 := zI_f h.1 200 0 0 2
  obtain ⟨Z2, ν2, v, E, hP, hq, hE0, st2, hs2⟩ := lw_set h g1 g2
  refine wz_cI_of hq ?_
  refine wz_i1 (zS_t st2) (wz_i0 (zS_o st2 (by decide)) ?_)
  refine wz_i1 (zS_t st2) (wz_i0 (zS_o st2 (by decide)) ?_)
  have f1 := zI_f st2.1 200 0 0 1
  have f2 := zI_f st2.1 200 0 0 2
  obtain ⟨Z3, ν3, w, t, hP2, hq2, ht, hI3, hK3, hN3⟩ := sg_500 st2.1 st2.2.1 f1 f2
  refine wz_cI_of hq2 ?_
  rw [hs2 1, hs2 2] at hP2
  obtain ⟨c1, c2, c3⟩ := cm_set g1 g2 hP hP2
  have hend : zEnd ν3 := ⟨⟨(hN3.2.2.1 0 (by have := st2.2.2.1.2; omega)).trans st2.2.2.1.1, by have := st2.2.2.1.2; have := hN3.2.2.2.1; omega⟩, by have := st2.2.2.2.2.1; have := hN3.2.2.2.2.1; omega, by have := st2.2.2.2.2.2; have := hN3.2.2.2.2.2; omega⟩
  refine wz_i1 (decide_eq_true (show i3 (Z3 1 0 0 2) = i3 (tcL [(24, 1), (13, 2)] E) by rw [ht, c1]; rfl)) ?_
  rcases c3 with rfl | rfl | rfl
  · refine wz_i0 (by decide) (wz_i1 (decide_eq_true ?_) (hk _ _ _ _ hend))
    have e1 : qz_lm (zm Z3 ν3) 71 0 0 0 = (i3 v).toInt64 := (hN3.1 71 0 0 0 (by decide)).trans (hE0 rfl)
    rw [e1, c2 rfl]
    exact lg_self _
  · exact wz_i1 (by decide) (hk _ _ _ _ hend)
  · exact wz_i1 (by decide) (hk _ _ _ _ hend)

/- outside -/
theorem lw_outside {Z : qz_Z} {ν : qz_N} (h : zNew Z ν) {a1 : Int} (g1 : -2147483648 ≤ a1 ∧ a1 ≤ 2147483647) {a2 : Int} (g2 : -2147483648 ≤ a2 ∧ a2 ≤ 2147483647) : ∃ (Z2 : qz_Z) (ν2 : qz_N) (v E : Int), (v, E) = zg_222 a1 a2 ∧ qf_601 [.inr (.inr (some (0, 0, 0))), .inl (i3 a1), .inl (i3 a2), .inr (.inr (some (71, 0, 0)))] (zm Z ν) = some (zm Z2 ν2, .inl (some (.inl (i3 (tcL [(13, 1), (15, 2)] E))))) ∧ zW Z ν v E Z2 ν2 := by
  refine wrap_ok (hs := [(13, 1), (15, 2)]) (WS := [3, 11, 12, 13, 14, 40, 41, 42, 43, 44, 45, 46, 47, 48, 49, 50, 51, 52, 53, 54, 61, 68]) h.2.2.1 h.2.2.2.1 h.2.2.2.2 (zF_m h.2.1) (fun R hR => fv_601 (i3 a1) (i3 a2) _ R hR) (sg_222 h.1 h.2.1 g1 g2) (fun v E he => ?_) (by decide) (by decide)
  obtain ⟨-, -, c3⟩ := cm_outside g1 g2 he (w := (zg_443 a1 a2).1) (t := (zg_443 a1 a2).2) rfl
  rcases c3 with c3 | c3 | c3
  · exact .inl c3
  · exact .inr ⟨(13, 1), by decide, c3⟩
  · exact .inr ⟨(15, 2), by decide, c3⟩
theorem lc_10 {Z : qz_Z} {ν : qz_N} (h : zNew Z ν) {k : wz_K} {R : wz_R} (hk : ∀ Z3 ν3 v2 v4, zEnd ν3 → k 54 ([some (.inr (.inr (some (200, 0, 0)))), some (.inr (.inr (some (0, 0, 0)))), some (.inr (.inr (some (1, 0, 0)))), some (.inr (.inr (some (71, 0, 0)))), some (.inl (0 : Int32)), some (.inl v2), some (.inl v4), none], [], zm Z3 ν3)) : gx_10 k R (gx_L 0, [], zm Z ν) := by
  refine fk_10 0 (zm Z ν) k R ?_
  have st := zNew_S h
  refine wz_i1 (zS_t st) (wz_i0 (zS_o st (by decide)) ?_)
  refine wz_i1 (zS_t st) (wz_i0 (zS_o st (by decide)) ?_)
  have g1 := zI_f h.1 200 0 0 1
  have g2 := zI_f h.1 200 0 0 2
  obtain ⟨Z2, ν2, v, E, hP, hq, hE0, st2, hs2⟩ := lw_outside h g1 g2
  refine wz_cI_of hq ?_
  refine wz_i1 (zS_t st2) (wz_i0 (zS_o st2 (by decide)) ?_)
  refine wz_i1 (zS_t st2) (wz_i0 (zS_o st2 (by decide)) ?_)
  have f1 := zI_f st2.1 200 0 0 1
  have f2 := zI_f st2.1 200 0 0 2
  obtain ⟨Z3, ν3, w, t, hP2, hq2, ht, hI3, hK3, hN3⟩ := sg_443 st2.1 st2.2.1 f1 f2 (fun _ => st2.2.2.2.1)
  refine wz_cI_of hq2 ?_
  rw [hs2 1, hs2 2] at hP2
  obtain ⟨c1, c2, c3⟩ := cm_outside g1 g2 hP hP2
  have hend : zEnd ν3 := ⟨⟨(hN3.2.2.1 0 (by have := st2.2.2.1.2; omega)).trans st2.2.2.1.1, by have := st2.2.2.1.2; have := hN3.2.2.2.1; omega⟩, by have := st2.2.2.2.2.1; have := hN3.2.2.2.2.1; omega, by have := st2.2.2.2.2.2; have := hN3.2.2.2.2.2; omega⟩
  refine wz_i1 (decide_eq_true (show i3 (Z3 1 0 0 2) = i3 (tcL [(13, 1), (15, 2)] E) by rw [ht, c1]; rfl)) ?_
  rcases c3 with rfl | rfl | rfl
  · refine wz_i0 (by decide) (wz_i1 (decide_eq_true ?_) (hk _ _ _ _ hend))
    have e1 : qz_lm (zm Z3 ν3) 71 0 0 0 = (i3 v).toInt64 := (hN3.1 71 0 0 0 (by decide)).trans (hE0 rfl)
    rw [e1, c2 rfl]
    exact lg_self _
  · exact wz_i1 (by decide) (hk _ _ _ _ hend)
  · exact wz_i1 (by decide) (hk _ _ _ _ hend)

/- put -/
theorem lw_put {Z : qz_Z} {ν : qz_N} (h : zNew Z ν) {a1 : Int} (g1 : -2147483648 ≤ a1 ∧ a1 ≤ 2147483647) {a2 : Int} (g2 : -2147483648 ≤ a2 ∧ a2 ≤ 2147483647) : ∃ (Z2 : qz_Z) (ν2 : qz_N) (v E : Int), (v, E) = zg_230 a1 a2 ∧ qf_609 [.inr (.inr (some (0, 0, 0))), .inl (i3 a1), .inl (i3 a2), .inr (.inr (some (71, 0, 0)))] (zm Z ν) = some (zm Z2 ν2, .inl (some (.inl (i3 (tcL [(24, 1), (15, 2)] E))))) ∧ zW Z ν v E Z2 ν2 := by
  refine wrap_ok (hs := [(24, 1), (15, 2)]) (WS := []) h.2.2.1 h.2.2.2.1 h.2.2.2.2 (zF_m h.2.1) (fun R hR => fv_609 (i3 a1) (i3 a2) _ R hR) (sg_230 h.1 h.2.1 g1 g2) (fun v E he => ?_) (by decide) (by decide)
  obtain ⟨-, -, c3⟩ := cm_put g1 g2 he (w := (zg_453 a1 a2).1) (t := (zg_453 a1 a2).2) rfl
  rcases c3 with c3 | c3 | c3
  · exact .inl c3
  · exact .inr ⟨(24, 1), by decide, c3⟩
  · exact .inr ⟨(15, 2), by decide, c3⟩
theorem lc_11 {Z : qz_Z} {ν : qz_N} (h : zNew Z ν) {k : wz_K} {R : wz_R} (hk : ∀ Z3 ν3 v2 v4, zEnd ν3 → k 53 ([some (.inr (.inr (some (200, 0, 0)))), some (.inr (.inr (some (0, 0, 0)))), some (.inr (.inr (some (1, 0, 0)))), some (.inr (.inr (some (71, 0, 0)))), some (.inl (0 : Int32)), some (.inl v2), some (.inl v4), none], [], zm Z3 ν3)) : gx_11 k R (gx_L 0, [], zm Z ν) := by
  refine fk_11 0 (zm Z ν) k R ?_
  have st := zNew_S h
  refine wz_i1 (zS_t st) (wz_i0 (zS_o st (by decide)) ?_)
  refine wz_i1 (zS_t st) (wz_i0 (zS_o st (by decide)) ?_)
  have g1 := zI_f h.1 200 0 0 1
  have g2 := zI_f h.1 200 0 0 2
  obtain ⟨Z2, ν2, v, E, hP, hq, hE0, st2, hs2⟩ := lw_put h g1 g2
  refine wz_cI_of hq ?_
  refine wz_i1 (zS_t st2) (wz_i0 (zS_o st2 (by decide)) ?_)
  refine wz_i1 (zS_t st2) (wz_i0 (zS_o st2 (by decide)) ?_)
  have f1 := zI_f st2.1 200 0 0 1
  have f2 := zI_f st2.1 200 0 0 2
  obtain ⟨Z3, ν3, w, t, hP2, hq2, ht, hI3, hK3, hN3⟩ := sg_453 st2.1 st2.2.1 f1 f2
  refine wz_cI_of hq2 ?_
  rw [hs2 1, hs2 2] at hP2
  obtain ⟨c1, c2, c3⟩ := cm_put g1 g2 hP hP2
  have hend : zEnd ν3 := ⟨⟨(hN3.2.2.1 0 (by have := st2.2.2.1.2; omega)).trans st2.2.2.1.1, by have := st2.2.2.1.2; have := hN3.2.2.2.1; omega⟩, by have := st2.2.2.2.2.1; have := hN3.2.2.2.2.1; omega, by have := st2.2.2.2.2.2; have := hN3.2.2.2.2.2; omega⟩
  refine wz_i1 (decide_eq_true (show i3 (Z3 1 0 0 2) = i3 (tcL [(24, 1), (15, 2)] E) by rw [ht, c1]; rfl)) ?_
  rcases c3 with rfl | rfl | rfl
  · refine wz_i0 (by decide) (wz_i1 (decide_eq_true ?_) (hk _ _ _ _ hend))
    have e1 : qz_lm (zm Z3 ν3) 71 0 0 0 = (i3 v).toInt64 := (hN3.1 71 0 0 0 (by decide)).trans (hE0 rfl)
    rw [e1, c2 rfl]
    exact lg_self _
  · exact wz_i1 (by decide) (hk _ _ _ _ hend)
  · exact wz_i1 (by decide) (hk _ _ _ _ hend)

/- dump -/
theorem lw_dump {Z : qz_Z} {ν : qz_N} (h : zNew Z ν) {a1 : Int} (g1 : -2147483648 ≤ a1 ∧ a1 ≤ 2147483647) : ∃ (Z2 : qz_Z) (ν2 : qz_N) (v E : Int), (v, E) = zg_198 a1 ∧ qf_580 [.inr (.inr (some (0, 0, 0))), .inl (i3 a1), .inr (.inr (some (71, 0, 0)))] (zm Z ν) = some (zm Z2 ν2, .inl (some (.inl (i3 (tcL [(24, 1), (15, 2)] E))))) ∧ zW Z ν v E Z2 ν2 := by
  refine wrap_ok (hs := [(24, 1), (15, 2)]) (WS := []) h.2.2.1 h.2.2.2.1 h.2.2.2.2 (zF_m h.2.1) (fun R hR => fv_580 (i3 a1) _ R hR) (sg_198 h.1 h.2.1 g1) (fun v E he => ?_) (by decide) (by decide)
  obtain ⟨-, -, c3⟩ := cm_dump g1 he (w := (zg_338 a1).1) (t := (zg_338 a1).2) rfl
  rcases c3 with c3 | c3 | c3
  · exact .inl c3
  · exact .inr ⟨(24, 1), by decide, c3⟩
  · exact .inr ⟨(15, 2), by decide, c3⟩
theorem lc_12 {Z : qz_Z} {ν : qz_N} (h : zNew Z ν) {k : wz_K} {R : wz_R} (hk : ∀ Z3 ν3 v2 v4, zEnd ν3 → k 52 ([some (.inr (.inr (some (200, 0, 0)))), some (.inr (.inr (some (0, 0, 0)))), some (.inr (.inr (some (1, 0, 0)))), some (.inr (.inr (some (71, 0, 0)))), some (.inl (0 : Int32)), some (.inl v2), some (.inl v4), none], [], zm Z3 ν3)) : gx_12 k R (gx_L 0, [], zm Z ν) := by
  refine fk_12 0 (zm Z ν) k R ?_
  have st := zNew_S h
  refine wz_i1 (zS_t st) (wz_i0 (zS_o st (by decide)) ?_)
  have g1 := zI_f h.1 200 0 0 1
  obtain ⟨Z2, ν2, v, E, hP, hq, hE0, st2, hs2⟩ := lw_dump h g1
  refine wz_cI_of hq ?_
  refine wz_i1 (zS_t st2) (wz_i0 (zS_o st2 (by decide)) ?_)
  have f1 := zI_f st2.1 200 0 0 1
  obtain ⟨Z3, ν3, w, t, hP2, hq2, ht, hI3, hK3, hN3⟩ := sg_338 st2.1 st2.2.1 f1
  refine wz_cI_of hq2 ?_
  rw [hs2 1] at hP2
  obtain ⟨c1, c2, c3⟩ := cm_dump g1 hP hP2
  have hend : zEnd ν3 := ⟨⟨(hN3.2.2.1 0 (by have := st2.2.2.1.2; omega)).trans st2.2.2.1.1, by have := st2.2.2.1.2; have := hN3.2.2.2.1; omega⟩, by have := st2.2.2.2.2.1; have := hN3.2.2.2.2.1; omega, by have := st2.2.2.2.2.2; have := hN3.2.2.2.2.2; omega⟩
  refine wz_i1 (decide_eq_true (show i3 (Z3 1 0 0 2) = i3 (tcL [(24, 1), (15, 2)] E) by rw [ht, c1]; rfl)) ?_
  rcases c3 with rfl | rfl | rfl
  · refine wz_i0 (by decide) (wz_i1 (decide_eq_true ?_) (hk _ _ _ _ hend))
    have e1 : qz_lm (zm Z3 ν3) 71 0 0 0 = (i3 v).toInt64 := (hN3.1 71 0 0 0 (by decide)).trans (hE0 rfl)
    rw [e1, c2 rfl]
    exact lg_self _
  · exact wz_i1 (by decide) (hk _ _ _ _ hend)
  · exact wz_i1 (by decide) (hk _ _ _ _ hend)

/- kept -/
theorem lw_kept {Z : qz_Z} {ν : qz_N} (h : zNew Z ν) {a1 : Int} (g1 : -2147483648 ≤ a1 ∧ a1 ≤ 2147483647) {a2 : Int} (g2 : -2147483648 ≤ a2 ∧ a2 ≤ 2147483647) : ∃ (Z2 : qz_Z) (ν2 : qz_N) (v E : Int), (v, E) = zg_214 a1 a2 ∧ qf_593 [.inr (.inr (some (0, 0, 0))), .inl (i3 a1), .inl (i3 a2), .inr (.inr (some (71, 0, 0)))] (zm Z ν) = some (zm Z2 ν2, .inl (some (.inl (i3 (tcL [(24, 1), (13, 2)] E))))) ∧ zW Z ν v E Z2 ν2 := by
  refine wrap_ok (hs := [(24, 1), (13, 2)]) (WS := []) h.2.2.1 h.2.2.2.1 h.2.2.2.2 (zF_m h.2.1) (fun R hR => fv_593 (i3 a1) (i3 a2) _ R hR) (sg_214 h.1 h.2.1 g1 g2) (fun v E he => ?_) (by decide) (by decide)
  obtain ⟨-, -, c3⟩ := cm_kept g1 g2 he (w := (zg_425 a1 a2).1) (t := (zg_425 a1 a2).2) rfl
  rcases c3 with c3 | c3 | c3
  · exact .inl c3
  · exact .inr ⟨(24, 1), by decide, c3⟩
  · exact .inr ⟨(13, 2), by decide, c3⟩
theorem lc_13 {Z : qz_Z} {ν : qz_N} (h : zNew Z ν) {k : wz_K} {R : wz_R} (hk : ∀ Z3 ν3 v2 v4, zEnd ν3 → k 51 ([some (.inr (.inr (some (200, 0, 0)))), some (.inr (.inr (some (0, 0, 0)))), some (.inr (.inr (some (1, 0, 0)))), some (.inr (.inr (some (71, 0, 0)))), some (.inl (0 : Int32)), some (.inl v2), some (.inl v4), none], [], zm Z3 ν3)) : gx_13 k R (gx_L 0, [], zm Z ν) := by
  refine fk_13 0 (zm Z ν) k R ?_
  have st := zNew_S h
  refine wz_i1 (zS_t st) (wz_i0 (zS_o st (by decide)) ?_)
  refine wz_i1 (zS_t st) (wz_i0 (zS_o st (by decide)) ?_)
  have g1 := zI_f h.1 200 0 0 1
  have g2 := zI_f h.1 200 0 0 2
  obtain ⟨Z2, ν2, v, E, hP, hq, hE0, st2, hs2⟩ := lw_kept h g1 g2
  refine wz_cI_of hq ?_
  refine wz_i1 (zS_t st2) (wz_i0 (zS_o st2 (by decide)) ?_)
  refine wz_i1 (zS_t st2) (wz_i0 (zS_o st2 (by decide)) ?_)
  have f1 := zI_f st2.1 200 0 0 1
  have f2 := zI_f st2.1 200 0 0 2
  obtain ⟨Z3, ν3, w, t, hP2, hq2, ht, hI3, hK3, hN3⟩ := sg_425 st2.1 st2.2.1 f1 f2
  refine wz_cI_of hq2 ?_
  rw [hs2 1, hs2 2] at hP2
  obtain ⟨c1, c2, c3⟩ := cm_kept g1 g2 hP hP2
  have hend : zEnd ν3 := ⟨⟨(hN3.2.2.1 0 (by have := st2.2.2.1.2; omega)).trans st2.2.2.1.1, by have := st2.2.2.1.2; have := hN3.2.2.2.1; omega⟩, by have := st2.2.2.2.2.1; have := hN3.2.2.2.2.1; omega, by have := st2.2.2.2.2.2; have := hN3.2.2.2.2.2; omega⟩
  refine wz_i1 (decide_eq_true (show i3 (Z3 1 0 0 2) = i3 (tcL [(24, 1), (13, 2)] E) by rw [ht, c1]; rfl)) ?_
  rcases c3 with rfl | rfl | rfl
  · refine wz_i0 (by decide) (wz_i1 (decide_eq_true ?_) (hk _ _ _ _ hend))
    have e1 : qz_lm (zm Z3 ν3) 71 0 0 0 = (i3 v).toInt64 := (hN3.1 71 0 0 0 (by decide)).trans (hE0 rfl)
    rw [e1, c2 rfl]
    exact lg_self _
  · exact wz_i1 (by decide) (hk _ _ _ _ hend)
  · exact wz_i1 (by decide) (hk _ _ _ _ hend)

/- pallet -/
theorem lw_pallet {Z : qz_Z} {ν : qz_N} (h : zNew Z ν) {a1 : Int} (g1 : -2147483648 ≤ a1 ∧ a1 ≤ 2147483647) {a2 : Int} (g2 : -2147483648 ≤ a2 ∧ a2 ≤ 2147483647) : ∃ (Z2 : qz_Z) (ν2 : qz_N) (v E : Int), (v, E) = zg_225 a1 a2 ∧ qf_604 [.inr (.inr (some (0, 0, 0))), .inl (i3 a1), .inl (i3 a2), .inr (.inr (some (71, 0, 0)))] (zm Z ν) = some (zm Z2 ν2, .inl (some (.inl (i3 (tcL [(24, 1), (13, 2)] E))))) ∧ zW Z ν v E Z2 ν2 := by
  refine wrap_ok (hs := [(24, 1), (13, 2)]) (WS := []) h.2.2.1 h.2.2.2.1 h.2.2.2.2 (zF_m h.2.1) (fun R hR => fv_604 (i3 a1) (i3 a2) _ R hR) (sg_225 h.1 h.2.1 g1 g2) (fun v E he => ?_) (by decide) (by decide)
  obtain ⟨-, -, c3⟩ := cm_pallet g1 g2 he (w := (zg_448 a1 a2).1) (t := (zg_448 a1 a2).2) rfl
  rcases c3 with c3 | c3 | c3
  · exact .inl c3
  · exact .inr ⟨(24, 1), by decide, c3⟩
  · exact .inr ⟨(13, 2), by decide, c3⟩
theorem lc_14 {Z : qz_Z} {ν : qz_N} (h : zNew Z ν) {k : wz_K} {R : wz_R} (hk : ∀ Z3 ν3 v2 v4, zEnd ν3 → k 50 ([some (.inr (.inr (some (200, 0, 0)))), some (.inr (.inr (some (0, 0, 0)))), some (.inr (.inr (some (1, 0, 0)))), some (.inr (.inr (some (71, 0, 0)))), some (.inl (0 : Int32)), some (.inl v2), some (.inl v4), none], [], zm Z3 ν3)) : gx_14 k R (gx_L 0, [], zm Z ν) := by
  refine fk_14 0 (zm Z ν) k R ?_
  have st := zNew_S h
  refine wz_i1 (zS_t st) (wz_i0 (zS_o st (by decide)) ?_)
  refine wz_i1 (zS_t st) (wz_i0 (zS_o st (by decide)) ?_)
  have g1 := zI_f h.1 200 0 0 1
  have g2 := zI_f h.1 200 0 0 2
  obtain ⟨Z2, ν2, v, E, hP, hq, hE0, st2, hs2⟩ := lw_pallet h g1 g2
  refine wz_cI_of hq ?_
  refine wz_i1 (zS_t st2) (wz_i0 (zS_o st2 (by decide)) ?_)
  refine wz_i1 (zS_t st2) (wz_i0 (zS_o st2 (by decide)) ?_)
  have f1 := zI_f st2.1 200 0 0 1
  have f2 := zI_f st2.1 200 0 0 2
  obtain ⟨Z3, ν3, w, t, hP2, hq2, ht, hI3, hK3, hN3⟩ := sg_448 st2.1 st2.2.1 f1 f2
  refine wz_cI_of hq2 ?_
  rw [hs2 1, hs2 2] at hP2
  obtain ⟨c1, c2, c3⟩ := cm_pallet g1 g2 hP hP2
  have hend : zEnd ν3 := ⟨⟨(hN3.2.2.1 0 (by have := st2.2.2.1.2; omega)).trans st2.2.2.1.1, by have := st2.2.2.1.2; have := hN3.2.2.2.1; omega⟩, by have := st2.2.2.2.2.1; have := hN3.2.2.2.2.1; omega, by have := st2.2.2.2.2.2; have := hN3.2.2.2.2.2; omega⟩
  refine wz_i1 (decide_eq_true (show i3 (Z3 1 0 0 2) = i3 (tcL [(24, 1), (13, 2)] E) by rw [ht, c1]; rfl)) ?_
  rcases c3 with rfl | rfl | rfl
  · refine wz_i0 (by decide) (wz_i1 (decide_eq_true ?_) (hk _ _ _ _ hend))
    have e1 : qz_lm (zm Z3 ν3) 71 0 0 0 = (i3 v).toInt64 := (hN3.1 71 0 0 0 (by decide)).trans (hE0 rfl)
    rw [e1, c2 rfl]
    exact lg_self _
  · exact wz_i1 (by decide) (hk _ _ _ _ hend)
  · exact wz_i1 (by decide) (hk _ _ _ _ hend)

/- ripe -/
theorem lw_ripe {Z : qz_Z} {ν : qz_N} (h : zNew Z ν) {a1 : Int} (g1 : -2147483648 ≤ a1 ∧ a1 ≤ 2147483647) {a2 : Int} (g2 : -2147483648 ≤ a2 ∧ a2 ≤ 2147483647) {a3 : Int} (g3 : -2147483648 ≤ a3 ∧ a3 ≤ 2147483647) : ∃ (Z2 : qz_Z) (ν2 : qz_N) (v E : Int), (v, E) = zg_235 a1 a2 a3 ∧ qf_613 [.inr (.inr (some (0, 0, 0))), .inl (i3 a1), .inl (i3 a2), .inl (i3 a3), .inr (.inr (some (71, 0, 0)))] (zm Z ν) = some (zm Z2 ν2, .inl (some (.inl (i3 (tcL [(24, 1), (13, 2)] E))))) ∧ zW Z ν v E Z2 ν2 := by
  refine wrap_ok (hs := [(24, 1), (13, 2)]) (WS := []) h.2.2.1 h.2.2.2.1 h.2.2.2.2 (zF_m h.2.1) (fun R hR => fv_613 (i3 a1) (i3 a2) (i3 a3) _ R hR) (sg_235 h.1 h.2.1 g1 g2 g3) (fun v E he => ?_) (by decide) (by decide)
  obtain ⟨-, -, c3⟩ := cm_ripe g1 g2 g3 he (w := (zg_494 a1 a2 a3).1) (t := (zg_494 a1 a2 a3).2) rfl
  rcases c3 with c3 | c3 | c3
  · exact .inl c3
  · exact .inr ⟨(24, 1), by decide, c3⟩
  · exact .inr ⟨(13, 2), by decide, c3⟩
theorem lc_15 {Z : qz_Z} {ν : qz_N} (h : zNew Z ν) {k : wz_K} {R : wz_R} (hk : ∀ Z3 ν3 v2 v4, zEnd ν3 → k 49 ([some (.inr (.inr (some (200, 0, 0)))), some (.inr (.inr (some (0, 0, 0)))), some (.inr (.inr (some (1, 0, 0)))), some (.inr (.inr (some (71, 0, 0)))), some (.inl (0 : Int32)), some (.inl v2), some (.inl v4), none], [], zm Z3 ν3)) : gx_15 k R (gx_L 0, [], zm Z ν) := by
  refine fk_15 0 (zm Z ν) k R ?_
  have st := zNew_S h
  refine wz_i1 (zS_t st) (wz_i0 (zS_o st (by decide)) ?_)
  refine wz_i1 (zS_t st) (wz_i0 (zS_o st (by decide)) ?_)
  refine wz_i1 (zS_t st) (wz_i0 (zS_o st (by decide)) ?_)
  have g1 := zI_f h.1 200 0 0 1
  have g2 := zI_f h.1 200 0 0 2
  have g3 := zI_f h.1 200 0 0 3
  obtain ⟨Z2, ν2, v, E, hP, hq, hE0, st2, hs2⟩ := lw_ripe h g1 g2 g3
  refine wz_cI_of hq ?_
  refine wz_i1 (zS_t st2) (wz_i0 (zS_o st2 (by decide)) ?_)
  refine wz_i1 (zS_t st2) (wz_i0 (zS_o st2 (by decide)) ?_)
  refine wz_i1 (zS_t st2) (wz_i0 (zS_o st2 (by decide)) ?_)
  have f1 := zI_f st2.1 200 0 0 1
  have f2 := zI_f st2.1 200 0 0 2
  have f3 := zI_f st2.1 200 0 0 3
  obtain ⟨Z3, ν3, w, t, hP2, hq2, ht, hI3, hK3, hN3⟩ := sg_494 st2.1 st2.2.1 f1 f2 f3
  refine wz_cI_of hq2 ?_
  rw [hs2 1, hs2 2, hs2 3] at hP2
  obtain ⟨c1, c2, c3⟩ := cm_ripe g1 g2 g3 hP hP2
  have hend : zEnd ν3 := ⟨⟨(hN3.2.2.1 0 (by have := st2.2.2.1.2; omega)).trans st2.2.2.1.1, by have := st2.2.2.1.2; have := hN3.2.2.2.1; omega⟩, by have := st2.2.2.2.2.1; have := hN3.2.2.2.2.1; omega, by have := st2.2.2.2.2.2; have := hN3.2.2.2.2.2; omega⟩
  refine wz_i1 (decide_eq_true (show i3 (Z3 1 0 0 2) = i3 (tcL [(24, 1), (13, 2)] E) by rw [ht, c1]; rfl)) ?_
  rcases c3 with rfl | rfl | rfl
  · refine wz_i0 (by decide) (wz_i1 (decide_eq_true ?_) (hk _ _ _ _ hend))
    have e1 : qz_lm (zm Z3 ν3) 71 0 0 0 = (i3 v).toInt64 := (hN3.1 71 0 0 0 (by decide)).trans (hE0 rfl)
    rw [e1, c2 rfl]
    exact lg_self _
  · exact wz_i1 (by decide) (hk _ _ _ _ hend)
  · exact wz_i1 (by decide) (hk _ _ _ _ hend)

/- buyer -/
theorem lw_buyer {Z : qz_Z} {ν : qz_N} (h : zNew Z ν) {a1 : Int} (g1 : -2147483648 ≤ a1 ∧ a1 ≤ 2147483647) {a2 : Int} (g2 : -2147483648 ≤ a2 ∧ a2 ≤ 2147483647) {a3 : Int} (g3 : -2147483648 ≤ a3 ∧ a3 ≤ 2147483647) : ∃ (Z2 : qz_Z) (ν2 : qz_N) (v E : Int), (v, E) = zg_191 a1 a2 a3 ∧ qf_575 [.inr (.inr (some (0, 0, 0))), .inl (i3 a1), .inl (i3 a2), .inl (i3 a3), .inr (.inr (some (71, 0, 0)))] (zm Z ν) = some (zm Z2 ν2, .inl (some (.inl (i3 (tcL [(24, 1), (13, 2), (15, 3)] E))))) ∧ zW Z ν v E Z2 ν2 := by
  refine wrap_ok (hs := [(24, 1), (13, 2), (15, 3)]) (WS := [3, 11, 12, 13, 14, 40, 41, 42, 43, 44, 45, 46, 47, 48, 49, 50, 51, 52, 53, 54, 61, 68]) h.2.2.1 h.2.2.2.1 h.2.2.2.2 (zF_m h.2.1) (fun R hR => fv_575 (i3 a1) (i3 a2) (i3 a3) _ R hR) (sg_191 h.1 h.2.1 g1 g2 g3) (fun v E he => ?_) (by decide) (by decide)
  obtain ⟨-, -, c3⟩ := cm_buyer g1 g2 g3 he (w := (zg_295 a1 a2 a3).1) (t := (zg_295 a1 a2 a3).2) rfl
  rcases c3 with c3 | c3 | c3 | c3
  · exact .inl c3
  · exact .inr ⟨(24, 1), by decide, c3⟩
  · exact .inr ⟨(13, 2), by decide, c3⟩
  · exact .inr ⟨(15, 3), by decide, c3⟩
theorem lc_17 {Z : qz_Z} {ν : qz_N} (h : zNew Z ν) {k : wz_K} {R : wz_R} (hk : ∀ Z3 ν3 v2 v4, zEnd ν3 → k 47 ([some (.inr (.inr (some (200, 0, 0)))), some (.inr (.inr (some (0, 0, 0)))), some (.inr (.inr (some (1, 0, 0)))), some (.inr (.inr (some (71, 0, 0)))), some (.inl (0 : Int32)), some (.inl v2), some (.inl v4), none], [], zm Z3 ν3)) : gx_17 k R (gx_L 0, [], zm Z ν) := by
  refine fk_17 0 (zm Z ν) k R ?_
  have st := zNew_S h
  refine wz_i1 (zS_t st) (wz_i0 (zS_o st (by decide)) ?_)
  refine wz_i1 (zS_t st) (wz_i0 (zS_o st (by decide)) ?_)
  refine wz_i1 (zS_t st) (wz_i0 (zS_o st (by decide)) ?_)
  have g1 := zI_f h.1 200 0 0 1
  have g2 := zI_f h.1 200 0 0 2
  have g3 := zI_f h.1 200 0 0 3
  obtain ⟨Z2, ν2, v, E, hP, hq, hE0, st2, hs2⟩ := lw_buyer h g1 g2 g3
  refine wz_cI_of hq ?_
  refine wz_i1 (zS_t st2) (wz_i0 (zS_o st2 (by decide)) ?_)
  refine wz_i1 (zS_t st2) (wz_i0 (zS_o st2 (by decide)) ?_)
  refine wz_i1 (zS_t st2) (wz_i0 (zS_o st2 (by decide)) ?_)
  have f1 := zI_f st2.1 200 0 0 1
  have f2 := zI_f st2.1 200 0 0 2
  have f3 := zI_f st2.1 200 0 0 3
  obtain ⟨Z3, ν3, w, t, hP2, hq2, ht, hI3, hK3, hN3⟩ := sg_295 st2.1 st2.2.1 f1 f2 f3 (fun _ => st2.2.2.2.1)
  refine wz_cI_of hq2 ?_
  rw [hs2 1, hs2 2, hs2 3] at hP2
  obtain ⟨c1, c2, c3⟩ := cm_buyer g1 g2 g3 hP hP2
  have hend : zEnd ν3 := ⟨⟨(hN3.2.2.1 0 (by have := st2.2.2.1.2; omega)).trans st2.2.2.1.1, by have := st2.2.2.1.2; have := hN3.2.2.2.1; omega⟩, by have := st2.2.2.2.2.1; have := hN3.2.2.2.2.1; omega, by have := st2.2.2.2.2.2; have := hN3.2.2.2.2.2; omega⟩
  refine wz_i1 (decide_eq_true (show i3 (Z3 1 0 0 2) = i3 (tcL [(24, 1), (13, 2), (15, 3)] E) by rw [ht, c1]; rfl)) ?_
  rcases c3 with rfl | rfl | rfl | rfl
  · refine wz_i0 (by decide) (wz_i1 (decide_eq_true ?_) (hk _ _ _ _ hend))
    have e1 : qz_lm (zm Z3 ν3) 71 0 0 0 = (i3 v).toInt64 := (hN3.1 71 0 0 0 (by decide)).trans (hE0 rfl)
    rw [e1, c2 rfl]
    exact lg_self _
  · exact wz_i1 (by decide) (hk _ _ _ _ hend)
  · exact wz_i1 (by decide) (hk _ _ _ _ hend)
  · exact wz_i1 (by decide) (hk _ _ _ _ hend)

/- order -/
theorem lw_order {Z : qz_Z} {ν : qz_N} (h : zNew Z ν) {a1 : Int} (g1 : -2147483648 ≤ a1 ∧ a1 ≤ 2147483647) {a2 : Int} (g2 : -2147483648 ≤ a2 ∧ a2 ≤ 2147483647) {a3 : Int} (g3 : -2147483648 ≤ a3 ∧ a3 ≤ 2147483647) {a4 : Int} (g4 : -2147483648 ≤ a4 ∧ a4 ≤ 2147483647) {a5 : Int} (g5 : -2147483648 ≤ a5 ∧ a5 ≤ 2147483647) {a6 : Int} (g6 : -2147483648 ≤ a6 ∧ a6 ≤ 2147483647) : ∃ (Z2 : qz_Z) (ν2 : qz_N) (v E : Int), (v, E) = zg_220 a1 a2 a3 a4 a5 a6 ∧ qf_599 [.inr (.inr (some (0, 0, 0))), .inl (i3 a1), .inl (i3 a2), .inl (i3 a3), .inl (i3 a4), .inl (i3 a5), .inl (i3 a6), .inr (.inr (some (71, 0, 0)))] (zm Z ν) = some (zm Z2 ν2, .inl (some (.inl (i3 (tcL [(24, 1), (13, 2), (15, 3)] E))))) ∧ zW Z ν v E Z2 ν2 := by
  refine wrap_ok (hs := [(24, 1), (13, 2), (15, 3)]) (WS := []) h.2.2.1 h.2.2.2.1 h.2.2.2.2 (zF_m h.2.1) (fun R hR => fv_599 (i3 a1) (i3 a2) (i3 a3) (i3 a4) (i3 a5) (i3 a6) _ R hR) (sg_220 h.1 h.2.1 g1 g2 g3 g4 g5 g6) (fun v E he => ?_) (by decide) (by decide)
  obtain ⟨-, -, c3⟩ := cm_order g1 g2 g3 g4 g5 g6 he (w := (zg_441 a1 a2 a3 a4 a5 a6).1) (t := (zg_441 a1 a2 a3 a4 a5 a6).2) rfl
  rcases c3 with c3 | c3 | c3 | c3
  · exact .inl c3
  · exact .inr ⟨(24, 1), by decide, c3⟩
  · exact .inr ⟨(13, 2), by decide, c3⟩
  · exact .inr ⟨(15, 3), by decide, c3⟩
theorem lc_18 {Z : qz_Z} {ν : qz_N} (h : zNew Z ν) {k : wz_K} {R : wz_R} (hk : ∀ Z3 ν3 v2 v4, zEnd ν3 → k 46 ([some (.inr (.inr (some (200, 0, 0)))), some (.inr (.inr (some (0, 0, 0)))), some (.inr (.inr (some (1, 0, 0)))), some (.inr (.inr (some (71, 0, 0)))), some (.inl (0 : Int32)), some (.inl v2), some (.inl v4), none], [], zm Z3 ν3)) : gx_18 k R (gx_L 0, [], zm Z ν) := by
  refine fk_18 0 (zm Z ν) k R ?_
  have st := zNew_S h
  refine wz_i1 (zS_t st) (wz_i0 (zS_o st (by decide)) ?_)
  refine wz_i1 (zS_t st) (wz_i0 (zS_o st (by decide)) ?_)
  refine wz_i1 (zS_t st) (wz_i0 (zS_o st (by decide)) ?_)
  refine wz_i1 (zS_t st) (wz_i0 (zS_o st (by decide)) ?_)
  refine wz_i1 (zS_t st) (wz_i0 (zS_o st (by decide)) ?_)
  refine wz_i1 (zS_t st) (wz_i0 (zS_o st (by decide)) ?_)
  have g1 := zI_f h.1 200 0 0 1
  have g2 := zI_f h.1 200 0 0 2
  have g3 := zI_f h.1 200 0 0 3
  have g4 := zI_f h.1 200 0 0 4
  have g5 := zI_f h.1 200 0 0 5
  have g6 := zI_f h.1 200 0 0 6
  obtain ⟨Z2, ν2, v, E, hP, hq, hE0, st2, hs2⟩ := lw_order h g1 g2 g3 g4 g5 g6
  refine wz_cI_of hq ?_
  refine wz_i1 (zS_t st2) (wz_i0 (zS_o st2 (by decide)) ?_)
  refine wz_i1 (zS_t st2) (wz_i0 (zS_o st2 (by decide)) ?_)
  refine wz_i1 (zS_t st2) (wz_i0 (zS_o st2 (by decide)) ?_)
  refine wz_i1 (zS_t st2) (wz_i0 (zS_o st2 (by decide)) ?_)
  refine wz_i1 (zS_t st2) (wz_i0 (zS_o st2 (by decide)) ?_)
  refine wz_i1 (zS_t st2) (wz_i0 (zS_o st2 (by decide)) ?_)
  have f1 := zI_f st2.1 200 0 0 1
  have f2 := zI_f st2.1 200 0 0 2
  have f3 := zI_f st2.1 200 0 0 3
  have f4 := zI_f st2.1 200 0 0 4
  have f5 := zI_f st2.1 200 0 0 5
  have f6 := zI_f st2.1 200 0 0 6
  obtain ⟨Z3, ν3, w, t, hP2, hq2, ht, hI3, hK3, hN3⟩ := sg_441 st2.1 st2.2.1 f1 f2 f3 f4 f5 f6
  refine wz_cI_of hq2 ?_
  rw [hs2 1, hs2 2, hs2 3, hs2 4, hs2 5, hs2 6] at hP2
  obtain ⟨c1, c2, c3⟩ := cm_order g1 g2 g3 g4 g5 g6 hP hP2
  have hend : zEnd ν3 := ⟨⟨(hN3.2.2.1 0 (by have := st2.2.2.1.2; omega)).trans st2.2.2.1.1, by have := st2.2.2.1.2; have := hN3.2.2.2.1; omega⟩, by have := st2.2.2.2.2.1; have := hN3.2.2.2.2.1; omega, by have := st2.2.2.2.2.2; have := hN3.2.2.2.2.2; omega⟩
  refine wz_i1 (decide_eq_true (show i3 (Z3 1 0 0 2) = i3 (tcL [(24, 1), (13, 2), (15, 3)] E) by rw [ht, c1]; rfl)) ?_
  rcases c3 with rfl | rfl | rfl | rfl
  · refine wz_i0 (by decide) (wz_i1 (decide_eq_true ?_) (hk _ _ _ _ hend))
    have e1 : qz_lm (zm Z3 ν3) 71 0 0 0 = (i3 v).toInt64 := (hN3.1 71 0 0 0 (by decide)).trans (hE0 rfl)
    rw [e1, c2 rfl]
    exact lg_self _
  · exact wz_i1 (by decide) (hk _ _ _ _ hend)
  · exact wz_i1 (by decide) (hk _ _ _ _ hend)
  · exact wz_i1 (by decide) (hk _ _ _ _ hend)

/- cancel -/
theorem lw_cancel {Z : qz_Z} {ν : qz_N} (h : zNew Z ν) {a1 : Int} (g1 : -2147483648 ≤ a1 ∧ a1 ≤ 2147483647) : ∃ (Z2 : qz_Z) (ν2 : qz_N) (v E : Int), (v, E) = zg_192 a1 ∧ qf_576 [.inr (.inr (some (0, 0, 0))), .inl (i3 a1), .inr (.inr (some (71, 0, 0)))] (zm Z ν) = some (zm Z2 ν2, .inl (some (.inl (i3 (tcL [(24, 1), (15, 2)] E))))) ∧ zW Z ν v E Z2 ν2 := by
  refine wrap_ok (hs := [(24, 1), (15, 2)]) (WS := []) h.2.2.1 h.2.2.2.1 h.2.2.2.2 (zF_m h.2.1) (fun R hR => fv_576 (i3 a1) _ R hR) (sg_192 h.1 h.2.1 g1) (fun v E he => ?_) (by decide) (by decide)
  obtain ⟨-, -, c3⟩ := cm_cancel g1 he (w := (zg_315 a1).1) (t := (zg_315 a1).2) rfl
  rcases c3 with c3 | c3 | c3
  · exact .inl c3
  · exact .inr ⟨(24, 1), by decide, c3⟩
  · exact .inr ⟨(15, 2), by decide, c3⟩
theorem lc_19 {Z : qz_Z} {ν : qz_N} (h : zNew Z ν) {k : wz_K} {R : wz_R} (hk : ∀ Z3 ν3 v2 v4, zEnd ν3 → k 45 ([some (.inr (.inr (some (200, 0, 0)))), some (.inr (.inr (some (0, 0, 0)))), some (.inr (.inr (some (1, 0, 0)))), some (.inr (.inr (some (71, 0, 0)))), some (.inl (0 : Int32)), some (.inl v2), some (.inl v4), none], [], zm Z3 ν3)) : gx_19 k R (gx_L 0, [], zm Z ν) := by
  refine fk_19 0 (zm Z ν) k R ?_
  have st := zNew_S h
  refine wz_i1 (zS_t st) (wz_i0 (zS_o st (by decide)) ?_)
  have g1 := zI_f h.1 200 0 0 1
  obtain ⟨Z2, ν2, v, E, hP, hq, hE0, st2, hs2⟩ := lw_cancel h g1
  refine wz_cI_of hq ?_
  refine wz_i1 (zS_t st2) (wz_i0 (zS_o st2 (by decide)) ?_)
  have f1 := zI_f st2.1 200 0 0 1
  obtain ⟨Z3, ν3, w, t, hP2, hq2, ht, hI3, hK3, hN3⟩ := sg_315 st2.1 st2.2.1 f1
  refine wz_cI_of hq2 ?_
  rw [hs2 1] at hP2
  obtain ⟨c1, c2, c3⟩ := cm_cancel g1 hP hP2
  have hend : zEnd ν3 := ⟨⟨(hN3.2.2.1 0 (by have := st2.2.2.1.2; omega)).trans st2.2.2.1.1, by have := st2.2.2.1.2; have := hN3.2.2.2.1; omega⟩, by have := st2.2.2.2.2.1; have := hN3.2.2.2.2.1; omega, by have := st2.2.2.2.2.2; have := hN3.2.2.2.2.2; omega⟩
  refine wz_i1 (decide_eq_true (show i3 (Z3 1 0 0 2) = i3 (tcL [(24, 1), (15, 2)] E) by rw [ht, c1]; rfl)) ?_
  rcases c3 with rfl | rfl | rfl
  · refine wz_i0 (by decide) (wz_i1 (decide_eq_true ?_) (hk _ _ _ _ hend))
    have e1 : qz_lm (zm Z3 ν3) 71 0 0 0 = (i3 v).toInt64 := (hN3.1 71 0 0 0 (by decide)).trans (hE0 rfl)
    rw [e1, c2 rfl]
    exact lg_self _
  · exact wz_i1 (by decide) (hk _ _ _ _ hend)
  · exact wz_i1 (by decide) (hk _ _ _ _ hend)

/- pay -/
theorem lw_pay {Z : qz_Z} {ν : qz_N} (h : zNew Z ν) {a1 : Int} (g1 : -2147483648 ≤ a1 ∧ a1 ≤ 2147483647) {a2 : Int} (g2 : -2147483648 ≤ a2 ∧ a2 ≤ 2147483647) : ∃ (Z2 : qz_Z) (ν2 : qz_N) (v E : Int), (v, E) = zg_228 a1 a2 ∧ qf_607 [.inr (.inr (some (0, 0, 0))), .inl (i3 a1), .inl (i3 a2), .inr (.inr (some (71, 0, 0)))] (zm Z ν) = some (zm Z2 ν2, .inl (some (.inl (i3 (tcL [(24, 1), (13, 2), (15, 3)] E))))) ∧ zW Z ν v E Z2 ν2 := by
  refine wrap_ok (hs := [(24, 1), (13, 2), (15, 3)]) (WS := []) h.2.2.1 h.2.2.2.1 h.2.2.2.2 (zF_m h.2.1) (fun R hR => fv_607 (i3 a1) (i3 a2) _ R hR) (sg_228 h.1 h.2.1 g1 g2) (fun v E he => ?_) (by decide) (by decide)
  obtain ⟨-, -, c3⟩ := cm_pay g1 g2 he (w := (zg_451 a1 a2).1) (t := (zg_451 a1 a2).2) rfl
  rcases c3 with c3 | c3 | c3 | c3
  · exact .inl c3
  · exact .inr ⟨(24, 1), by decide, c3⟩
  · exact .inr ⟨(13, 2), by decide, c3⟩
  · exact .inr ⟨(15, 3), by decide, c3⟩
theorem lc_20 {Z : qz_Z} {ν : qz_N} (h : zNew Z ν) {k : wz_K} {R : wz_R} (hk : ∀ Z3 ν3 v2 v4, zEnd ν3 → k 44 ([some (.inr (.inr (some (200, 0, 0)))), some (.inr (.inr (some (0, 0, 0)))), some (.inr (.inr (some (1, 0, 0)))), some (.inr (.inr (some (71, 0, 0)))), some (.inl (0 : Int32)), some (.inl v2), some (.inl v4), none], [], zm Z3 ν3)) : gx_20 k R (gx_L 0, [], zm Z ν) := by
  refine fk_20 0 (zm Z ν) k R ?_
  have st := zNew_S h
  refine wz_i1 (zS_t st) (wz_i0 (zS_o st (by decide)) ?_)
  refine wz_i1 (zS_t st) (wz_i0 (zS_o st (by decide)) ?_)
  have g1 := zI_f h.1 200 0 0 1
  have g2 := zI_f h.1 200 0 0 2
  obtain ⟨Z2, ν2, v, E, hP, hq, hE0, st2, hs2⟩ := lw_pay h g1 g2
  refine wz_cI_of hq ?_
  refine wz_i1 (zS_t st2) (wz_i0 (zS_o st2 (by decide)) ?_)
  refine wz_i1 (zS_t st2) (wz_i0 (zS_o st2 (by decide)) ?_)
  have f1 := zI_f st2.1 200 0 0 1
  have f2 := zI_f st2.1 200 0 0 2
  obtain ⟨Z3, ν3, w, t, hP2, hq2, ht, hI3, hK3, hN3⟩ := sg_451 st2.1 st2.2.1 f1 f2
  refine wz_cI_of hq2 ?_
  rw [hs2 1, hs2 2] at hP2
  obtain ⟨c1, c2, c3⟩ := cm_pay g1 g2 hP hP2
  have hend : zEnd ν3 := ⟨⟨(hN3.2.2.1 0 (by have := st2.2.2.1.2; omega)).trans st2.2.2.1.1, by have := st2.2.2.1.2; have := hN3.2.2.2.1; omega⟩, by have := st2.2.2.2.2.1; have := hN3.2.2.2.2.1; omega, by have := st2.2.2.2.2.2; have := hN3.2.2.2.2.2; omega⟩
  refine wz_i1 (decide_eq_true (show i3 (Z3 1 0 0 2) = i3 (tcL [(24, 1), (13, 2), (15, 3)] E) by rw [ht, c1]; rfl)) ?_
  rcases c3 with rfl | rfl | rfl | rfl
  · refine wz_i0 (by decide) (wz_i1 (decide_eq_true ?_) (hk _ _ _ _ hend))
    have e1 : qz_lm (zm Z3 ν3) 71 0 0 0 = (i3 v).toInt64 := (hN3.1 71 0 0 0 (by decide)).trans (hE0 rfl)
    rw [e1, c2 rfl]
    exact lg_self _
  · exact wz_i1 (by decide) (hk _ _ _ _ hend)
  · exact wz_i1 (by decide) (hk _ _ _ _ hend)
  · exact wz_i1 (by decide) (hk _ _ _ _ hend)

/- owes -/
theorem lw_owes {Z : qz_Z} {ν : qz_N} (h : zNew Z ν) {a1 : Int} (g1 : -2147483648 ≤ a1 ∧ a1 ≤ 2147483647) {a2 : Int} (g2 : -2147483648 ≤ a2 ∧ a2 ≤ 2147483647) : ∃ (Z2 : qz_Z) (ν2 : qz_N) (v E : Int), (v, E) = zg_224 a1 a2 ∧ qf_603 [.inr (.inr (some (0, 0, 0))), .inl (i3 a1), .inl (i3 a2), .inr (.inr (some (71, 0, 0)))] (zm Z ν) = some (zm Z2 ν2, .inl (some (.inl (i3 (tcL [(24, 1), (13, 2)] E))))) ∧ zW Z ν v E Z2 ν2 := by
  refine wrap_ok (hs := [(24, 1), (13, 2)]) (WS := []) h.2.2.1 h.2.2.2.1 h.2.2.2.2 (zF_m h.2.1) (fun R hR => fv_603 (i3 a1) (i3 a2) _ R hR) (sg_224 h.1 h.2.1 g1 g2) (fun v E he => ?_) (by decide) (by decide)
  obtain ⟨-, -, c3⟩ := cm_owes g1 g2 he (w := (zg_445 a1 a2).1) (t := (zg_445 a1 a2).2) rfl
  rcases c3 with c3 | c3 | c3
  · exact .inl c3
  · exact .inr ⟨(24, 1), by decide, c3⟩
  · exact .inr ⟨(13, 2), by decide, c3⟩
theorem lc_21 {Z : qz_Z} {ν : qz_N} (h : zNew Z ν) {k : wz_K} {R : wz_R} (hk : ∀ Z3 ν3 v2 v4, zEnd ν3 → k 43 ([some (.inr (.inr (some (200, 0, 0)))), some (.inr (.inr (some (0, 0, 0)))), some (.inr (.inr (some (1, 0, 0)))), some (.inr (.inr (some (71, 0, 0)))), some (.inl (0 : Int32)), some (.inl v2), some (.inl v4), none], [], zm Z3 ν3)) : gx_21 k R (gx_L 0, [], zm Z ν) := by
  refine fk_21 0 (zm Z ν) k R ?_
  have st := zNew_S h
  refine wz_i1 (zS_t st) (wz_i0 (zS_o st (by decide)) ?_)
  refine wz_i1 (zS_t st) (wz_i0 (zS_o st (by decide)) ?_)
  have g1 := zI_f h.1 200 0 0 1
  have g2 := zI_f h.1 200 0 0 2
  obtain ⟨Z2, ν2, v, E, hP, hq, hE0, st2, hs2⟩ := lw_owes h g1 g2
  refine wz_cI_of hq ?_
  refine wz_i1 (zS_t st2) (wz_i0 (zS_o st2 (by decide)) ?_)
  refine wz_i1 (zS_t st2) (wz_i0 (zS_o st2 (by decide)) ?_)
  have f1 := zI_f st2.1 200 0 0 1
  have f2 := zI_f st2.1 200 0 0 2
  obtain ⟨Z3, ν3, w, t, hP2, hq2, ht, hI3, hK3, hN3⟩ := sg_445 st2.1 st2.2.1 f1 f2
  refine wz_cI_of hq2 ?_
  rw [hs2 1, hs2 2] at hP2
  obtain ⟨c1, c2, c3⟩ := cm_owes g1 g2 hP hP2
  have hend : zEnd ν3 := ⟨⟨(hN3.2.2.1 0 (by have := st2.2.2.1.2; omega)).trans st2.2.2.1.1, by have := st2.2.2.1.2; have := hN3.2.2.2.1; omega⟩, by have := st2.2.2.2.2.1; have := hN3.2.2.2.2.1; omega, by have := st2.2.2.2.2.2; have := hN3.2.2.2.2.2; omega⟩
  refine wz_i1 (decide_eq_true (show i3 (Z3 1 0 0 2) = i3 (tcL [(24, 1), (13, 2)] E) by rw [ht, c1]; rfl)) ?_
  rcases c3 with rfl | rfl | rfl
  · refine wz_i0 (by decide) (wz_i1 (decide_eq_true ?_) (hk _ _ _ _ hend))
    have e1 : qz_lm (zm Z3 ν3) 71 0 0 0 = (i3 v).toInt64 := (hN3.1 71 0 0 0 (by decide)).trans (hE0 rfl)
    rw [e1, c2 rfl]
    exact lg_self _
  · exact wz_i1 (by decide) (hk _ _ _ _ hend)
  · exact wz_i1 (by decide) (hk _ _ _ _ hend)

/- ordered -/
theorem lw_ordered {Z : qz_Z} {ν : qz_N} (h : zNew Z ν) {a1 : Int} (g1 : -2147483648 ≤ a1 ∧ a1 ≤ 2147483647) {a2 : Int} (g2 : -2147483648 ≤ a2 ∧ a2 ≤ 2147483647) : ∃ (Z2 : qz_Z) (ν2 : qz_N) (v E : Int), (v, E) = zg_221 a1 a2 ∧ qf_600 [.inr (.inr (some (0, 0, 0))), .inl (i3 a1), .inl (i3 a2), .inr (.inr (some (71, 0, 0)))] (zm Z ν) = some (zm Z2 ν2, .inl (some (.inl (i3 (tcL [(24, 1), (13, 2)] E))))) ∧ zW Z ν v E Z2 ν2 := by
  refine wrap_ok (hs := [(24, 1), (13, 2)]) (WS := []) h.2.2.1 h.2.2.2.1 h.2.2.2.2 (zF_m h.2.1) (fun R hR => fv_600 (i3 a1) (i3 a2) _ R hR) (sg_221 h.1 h.2.1 g1 g2) (fun v E he => ?_) (by decide) (by decide)
  obtain ⟨-, -, c3⟩ := cm_ordered g1 g2 he (w := (zg_442 a1 a2).1) (t := (zg_442 a1 a2).2) rfl
  rcases c3 with c3 | c3 | c3
  · exact .inl c3
  · exact .inr ⟨(24, 1), by decide, c3⟩
  · exact .inr ⟨(13, 2), by decide, c3⟩
theorem lc_22 {Z : qz_Z} {ν : qz_N} (h : zNew Z ν) {k : wz_K} {R : wz_R} (hk : ∀ Z3 ν3 v2 v4, zEnd ν3 → k 42 ([some (.inr (.inr (some (200, 0, 0)))), some (.inr (.inr (some (0, 0, 0)))), some (.inr (.inr (some (1, 0, 0)))), some (.inr (.inr (some (71, 0, 0)))), some (.inl (0 : Int32)), some (.inl v2), some (.inl v4), none], [], zm Z3 ν3)) : gx_22 k R (gx_L 0, [], zm Z ν) := by
  refine fk_22 0 (zm Z ν) k R ?_
  have st := zNew_S h
  refine wz_i1 (zS_t st) (wz_i0 (zS_o st (by decide)) ?_)
  refine wz_i1 (zS_t st) (wz_i0 (zS_o st (by decide)) ?_)
  have g1 := zI_f h.1 200 0 0 1
  have g2 := zI_f h.1 200 0 0 2
  obtain ⟨Z2, ν2, v, E, hP, hq, hE0, st2, hs2⟩ := lw_ordered h g1 g2
  refine wz_cI_of hq ?_
  refine wz_i1 (zS_t st2) (wz_i0 (zS_o st2 (by decide)) ?_)
  refine wz_i1 (zS_t st2) (wz_i0 (zS_o st2 (by decide)) ?_)
  have f1 := zI_f st2.1 200 0 0 1
  have f2 := zI_f st2.1 200 0 0 2
  obtain ⟨Z3, ν3, w, t, hP2, hq2, ht, hI3, hK3, hN3⟩ := sg_442 st2.1 st2.2.1 f1 f2
  refine wz_cI_of hq2 ?_
  rw [hs2 1, hs2 2] at hP2
  obtain ⟨c1, c2, c3⟩ := cm_ordered g1 g2 hP hP2
  have hend : zEnd ν3 := ⟨⟨(hN3.2.2.1 0 (by have := st2.2.2.1.2; omega)).trans st2.2.2.1.1, by have := st2.2.2.1.2; have := hN3.2.2.2.1; omega⟩, by have := st2.2.2.2.2.1; have := hN3.2.2.2.2.1; omega, by have := st2.2.2.2.2.2; have := hN3.2.2.2.2.2; omega⟩
  refine wz_i1 (decide_eq_true (show i3 (Z3 1 0 0 2) = i3 (tcL [(24, 1), (13, 2)] E) by rw [ht, c1]; rfl)) ?_
  rcases c3 with rfl | rfl | rfl
  · refine wz_i0 (by decide) (wz_i1 (decide_eq_true ?_) (hk _ _ _ _ hend))
    have e1 : qz_lm (zm Z3 ν3) 71 0 0 0 = (i3 v).toInt64 := (hN3.1 71 0 0 0 (by decide)).trans (hE0 rfl)
    rw [e1, c2 rfl]
    exact lg_self _
  · exact wz_i1 (by decide) (hk _ _ _ _ hend)
  · exact wz_i1 (by decide) (hk _ _ _ _ hend)

/- taker -/
theorem lw_taker {Z : qz_Z} {ν : qz_N} (h : zNew Z ν) {a1 : Int} (g1 : -2147483648 ≤ a1 ∧ a1 ≤ 2147483647) {a2 : Int} (g2 : -2147483648 ≤ a2 ∧ a2 ≤ 2147483647) : ∃ (Z2 : qz_Z) (ν2 : qz_N) (v E : Int), (v, E) = zg_245 a1 a2 ∧ qf_623 [.inr (.inr (some (0, 0, 0))), .inl (i3 a1), .inl (i3 a2), .inr (.inr (some (71, 0, 0)))] (zm Z ν) = some (zm Z2 ν2, .inl (some (.inl (i3 (tcL [(24, 1), (13, 2)] E))))) ∧ zW Z ν v E Z2 ν2 := by
  refine wrap_ok (hs := [(24, 1), (13, 2)]) (WS := []) h.2.2.1 h.2.2.2.1 h.2.2.2.2 (zF_m h.2.1) (fun R hR => fv_623 (i3 a1) (i3 a2) _ R hR) (sg_245 h.1 h.2.1 g1 g2) (fun v E he => ?_) (by decide) (by decide)
  obtain ⟨-, -, c3⟩ := cm_taker g1 g2 he (w := (zg_532 a1 a2).1) (t := (zg_532 a1 a2).2) rfl
  rcases c3 with c3 | c3 | c3
  · exact .inl c3
  · exact .inr ⟨(24, 1), by decide, c3⟩
  · exact .inr ⟨(13, 2), by decide, c3⟩
theorem lc_23 {Z : qz_Z} {ν : qz_N} (h : zNew Z ν) {k : wz_K} {R : wz_R} (hk : ∀ Z3 ν3 v2 v4, zEnd ν3 → k 41 ([some (.inr (.inr (some (200, 0, 0)))), some (.inr (.inr (some (0, 0, 0)))), some (.inr (.inr (some (1, 0, 0)))), some (.inr (.inr (some (71, 0, 0)))), some (.inl (0 : Int32)), some (.inl v2), some (.inl v4), none], [], zm Z3 ν3)) : gx_23 k R (gx_L 0, [], zm Z ν) := by
  refine fk_23 0 (zm Z ν) k R ?_
  have st := zNew_S h
  refine wz_i1 (zS_t st) (wz_i0 (zS_o st (by decide)) ?_)
  refine wz_i1 (zS_t st) (wz_i0 (zS_o st (by decide)) ?_)
  have g1 := zI_f h.1 200 0 0 1
  have g2 := zI_f h.1 200 0 0 2
  obtain ⟨Z2, ν2, v, E, hP, hq, hE0, st2, hs2⟩ := lw_taker h g1 g2
  refine wz_cI_of hq ?_
  refine wz_i1 (zS_t st2) (wz_i0 (zS_o st2 (by decide)) ?_)
  refine wz_i1 (zS_t st2) (wz_i0 (zS_o st2 (by decide)) ?_)
  have f1 := zI_f st2.1 200 0 0 1
  have f2 := zI_f st2.1 200 0 0 2
  obtain ⟨Z3, ν3, w, t, hP2, hq2, ht, hI3, hK3, hN3⟩ := sg_532 st2.1 st2.2.1 f1 f2
  refine wz_cI_of hq2 ?_
  rw [hs2 1, hs2 2] at hP2
  obtain ⟨c1, c2, c3⟩ := cm_taker g1 g2 hP hP2
  have hend : zEnd ν3 := ⟨⟨(hN3.2.2.1 0 (by have := st2.2.2.1.2; omega)).trans st2.2.2.1.1, by have := st2.2.2.1.2; have := hN3.2.2.2.1; omega⟩, by have := st2.2.2.2.2.1; have := hN3.2.2.2.2.1; omega, by have := st2.2.2.2.2.2; have := hN3.2.2.2.2.2; omega⟩
  refine wz_i1 (decide_eq_true (show i3 (Z3 1 0 0 2) = i3 (tcL [(24, 1), (13, 2)] E) by rw [ht, c1]; rfl)) ?_
  rcases c3 with rfl | rfl | rfl
  · refine wz_i0 (by decide) (wz_i1 (decide_eq_true ?_) (hk _ _ _ _ hend))
    have e1 : qz_lm (zm Z3 ν3) 71 0 0 0 = (i3 v).toInt64 := (hN3.1 71 0 0 0 (by decide)).trans (hE0 rfl)
    rw [e1, c2 rfl]
    exact lg_self _
  · exact wz_i1 (by decide) (hk _ _ _ _ hend)
  · exact wz_i1 (by decide) (hk _ _ _ _ hend)

/- clock -/
theorem lw_clock {Z : qz_Z} {ν : qz_N} (h : zNew Z ν) {a1 : Int} (g1 : -2147483648 ≤ a1 ∧ a1 ≤ 2147483647) {a2 : Int} (g2 : -2147483648 ≤ a2 ∧ a2 ≤ 2147483647) {a3 : Int} (g3 : -2147483648 ≤ a3 ∧ a3 ≤ 2147483647) {a4 : Int} (g4 : -2147483648 ≤ a4 ∧ a4 ≤ 2147483647) {a5 : Int} (g5 : -2147483648 ≤ a5 ∧ a5 ≤ 2147483647) : ∃ (Z2 : qz_Z) (ν2 : qz_N) (v E : Int), (v, E) = zg_193 a1 a2 a3 a4 a5 ∧ qf_577 [.inr (.inr (some (0, 0, 0))), .inl (i3 a1), .inl (i3 a2), .inl (i3 a3), .inl (i3 a4), .inl (i3 a5), .inr (.inr (some (71, 0, 0)))] (zm Z ν) = some (zm Z2 ν2, .inl (some (.inl (i3 (tcL [(13, 1), (15, 2)] E))))) ∧ zW Z ν v E Z2 ν2 := by
  refine wrap_ok (hs := [(13, 1), (15, 2)]) (WS := [3, 11, 12, 13, 14, 40, 41, 42, 43, 44, 45, 46, 47, 48, 49, 50, 51, 52, 53, 54, 61, 68]) h.2.2.1 h.2.2.2.1 h.2.2.2.2 (zF_m h.2.1) (fun R hR => fv_577 (i3 a1) (i3 a2) (i3 a3) (i3 a4) (i3 a5) _ R hR) (sg_193 h.1 h.2.1 g1 g2 g3 g4 g5) (fun v E he => ?_) (by decide) (by decide)
  obtain ⟨-, -, c3⟩ := cm_clock g1 g2 g3 g4 g5 he (w := (zg_316 a1 a2 a3 a4 a5).1) (t := (zg_316 a1 a2 a3 a4 a5).2) rfl
  rcases c3 with c3 | c3 | c3
  · exact .inl c3
  · exact .inr ⟨(13, 1), by decide, c3⟩
  · exact .inr ⟨(15, 2), by decide, c3⟩
theorem lc_25 {Z : qz_Z} {ν : qz_N} (h : zNew Z ν) {k : wz_K} {R : wz_R} (hk : ∀ Z3 ν3 v2 v4, zEnd ν3 → k 39 ([some (.inr (.inr (some (200, 0, 0)))), some (.inr (.inr (some (0, 0, 0)))), some (.inr (.inr (some (1, 0, 0)))), some (.inr (.inr (some (71, 0, 0)))), some (.inl (0 : Int32)), some (.inl v2), some (.inl v4), none], [], zm Z3 ν3)) : gx_25 k R (gx_L 0, [], zm Z ν) := by
  refine fk_25 0 (zm Z ν) k R ?_
  have st := zNew_S h
  refine wz_i1 (zS_t st) (wz_i0 (zS_o st (by decide)) ?_)
  refine wz_i1 (zS_t st) (wz_i0 (zS_o st (by decide)) ?_)
  refine wz_i1 (zS_t st) (wz_i0 (zS_o st (by decide)) ?_)
  refine wz_i1 (zS_t st) (wz_i0 (zS_o st (by decide)) ?_)
  refine wz_i1 (zS_t st) (wz_i0 (zS_o st (by decide)) ?_)
  have g1 := zI_f h.1 200 0 0 1
  have g2 := zI_f h.1 200 0 0 2
  have g3 := zI_f h.1 200 0 0 3
  have g4 := zI_f h.1 200 0 0 4
  have g5 := zI_f h.1 200 0 0 5
  obtain ⟨Z2, ν2, v, E, hP, hq, hE0, st2, hs2⟩ := lw_clock h g1 g2 g3 g4 g5
  refine wz_cI_of hq ?_
  refine wz_i1 (zS_t st2) (wz_i0 (zS_o st2 (by decide)) ?_)
  refine wz_i1 (zS_t st2) (wz_i0 (zS_o st2 (by decide)) ?_)
  refine wz_i1 (zS_t st2) (wz_i0 (zS_o st2 (by decide)) ?_)
  refine wz_i1 (zS_t st2) (wz_i0 (zS_o st2 (by decide)) ?_)
  refine wz_i1 (zS_t st2) (wz_i0 (zS_o st2 (by decide)) ?_)
  have f1 := zI_f st2.1 200 0 0 1
  have f2 := zI_f st2.1 200 0 0 2
  have f3 := zI_f st2.1 200 0 0 3
  have f4 := zI_f st2.1 200 0 0 4
  have f5 := zI_f st2.1 200 0 0 5
  obtain ⟨Z3, ν3, w, t, hP2, hq2, ht, hI3, hK3, hN3⟩ := sg_316 st2.1 st2.2.1 f1 f2 f3 f4 f5 (fun _ => st2.2.2.2.1)
  refine wz_cI_of hq2 ?_
  rw [hs2 1, hs2 2, hs2 3, hs2 4, hs2 5] at hP2
  obtain ⟨c1, c2, c3⟩ := cm_clock g1 g2 g3 g4 g5 hP hP2
  have hend : zEnd ν3 := ⟨⟨(hN3.2.2.1 0 (by have := st2.2.2.1.2; omega)).trans st2.2.2.1.1, by have := st2.2.2.1.2; have := hN3.2.2.2.1; omega⟩, by have := st2.2.2.2.2.1; have := hN3.2.2.2.2.1; omega, by have := st2.2.2.2.2.2; have := hN3.2.2.2.2.2; omega⟩
  refine wz_i1 (decide_eq_true (show i3 (Z3 1 0 0 2) = i3 (tcL [(13, 1), (15, 2)] E) by rw [ht, c1]; rfl)) ?_
  rcases c3 with rfl | rfl | rfl
  · refine wz_i0 (by decide) (wz_i1 (decide_eq_true ?_) (hk _ _ _ _ hend))
    have e1 : qz_lm (zm Z3 ν3) 71 0 0 0 = (i3 v).toInt64 := (hN3.1 71 0 0 0 (by decide)).trans (hE0 rfl)
    rw [e1, c2 rfl]
    exact lg_self _
  · exact wz_i1 (by decide) (hk _ _ _ _ hend)
  · exact wz_i1 (by decide) (hk _ _ _ _ hend)

/- queue -/
theorem lw_queue {Z : qz_Z} {ν : qz_N} (h : zNew Z ν) {a1 : Int} (g1 : -2147483648 ≤ a1 ∧ a1 ≤ 2147483647) {a2 : Int} (g2 : -2147483648 ≤ a2 ∧ a2 ≤ 2147483647) {a3 : Int} (g3 : -2147483648 ≤ a3 ∧ a3 ≤ 2147483647) {a4 : Int} (g4 : -2147483648 ≤ a4 ∧ a4 ≤ 2147483647) : ∃ (Z2 : qz_Z) (ν2 : qz_N) (v E : Int), (v, E) = zg_233 a1 a2 a3 a4 ∧ qf_612 [.inr (.inr (some (0, 0, 0))), .inl (i3 a1), .inl (i3 a2), .inl (i3 a3), .inl (i3 a4), .inr (.inr (some (71, 0, 0)))] (zm Z ν) = some (zm Z2 ν2, .inl (some (.inl (i3 (tcL [(24, 1), (13, 2), (15, 3)] E))))) ∧ zW Z ν v E Z2 ν2 := by
  refine wrap_ok (hs := [(24, 1), (13, 2), (15, 3)]) (WS := []) h.2.2.1 h.2.2.2.1 h.2.2.2.2 (zF_m h.2.1) (fun R hR => fv_612 (i3 a1) (i3 a2) (i3 a3) (i3 a4) _ R hR) (sg_233 h.1 h.2.1 g1 g2 g3 g4) (fun v E he => ?_) (by decide) (by decide)
  obtain ⟨-, -, c3⟩ := cm_queue g1 g2 g3 g4 he (w := (zg_459 a1 a2 a3 a4).1) (t := (zg_459 a1 a2 a3 a4).2) rfl
  rcases c3 with c3 | c3 | c3 | c3
  · exact .inl c3
  · exact .inr ⟨(24, 1), by decide, c3⟩
  · exact .inr ⟨(13, 2), by decide, c3⟩
  · exact .inr ⟨(15, 3), by decide, c3⟩
theorem lc_26 {Z : qz_Z} {ν : qz_N} (h : zNew Z ν) {k : wz_K} {R : wz_R} (hk : ∀ Z3 ν3 v2 v4, zEnd ν3 → k 38 ([some (.inr (.inr (some (200, 0, 0)))), some (.inr (.inr (some (0, 0, 0)))), some (.inr (.inr (some (1, 0, 0)))), some (.inr (.inr (some (71, 0, 0)))), some (.inl (0 : Int32)), some (.inl v2), some (.inl v4), none], [], zm Z3 ν3)) : gx_26 k R (gx_L 0, [], zm Z ν) := by
  refine fk_26 0 (zm Z ν) k R ?_
  have st := zNew_S h
  refine wz_i1 (zS_t st) (wz_i0 (zS_o st (by decide)) ?_)
  refine wz_i1 (zS_t st) (wz_i0 (zS_o st (by decide)) ?_)
  refine wz_i1 (zS_t st) (wz_i0 (zS_o st (by decide)) ?_)
  refine wz_i1 (zS_t st) (wz_i0 (zS_o st (by decide)) ?_)
  have g1 := zI_f h.1 200 0 0 1
  have g2 := zI_f h.1 200 0 0 2
  have g3 := zI_f h.1 200 0 0 3
  have g4 := zI_f h.1 200 0 0 4
  obtain ⟨Z2, ν2, v, E, hP, hq, hE0, st2, hs2⟩ := lw_queue h g1 g2 g3 g4
  refine wz_cI_of hq ?_
  refine wz_i1 (zS_t st2) (wz_i0 (zS_o st2 (by decide)) ?_)
  refine wz_i1 (zS_t st2) (wz_i0 (zS_o st2 (by decide)) ?_)
  refine wz_i1 (zS_t st2) (wz_i0 (zS_o st2 (by decide)) ?_)
  refine wz_i1 (zS_t st2) (wz_i0 (zS_o st2 (by decide)) ?_)
  have f1 := zI_f st2.1 200 0 0 1
  have f2 := zI_f st2.1 200 0 0 2
  have f3 := zI_f st2.1 200 0 0 3
  have f4 := zI_f st2.1 200 0 0 4
  obtain ⟨Z3, ν3, w, t, hP2, hq2, ht, hI3, hK3, hN3⟩ := sg_459 st2.1 st2.2.1 f1 f2 f3 f4
  refine wz_cI_of hq2 ?_
  rw [hs2 1, hs2 2, hs2 3, hs2 4] at hP2
  obtain ⟨c1, c2, c3⟩ := cm_queue g1 g2 g3 g4 hP hP2
  have hend : zEnd ν3 := ⟨⟨(hN3.2.2.1 0 (by have := st2.2.2.1.2; omega)).trans st2.2.2.1.1, by have := st2.2.2.1.2; have := hN3.2.2.2.1; omega⟩, by have := st2.2.2.2.2.1; have := hN3.2.2.2.2.1; omega, by have := st2.2.2.2.2.2; have := hN3.2.2.2.2.2; omega⟩
  refine wz_i1 (decide_eq_true (show i3 (Z3 1 0 0 2) = i3 (tcL [(24, 1), (13, 2), (15, 3)] E) by rw [ht, c1]; rfl)) ?_
  rcases c3 with rfl | rfl | rfl | rfl
  · refine wz_i0 (by decide) (wz_i1 (decide_eq_true ?_) (hk _ _ _ _ hend))
    have e1 : qz_lm (zm Z3 ν3) 71 0 0 0 = (i3 v).toInt64 := (hN3.1 71 0 0 0 (by decide)).trans (hE0 rfl)
    rw [e1, c2 rfl]
    exact lg_self _
  · exact wz_i1 (by decide) (hk _ _ _ _ hend)
  · exact wz_i1 (by decide) (hk _ _ _ _ hend)
  · exact wz_i1 (by decide) (hk _ _ _ _ hend)

/- withdraw -/
theorem lw_withdraw {Z : qz_Z} {ν : qz_N} (h : zNew Z ν) {a1 : Int} (g1 : -2147483648 ≤ a1 ∧ a1 ≤ 2147483647) : ∃ (Z2 : qz_Z) (ν2 : qz_N) (v E : Int), (v, E) = zg_254 a1 ∧ qf_630 [.inr (.inr (some (0, 0, 0))), .inl (i3 a1), .inr (.inr (some (71, 0, 0)))] (zm Z ν) = some (zm Z2 ν2, .inl (some (.inl (i3 (tcL [(24, 1), (15, 2)] E))))) ∧ zW Z ν v E Z2 ν2 := by
  refine wrap_ok (hs := [(24, 1), (15, 2)]) (WS := []) h.2.2.1 h.2.2.2.1 h.2.2.2.2 (zF_m h.2.1) (fun R hR => fv_630 (i3 a1) _ R hR) (sg_254 h.1 h.2.1 g1) (fun v E he => ?_) (by decide) (by decide)
  obtain ⟨-, -, c3⟩ := cm_withdraw g1 he (w := (zg_546 a1).1) (t := (zg_546 a1).2) rfl
  rcases c3 with c3 | c3 | c3
  · exact .inl c3
  · exact .inr ⟨(24, 1), by decide, c3⟩
  · exact .inr ⟨(15, 2), by decide, c3⟩
theorem lc_27 {Z : qz_Z} {ν : qz_N} (h : zNew Z ν) {k : wz_K} {R : wz_R} (hk : ∀ Z3 ν3 v2 v4, zEnd ν3 → k 37 ([some (.inr (.inr (some (200, 0, 0)))), some (.inr (.inr (some (0, 0, 0)))), some (.inr (.inr (some (1, 0, 0)))), some (.inr (.inr (some (71, 0, 0)))), some (.inl (0 : Int32)), some (.inl v2), some (.inl v4), none], [], zm Z3 ν3)) : gx_27 k R (gx_L 0, [], zm Z ν) := by
  refine fk_27 0 (zm Z ν) k R ?_
  have st := zNew_S h
  refine wz_i1 (zS_t st) (wz_i0 (zS_o st (by decide)) ?_)
  have g1 := zI_f h.1 200 0 0 1
  obtain ⟨Z2, ν2, v, E, hP, hq, hE0, st2, hs2⟩ := lw_withdraw h g1
  refine wz_cI_of hq ?_
  refine wz_i1 (zS_t st2) (wz_i0 (zS_o st2 (by decide)) ?_)
  have f1 := zI_f st2.1 200 0 0 1
  obtain ⟨Z3, ν3, w, t, hP2, hq2, ht, hI3, hK3, hN3⟩ := sg_546 st2.1 st2.2.1 f1
  refine wz_cI_of hq2 ?_
  rw [hs2 1] at hP2
  obtain ⟨c1, c2, c3⟩ := cm_withdraw g1 hP hP2
  have hend : zEnd ν3 := ⟨⟨(hN3.2.2.1 0 (by have := st2.2.2.1.2; omega)).trans st2.2.2.1.1, by have := st2.2.2.1.2; have := hN3.2.2.2.1; omega⟩, by have := st2.2.2.2.2.1; have := hN3.2.2.2.2.1; omega, by have := st2.2.2.2.2.2; have := hN3.2.2.2.2.2; omega⟩
  refine wz_i1 (decide_eq_true (show i3 (Z3 1 0 0 2) = i3 (tcL [(24, 1), (15, 2)] E) by rw [ht, c1]; rfl)) ?_
  rcases c3 with rfl | rfl | rfl
  · refine wz_i0 (by decide) (wz_i1 (decide_eq_true ?_) (hk _ _ _ _ hend))
    have e1 : qz_lm (zm Z3 ν3) 71 0 0 0 = (i3 v).toInt64 := (hN3.1 71 0 0 0 (by decide)).trans (hE0 rfl)
    rw [e1, c2 rfl]
    exact lg_self _
  · exact wz_i1 (by decide) (hk _ _ _ _ hend)
  · exact wz_i1 (by decide) (hk _ _ _ _ hend)

/- hand -/
theorem lw_hand {Z : qz_Z} {ν : qz_N} (h : zNew Z ν) {a1 : Int} (g1 : -2147483648 ≤ a1 ∧ a1 ≤ 2147483647) {a2 : Int} (g2 : -2147483648 ≤ a2 ∧ a2 ≤ 2147483647) : ∃ (Z2 : qz_Z) (ν2 : qz_N) (v E : Int), (v, E) = zg_206 a1 a2 ∧ qf_588 [.inr (.inr (some (0, 0, 0))), .inl (i3 a1), .inl (i3 a2), .inr (.inr (some (71, 0, 0)))] (zm Z ν) = some (zm Z2 ν2, .inl (some (.inl (i3 (tcL [(24, 1), (13, 2)] E))))) ∧ zW Z ν v E Z2 ν2 := by
  refine wrap_ok (hs := [(24, 1), (13, 2)]) (WS := []) h.2.2.1 h.2.2.2.1 h.2.2.2.2 (zF_m h.2.1) (fun R hR => fv_588 (i3 a1) (i3 a2) _ R hR) (sg_206 h.1 h.2.1 g1 g2) (fun v E he => ?_) (by decide) (by decide)
  obtain ⟨-, -, c3⟩ := cm_hand g1 g2 he (w := (zg_349 a1 a2).1) (t := (zg_349 a1 a2).2) rfl
  rcases c3 with c3 | c3 | c3
  · exact .inl c3
  · exact .inr ⟨(24, 1), by decide, c3⟩
  · exact .inr ⟨(13, 2), by decide, c3⟩
theorem lc_28 {Z : qz_Z} {ν : qz_N} (h : zNew Z ν) {k : wz_K} {R : wz_R} (hk : ∀ Z3 ν3 v2 v4, zEnd ν3 → k 36 ([some (.inr (.inr (some (200, 0, 0)))), some (.inr (.inr (some (0, 0, 0)))), some (.inr (.inr (some (1, 0, 0)))), some (.inr (.inr (some (71, 0, 0)))), some (.inl (0 : Int32)), some (.inl v2), some (.inl v4), none], [], zm Z3 ν3)) : gx_28 k R (gx_L 0, [], zm Z ν) := by
  refine fk_28 0 (zm Z ν) k R ?_
  have st := zNew_S h
  refine wz_i1 (zS_t st) (wz_i0 (zS_o st (by decide)) ?_)
  refine wz_i1 (zS_t st) (wz_i0 (zS_o st (by decide)) ?_)
  have g1 := zI_f h.1 200 0 0 1
  have g2 := zI_f h.1 200 0 0 2
  obtain ⟨Z2, ν2, v, E, hP, hq, hE0, st2, hs2⟩ := lw_hand h g1 g2
  refine wz_cI_of hq ?_
  refine wz_i1 (zS_t st2) (wz_i0 (zS_o st2 (by decide)) ?_)
  refine wz_i1 (zS_t st2) (wz_i0 (zS_o st2 (by decide)) ?_)
  have f1 := zI_f st2.1 200 0 0 1
  have f2 := zI_f st2.1 200 0 0 2
  obtain ⟨Z3, ν3, w, t, hP2, hq2, ht, hI3, hK3, hN3⟩ := sg_349 st2.1 st2.2.1 f1 f2
  refine wz_cI_of hq2 ?_
  rw [hs2 1, hs2 2] at hP2
  obtain ⟨c1, c2, c3⟩ := cm_hand g1 g2 hP hP2
  have hend : zEnd ν3 := ⟨⟨(hN3.2.2.1 0 (by have := st2.2.2.1.2; omega)).trans st2.2.2.1.1, by have := st2.2.2.1.2; have := hN3.2.2.2.1; omega⟩, by have := st2.2.2.2.2.1; have := hN3.2.2.2.2.1; omega, by have := st2.2.2.2.2.2; have := hN3.2.2.2.2.2; omega⟩
  refine wz_i1 (decide_eq_true (show i3 (Z3 1 0 0 2) = i3 (tcL [(24, 1), (13, 2)] E) by rw [ht, c1]; rfl)) ?_
  rcases c3 with rfl | rfl | rfl
  · refine wz_i0 (by decide) (wz_i1 (decide_eq_true ?_) (hk _ _ _ _ hend))
    have e1 : qz_lm (zm Z3 ν3) 71 0 0 0 = (i3 v).toInt64 := (hN3.1 71 0 0 0 (by decide)).trans (hE0 rfl)
    rw [e1, c2 rfl]
    exact lg_self _
  · exact wz_i1 (by decide) (hk _ _ _ _ hend)
  · exact wz_i1 (by decide) (hk _ _ _ _ hend)

/- lot -/
theorem lw_lot {Z : qz_Z} {ν : qz_N} (h : zNew Z ν) {a1 : Int} (g1 : -2147483648 ≤ a1 ∧ a1 ≤ 2147483647) {a2 : Int} (g2 : -2147483648 ≤ a2 ∧ a2 ≤ 2147483647) {a3 : Int} (g3 : -2147483648 ≤ a3 ∧ a3 ≤ 2147483647) : ∃ (Z2 : qz_Z) (ν2 : qz_N) (v E : Int), (v, E) = zg_217 a1 a2 a3 ∧ qf_596 [.inr (.inr (some (0, 0, 0))), .inl (i3 a1), .inl (i3 a2), .inl (i3 a3), .inr (.inr (some (71, 0, 0)))] (zm Z ν) = some (zm Z2 ν2, .inl (some (.inl (i3 (tcL [(24, 1), (13, 2)] E))))) ∧ zW Z ν v E Z2 ν2 := by
  refine wrap_ok (hs := [(24, 1), (13, 2)]) (WS := []) h.2.2.1 h.2.2.2.1 h.2.2.2.2 (zF_m h.2.1) (fun R hR => fv_596 (i3 a1) (i3 a2) (i3 a3) _ R hR) (sg_217 h.1 h.2.1 g1 g2 g3) (fun v E he => ?_) (by decide) (by decide)
  obtain ⟨-, -, c3⟩ := cm_lot g1 g2 g3 he (w := (zg_428 a1 a2 a3).1) (t := (zg_428 a1 a2 a3).2) rfl
  rcases c3 with c3 | c3 | c3
  · exact .inl c3
  · exact .inr ⟨(24, 1), by decide, c3⟩
  · exact .inr ⟨(13, 2), by decide, c3⟩
theorem lc_29 {Z : qz_Z} {ν : qz_N} (h : zNew Z ν) {k : wz_K} {R : wz_R} (hk : ∀ Z3 ν3 v2 v4, zEnd ν3 → k 35 ([some (.inr (.inr (some (200, 0, 0)))), some (.inr (.inr (some (0, 0, 0)))), some (.inr (.inr (some (1, 0, 0)))), some (.inr (.inr (some (71, 0, 0)))), some (.inl (0 : Int32)), some (.inl v2), some (.inl v4), none], [], zm Z3 ν3)) : gx_29 k R (gx_L 0, [], zm Z ν) := by
  refine fk_29 0 (zm Z ν) k R ?_
  have st := zNew_S h
  refine wz_i1 (zS_t st) (wz_i0 (zS_o st (by decide)) ?_)
  refine wz_i1 (zS_t st) (wz_i0 (zS_o st (by decide)) ?_)
  refine wz_i1 (zS_t st) (wz_i0 (zS_o st (by decide)) ?_)
  have g1 := zI_f h.1 200 0 0 1
  have g2 := zI_f h.1 200 0 0 2
  have g3 := zI_f h.1 200 0 0 3
  obtain ⟨Z2, ν2, v, E, hP, hq, hE0, st2, hs2⟩ := lw_lot h g1 g2 g3
  refine wz_cI_of hq ?_
  refine wz_i1 (zS_t st2) (wz_i0 (zS_o st2 (by decide)) ?_)
  refine wz_i1 (zS_t st2) (wz_i0 (zS_o st2 (by decide)) ?_)
  refine wz_i1 (zS_t st2) (wz_i0 (zS_o st2 (by decide)) ?_)
  have f1 := zI_f st2.1 200 0 0 1
  have f2 := zI_f st2.1 200 0 0 2
  have f3 := zI_f st2.1 200 0 0 3
  obtain ⟨Z3, ν3, w, t, hP2, hq2, ht, hI3, hK3, hN3⟩ := sg_428 st2.1 st2.2.1 f1 f2 f3
  refine wz_cI_of hq2 ?_
  rw [hs2 1, hs2 2, hs2 3] at hP2
  obtain ⟨c1, c2, c3⟩ := cm_lot g1 g2 g3 hP hP2
  have hend : zEnd ν3 := ⟨⟨(hN3.2.2.1 0 (by have := st2.2.2.1.2; omega)).trans st2.2.2.1.1, by have := st2.2.2.1.2; have := hN3.2.2.2.1; omega⟩, by have := st2.2.2.2.2.1; have := hN3.2.2.2.2.1; omega, by have := st2.2.2.2.2.2; have := hN3.2.2.2.2.2; omega⟩
  refine wz_i1 (decide_eq_true (show i3 (Z3 1 0 0 2) = i3 (tcL [(24, 1), (13, 2)] E) by rw [ht, c1]; rfl)) ?_
  rcases c3 with rfl | rfl | rfl
  · refine wz_i0 (by decide) (wz_i1 (decide_eq_true ?_) (hk _ _ _ _ hend))
    have e1 : qz_lm (zm Z3 ν3) 71 0 0 0 = (i3 v).toInt64 := (hN3.1 71 0 0 0 (by decide)).trans (hE0 rfl)
    rw [e1, c2 rfl]
    exact lg_self _
  · exact wz_i1 (by decide) (hk _ _ _ _ hend)
  · exact wz_i1 (by decide) (hk _ _ _ _ hend)

/- takings -/
theorem lw_takings {Z : qz_Z} {ν : qz_N} (h : zNew Z ν) {a1 : Int} (g1 : -2147483648 ≤ a1 ∧ a1 ≤ 2147483647) {a2 : Int} (g2 : -2147483648 ≤ a2 ∧ a2 ≤ 2147483647) {a3 : Int} (g3 : -2147483648 ≤ a3 ∧ a3 ≤ 2147483647) : ∃ (Z2 : qz_Z) (ν2 : qz_N) (v E : Int), (v, E) = zg_246 a1 a2 a3 ∧ qf_624 [.inr (.inr (some (0, 0, 0))), .inl (i3 a1), .inl (i3 a2), .inl (i3 a3), .inr (.inr (some (71, 0, 0)))] (zm Z ν) = some (zm Z2 ν2, .inl (some (.inl (i3 (tcL [(24, 1), (13, 2)] E))))) ∧ zW Z ν v E Z2 ν2 := by
  refine wrap_ok (hs := [(24, 1), (13, 2)]) (WS := []) h.2.2.1 h.2.2.2.1 h.2.2.2.2 (zF_m h.2.1) (fun R hR => fv_624 (i3 a1) (i3 a2) (i3 a3) _ R hR) (sg_246 h.1 h.2.1 g1 g2 g3) (fun v E he => ?_) (by decide) (by decide)
  obtain ⟨-, -, c3⟩ := cm_takings g1 g2 g3 he (w := (zg_533 a1 a2 a3).1) (t := (zg_533 a1 a2 a3).2) rfl
  rcases c3 with c3 | c3 | c3
  · exact .inl c3
  · exact .inr ⟨(24, 1), by decide, c3⟩
  · exact .inr ⟨(13, 2), by decide, c3⟩
theorem lc_30 {Z : qz_Z} {ν : qz_N} (h : zNew Z ν) {k : wz_K} {R : wz_R} (hk : ∀ Z3 ν3 v2 v4, zEnd ν3 → k 34 ([some (.inr (.inr (some (200, 0, 0)))), some (.inr (.inr (some (0, 0, 0)))), some (.inr (.inr (some (1, 0, 0)))), some (.inr (.inr (some (71, 0, 0)))), some (.inl (0 : Int32)), some (.inl v2), some (.inl v4), none], [], zm Z3 ν3)) : gx_30 k R (gx_L 0, [], zm Z ν) := by
  refine fk_30 0 (zm Z ν) k R ?_
  have st := zNew_S h
  refine wz_i1 (zS_t st) (wz_i0 (zS_o st (by decide)) ?_)
  refine wz_i1 (zS_t st) (wz_i0 (zS_o st (by decide)) ?_)
  refine wz_i1 (zS_t st) (wz_i0 (zS_o st (by decide)) ?_)
  have g1 := zI_f h.1 200 0 0 1
  have g2 := zI_f h.1 200 0 0 2
  have g3 := zI_f h.1 200 0 0 3
  obtain ⟨Z2, ν2, v, E, hP, hq, hE0, st2, hs2⟩ := lw_takings h g1 g2 g3
  refine wz_cI_of hq ?_
  refine wz_i1 (zS_t st2) (wz_i0 (zS_o st2 (by decide)) ?_)
  refine wz_i1 (zS_t st2) (wz_i0 (zS_o st2 (by decide)) ?_)
  refine wz_i1 (zS_t st2) (wz_i0 (zS_o st2 (by decide)) ?_)
  have f1 := zI_f st2.1 200 0 0 1
  have f2 := zI_f st2.1 200 0 0 2
  have f3 := zI_f st2.1 200 0 0 3
  obtain ⟨Z3, ν3, w, t, hP2, hq2, ht, hI3, hK3, hN3⟩ := sg_533 st2.1 st2.2.1 f1 f2 f3
  refine wz_cI_of hq2 ?_
  rw [hs2 1, hs2 2, hs2 3] at hP2
  obtain ⟨c1, c2, c3⟩ := cm_takings g1 g2 g3 hP hP2
  have hend : zEnd ν3 := ⟨⟨(hN3.2.2.1 0 (by have := st2.2.2.1.2; omega)).trans st2.2.2.1.1, by have := st2.2.2.1.2; have := hN3.2.2.2.1; omega⟩, by have := st2.2.2.2.2.1; have := hN3.2.2.2.2.1; omega, by have := st2.2.2.2.2.2; have := hN3.2.2.2.2.2; omega⟩
  refine wz_i1 (decide_eq_true (show i3 (Z3 1 0 0 2) = i3 (tcL [(24, 1), (13, 2)] E) by rw [ht, c1]; rfl)) ?_
  rcases c3 with rfl | rfl | rfl
  · refine wz_i0 (by decide) (wz_i1 (decide_eq_true ?_) (hk _ _ _ _ hend))
    have e1 : qz_lm (zm Z3 ν3) 71 0 0 0 = (i3 v).toInt64 := (hN3.1 71 0 0 0 (by decide)).trans (hE0 rfl)
    rw [e1, c2 rfl]
    exact lg_self _
  · exact wz_i1 (by decide) (hk _ _ _ _ hend)
  · exact wz_i1 (by decide) (hk _ _ _ _ hend)

/- bestRow -/
theorem lw_bestRow {Z : qz_Z} {ν : qz_N} (h : zNew Z ν) {a1 : Int} (g1 : -2147483648 ≤ a1 ∧ a1 ≤ 2147483647) {a2 : Int} (g2 : -2147483648 ≤ a2 ∧ a2 ≤ 2147483647) : ∃ (Z2 : qz_Z) (ν2 : qz_N) (v E : Int), (v, E) = zg_188 a1 a2 ∧ qf_572 [.inr (.inr (some (0, 0, 0))), .inl (i3 a1), .inl (i3 a2), .inr (.inr (some (71, 0, 0)))] (zm Z ν) = some (zm Z2 ν2, .inl (some (.inl (i3 (tcL [(24, 1), (15, 2)] E))))) ∧ zW Z ν v E Z2 ν2 := by
  refine wrap_ok (hs := [(24, 1), (15, 2)]) (WS := []) h.2.2.1 h.2.2.2.1 h.2.2.2.2 (zF_m h.2.1) (fun R hR => fv_572 (i3 a1) (i3 a2) _ R hR) (sg_188 h.1 h.2.1 g1 g2) (fun v E he => ?_) (by decide) (by decide)
  obtain ⟨-, -, c3⟩ := cm_bestRow g1 g2 he (w := (zg_292 a1 a2).1) (t := (zg_292 a1 a2).2) rfl
  rcases c3 with c3 | c3 | c3
  · exact .inl c3
  · exact .inr ⟨(24, 1), by decide, c3⟩
  · exact .inr ⟨(15, 2), by decide, c3⟩
theorem lc_31 {Z : qz_Z} {ν : qz_N} (h : zNew Z ν) {k : wz_K} {R : wz_R} (hk : ∀ Z3 ν3 v2 v4, zEnd ν3 → k 33 ([some (.inr (.inr (some (200, 0, 0)))), some (.inr (.inr (some (0, 0, 0)))), some (.inr (.inr (some (1, 0, 0)))), some (.inr (.inr (some (71, 0, 0)))), some (.inl (0 : Int32)), some (.inl v2), some (.inl v4), none], [], zm Z3 ν3)) : gx_31 k R (gx_L 0, [], zm Z ν) := by
  refine fk_31 0 (zm Z ν) k R ?_
  have st := zNew_S h
  refine wz_i1 (zS_t st) (wz_i0 (zS_o st (by decide)) ?_)
  refine wz_i1 (zS_t st) (wz_i0 (zS_o st (by decide)) ?_)
  have g1 := zI_f h.1 200 0 0 1
  have g2 := zI_f h.1 200 0 0 2
  obtain ⟨Z2, ν2, v, E, hP, hq, hE0, st2, hs2⟩ := lw_bestRow h g1 g2
  refine wz_cI_of hq ?_
  refine wz_i1 (zS_t st2) (wz_i0 (zS_o st2 (by decide)) ?_)
  refine wz_i1 (zS_t st2) (wz_i0 (zS_o st2 (by decide)) ?_)
  have f1 := zI_f st2.1 200 0 0 1
  have f2 := zI_f st2.1 200 0 0 2
  obtain ⟨Z3, ν3, w, t, hP2, hq2, ht, hI3, hK3, hN3⟩ := sg_292 st2.1 st2.2.1 f1 f2
  refine wz_cI_of hq2 ?_
  rw [hs2 1, hs2 2] at hP2
  obtain ⟨c1, c2, c3⟩ := cm_bestRow g1 g2 hP hP2
  have hend : zEnd ν3 := ⟨⟨(hN3.2.2.1 0 (by have := st2.2.2.1.2; omega)).trans st2.2.2.1.1, by have := st2.2.2.1.2; have := hN3.2.2.2.1; omega⟩, by have := st2.2.2.2.2.1; have := hN3.2.2.2.2.1; omega, by have := st2.2.2.2.2.2; have := hN3.2.2.2.2.2; omega⟩
  refine wz_i1 (decide_eq_true (show i3 (Z3 1 0 0 2) = i3 (tcL [(24, 1), (15, 2)] E) by rw [ht, c1]; rfl)) ?_
  rcases c3 with rfl | rfl | rfl
  · refine wz_i0 (by decide) (wz_i1 (decide_eq_true ?_) (hk _ _ _ _ hend))
    have e1 : qz_lm (zm Z3 ν3) 71 0 0 0 = (i3 v).toInt64 := (hN3.1 71 0 0 0 (by decide)).trans (hE0 rfl)
    rw [e1, c2 rfl]
    exact lg_self _
  · exact wz_i1 (by decide) (hk _ _ _ _ hend)
  · exact wz_i1 (by decide) (hk _ _ _ _ hend)

/- bestStart -/
theorem lw_bestStart {Z : qz_Z} {ν : qz_N} (h : zNew Z ν) {a1 : Int} (g1 : -2147483648 ≤ a1 ∧ a1 ≤ 2147483647) {a2 : Int} (g2 : -2147483648 ≤ a2 ∧ a2 ≤ 2147483647) {a3 : Int} (g3 : -2147483648 ≤ a3 ∧ a3 ≤ 2147483647) {a4 : Int} (g4 : -2147483648 ≤ a4 ∧ a4 ≤ 2147483647) : ∃ (Z2 : qz_Z) (ν2 : qz_N) (v E : Int), (v, E) = zg_189 a1 a2 a3 a4 ∧ qf_573 [.inr (.inr (some (0, 0, 0))), .inl (i3 a1), .inl (i3 a2), .inl (i3 a3), .inl (i3 a4), .inr (.inr (some (71, 0, 0)))] (zm Z ν) = some (zm Z2 ν2, .inl (some (.inl (i3 (tcL [(24, 1), (13, 2), (15, 3)] E))))) ∧ zW Z ν v E Z2 ν2 := by
  refine wrap_ok (hs := [(24, 1), (13, 2), (15, 3)]) (WS := []) h.2.2.1 h.2.2.2.1 h.2.2.2.2 (zF_m h.2.1) (fun R hR => fv_573 (i3 a1) (i3 a2) (i3 a3) (i3 a4) _ R hR) (sg_189 h.1 h.2.1 g1 g2 g3 g4) (fun v E he => ?_) (by decide) (by decide)
  obtain ⟨-, -, c3⟩ := cm_bestStart g1 g2 g3 g4 he (w := (zg_293 a1 a2 a3 a4).1) (t := (zg_293 a1 a2 a3 a4).2) rfl
  rcases c3 with c3 | c3 | c3 | c3
  · exact .inl c3
  · exact .inr ⟨(24, 1), by decide, c3⟩
  · exact .inr ⟨(13, 2), by decide, c3⟩
  · exact .inr ⟨(15, 3), by decide, c3⟩
theorem lc_32 {Z : qz_Z} {ν : qz_N} (h : zNew Z ν) {k : wz_K} {R : wz_R} (hk : ∀ Z3 ν3 v2 v4, zEnd ν3 → k 32 ([some (.inr (.inr (some (200, 0, 0)))), some (.inr (.inr (some (0, 0, 0)))), some (.inr (.inr (some (1, 0, 0)))), some (.inr (.inr (some (71, 0, 0)))), some (.inl (0 : Int32)), some (.inl v2), some (.inl v4), none], [], zm Z3 ν3)) : gx_32 k R (gx_L 0, [], zm Z ν) := by
  refine fk_32 0 (zm Z ν) k R ?_
  have st := zNew_S h
  refine wz_i1 (zS_t st) (wz_i0 (zS_o st (by decide)) ?_)
  refine wz_i1 (zS_t st) (wz_i0 (zS_o st (by decide)) ?_)
  refine wz_i1 (zS_t st) (wz_i0 (zS_o st (by decide)) ?_)
  refine wz_i1 (zS_t st) (wz_i0 (zS_o st (by decide)) ?_)
  have g1 := zI_f h.1 200 0 0 1
  have g2 := zI_f h.1 200 0 0 2
  have g3 := zI_f h.1 200 0 0 3
  have g4 := zI_f h.1 200 0 0 4
  obtain ⟨Z2, ν2, v, E, hP, hq, hE0, st2, hs2⟩ := lw_bestStart h g1 g2 g3 g4
  refine wz_cI_of hq ?_
  refine wz_i1 (zS_t st2) (wz_i0 (zS_o st2 (by decide)) ?_)
  refine wz_i1 (zS_t st2) (wz_i0 (zS_o st2 (by decide)) ?_)
  refine wz_i1 (zS_t st2) (wz_i0 (zS_o st2 (by decide)) ?_)
  refine wz_i1 (zS_t st2) (wz_i0 (zS_o st2 (by decide)) ?_)
  have f1 := zI_f st2.1 200 0 0 1
  have f2 := zI_f st2.1 200 0 0 2
  have f3 := zI_f st2.1 200 0 0 3
  have f4 := zI_f st2.1 200 0 0 4
  obtain ⟨Z3, ν3, w, t, hP2, hq2, ht, hI3, hK3, hN3⟩ := sg_293 st2.1 st2.2.1 f1 f2 f3 f4
  refine wz_cI_of hq2 ?_
  rw [hs2 1, hs2 2, hs2 3, hs2 4] at hP2
  obtain ⟨c1, c2, c3⟩ := cm_bestStart g1 g2 g3 g4 hP hP2
  have hend : zEnd ν3 := ⟨⟨(hN3.2.2.1 0 (by have := st2.2.2.1.2; omega)).trans st2.2.2.1.1, by have := st2.2.2.1.2; have := hN3.2.2.2.1; omega⟩, by have := st2.2.2.2.2.1; have := hN3.2.2.2.2.1; omega, by have := st2.2.2.2.2.2; have := hN3.2.2.2.2.2; omega⟩
  refine wz_i1 (decide_eq_true (show i3 (Z3 1 0 0 2) = i3 (tcL [(24, 1), (13, 2), (15, 3)] E) by rw [ht, c1]; rfl)) ?_
  rcases c3 with rfl | rfl | rfl | rfl
  · refine wz_i0 (by decide) (wz_i1 (decide_eq_true ?_) (hk _ _ _ _ hend))
    have e1 : qz_lm (zm Z3 ν3) 71 0 0 0 = (i3 v).toInt64 := (hN3.1 71 0 0 0 (by decide)).trans (hE0 rfl)
    rw [e1, c2 rfl]
    exact lg_self _
  · exact wz_i1 (by decide) (hk _ _ _ _ hend)
  · exact wz_i1 (by decide) (hk _ _ _ _ hend)
  · exact wz_i1 (by decide) (hk _ _ _ _ hend)

/- way -/
theorem lw_way {Z : qz_Z} {ν : qz_N} (h : zNew Z ν) {a1 : Int} (g1 : -2147483648 ≤ a1 ∧ a1 ≤ 2147483647) {a2 : Int} (g2 : -2147483648 ≤ a2 ∧ a2 ≤ 2147483647) {a3 : Int} (g3 : -2147483648 ≤ a3 ∧ a3 ≤ 2147483647) : ∃ (Z2 : qz_Z) (ν2 : qz_N) (v E : Int), (v, E) = zg_253 a1 a2 a3 ∧ qf_629 [.inr (.inr (some (0, 0, 0))), .inl (i3 a1), .inl (i3 a2), .inl (i3 a3), .inr (.inr (some (71, 0, 0)))] (zm Z ν) = some (zm Z2 ν2, .inl (some (.inl (i3 (tcL [(24, 1), (13, 2)] E))))) ∧ zW Z ν v E Z2 ν2 := by
  refine wrap_ok (hs := [(24, 1), (13, 2)]) (WS := [3, 11, 12, 13, 14, 40, 41, 42, 43, 44, 45, 46, 47, 48, 49, 50, 51, 52, 53, 54, 61, 68]) h.2.2.1 h.2.2.2.1 h.2.2.2.2 (zF_m h.2.1) (fun R hR => fv_629 (i3 a1) (i3 a2) (i3 a3) _ R hR) (sg_253 h.1 h.2.1 g1 g2 g3) (fun v E he => ?_) (by decide) (by decide)
  obtain ⟨-, -, c3⟩ := cm_way g1 g2 g3 he (w := (zg_543 a1 a2 a3).1) (t := (zg_543 a1 a2 a3).2) rfl
  rcases c3 with c3 | c3 | c3
  · exact .inl c3
  · exact .inr ⟨(24, 1), by decide, c3⟩
  · exact .inr ⟨(13, 2), by decide, c3⟩
theorem lc_33 {Z : qz_Z} {ν : qz_N} (h : zNew Z ν) {k : wz_K} {R : wz_R} (hk : ∀ Z3 ν3 v2 v4, zEnd ν3 → k 31 ([some (.inr (.inr (some (200, 0, 0)))), some (.inr (.inr (some (0, 0, 0)))), some (.inr (.inr (some (1, 0, 0)))), some (.inr (.inr (some (71, 0, 0)))), some (.inl (0 : Int32)), some (.inl v2), some (.inl v4), none], [], zm Z3 ν3)) : gx_33 k R (gx_L 0, [], zm Z ν) := by
  refine fk_33 0 (zm Z ν) k R ?_
  have st := zNew_S h
  refine wz_i1 (zS_t st) (wz_i0 (zS_o st (by decide)) ?_)
  refine wz_i1 (zS_t st) (wz_i0 (zS_o st (by decide)) ?_)
  refine wz_i1 (zS_t st) (wz_i0 (zS_o st (by decide)) ?_)
  have g1 := zI_f h.1 200 0 0 1
  have g2 := zI_f h.1 200 0 0 2
  have g3 := zI_f h.1 200 0 0 3
  obtain ⟨Z2, ν2, v, E, hP, hq, hE0, st2, hs2⟩ := lw_way h g1 g2 g3
  refine wz_cI_of hq ?_
  refine wz_i1 (zS_t st2) (wz_i0 (zS_o st2 (by decide)) ?_)
  refine wz_i1 (zS_t st2) (wz_i0 (zS_o st2 (by decide)) ?_)
  refine wz_i1 (zS_t st2) (wz_i0 (zS_o st2 (by decide)) ?_)
  have f1 := zI_f st2.1 200 0 0 1
  have f2 := zI_f st2.1 200 0 0 2
  have f3 := zI_f st2.1 200 0 0 3
  obtain ⟨Z3, ν3, w, t, hP2, hq2, ht, hI3, hK3, hN3⟩ := sg_543 st2.1 st2.2.1 f1 f2 f3 (fun _ => st2.2.2.2.1)
  refine wz_cI_of hq2 ?_
  rw [hs2 1, hs2 2, hs2 3] at hP2
  obtain ⟨c1, c2, c3⟩ := cm_way g1 g2 g3 hP hP2
  have hend : zEnd ν3 := ⟨⟨(hN3.2.2.1 0 (by have := st2.2.2.1.2; omega)).trans st2.2.2.1.1, by have := st2.2.2.1.2; have := hN3.2.2.2.1; omega⟩, by have := st2.2.2.2.2.1; have := hN3.2.2.2.2.1; omega, by have := st2.2.2.2.2.2; have := hN3.2.2.2.2.2; omega⟩
  refine wz_i1 (decide_eq_true (show i3 (Z3 1 0 0 2) = i3 (tcL [(24, 1), (13, 2)] E) by rw [ht, c1]; rfl)) ?_
  rcases c3 with rfl | rfl | rfl
  · refine wz_i0 (by decide) (wz_i1 (decide_eq_true ?_) (hk _ _ _ _ hend))
    have e1 : qz_lm (zm Z3 ν3) 71 0 0 0 = (i3 v).toInt64 := (hN3.1 71 0 0 0 (by decide)).trans (hE0 rfl)
    rw [e1, c2 rfl]
    exact lg_self _
  · exact wz_i1 (by decide) (hk _ _ _ _ hend)
  · exact wz_i1 (by decide) (hk _ _ _ _ hend)

/- docks -/
theorem lw_docks {Z : qz_Z} {ν : qz_N} (h : zNew Z ν) {a1 : Int} (g1 : -2147483648 ≤ a1 ∧ a1 ≤ 2147483647) : ∃ (Z2 : qz_Z) (ν2 : qz_N) (v E : Int), (v, E) = zg_197 a1 ∧ qf_579 [.inr (.inr (some (0, 0, 0))), .inl (i3 a1), .inr (.inr (some (71, 0, 0)))] (zm Z ν) = some (zm Z2 ν2, .inl (some (.inl (i3 (tcL [(13, 1), (15, 2)] E))))) ∧ zW Z ν v E Z2 ν2 := by
  refine wrap_ok (hs := [(13, 1), (15, 2)]) (WS := [3, 11, 12, 13, 14, 40, 41, 42, 43, 44, 45, 46, 47, 48, 49, 50, 51, 52, 53, 54, 61, 68]) h.2.2.1 h.2.2.2.1 h.2.2.2.2 (zF_m h.2.1) (fun R hR => fv_579 (i3 a1) _ R hR) (sg_197 h.1 h.2.1 g1) (fun v E he => ?_) (by decide) (by decide)
  obtain ⟨-, -, c3⟩ := cm_docks g1 he (w := (zg_336 a1).1) (t := (zg_336 a1).2) rfl
  rcases c3 with c3 | c3 | c3
  · exact .inl c3
  · exact .inr ⟨(13, 1), by decide, c3⟩
  · exact .inr ⟨(15, 2), by decide, c3⟩
theorem lc_34 {Z : qz_Z} {ν : qz_N} (h : zNew Z ν) {k : wz_K} {R : wz_R} (hk : ∀ Z3 ν3 v2 v4, zEnd ν3 → k 30 ([some (.inr (.inr (some (200, 0, 0)))), some (.inr (.inr (some (0, 0, 0)))), some (.inr (.inr (some (1, 0, 0)))), some (.inr (.inr (some (71, 0, 0)))), some (.inl (0 : Int32)), some (.inl v2), some (.inl v4), none], [], zm Z3 ν3)) : gx_34 k R (gx_L 0, [], zm Z ν) := by
  refine fk_34 0 (zm Z ν) k R ?_
  have st := zNew_S h
  refine wz_i1 (zS_t st) (wz_i0 (zS_o st (by decide)) ?_)
  have g1 := zI_f h.1 200 0 0 1
  obtain ⟨Z2, ν2, v, E, hP, hq, hE0, st2, hs2⟩ := lw_docks h g1
  refine wz_cI_of hq ?_
  refine wz_i1 (zS_t st2) (wz_i0 (zS_o st2 (by decide)) ?_)
  have f1 := zI_f st2.1 200 0 0 1
  obtain ⟨Z3, ν3, w, t, hP2, hq2, ht, hI3, hK3, hN3⟩ := sg_336 st2.1 st2.2.1 f1 (fun _ => st2.2.2.2.1)
  refine wz_cI_of hq2 ?_
  rw [hs2 1] at hP2
  obtain ⟨c1, c2, c3⟩ := cm_docks g1 hP hP2
  have hend : zEnd ν3 := ⟨⟨(hN3.2.2.1 0 (by have := st2.2.2.1.2; omega)).trans st2.2.2.1.1, by have := st2.2.2.1.2; have := hN3.2.2.2.1; omega⟩, by have := st2.2.2.2.2.1; have := hN3.2.2.2.2.1; omega, by have := st2.2.2.2.2.2; have := hN3.2.2.2.2.2; omega⟩
  refine wz_i1 (decide_eq_true (show i3 (Z3 1 0 0 2) = i3 (tcL [(13, 1), (15, 2)] E) by rw [ht, c1]; rfl)) ?_
  rcases c3 with rfl | rfl | rfl
  · refine wz_i0 (by decide) (wz_i1 (decide_eq_true ?_) (hk _ _ _ _ hend))
    have e1 : qz_lm (zm Z3 ν3) 71 0 0 0 = (i3 v).toInt64 := (hN3.1 71 0 0 0 (by decide)).trans (hE0 rfl)
    rw [e1, c2 rfl]
    exact lg_self _
  · exact wz_i1 (by decide) (hk _ _ _ _ hend)
  · exact wz_i1 (by decide) (hk _ _ _ _ hend)

/- truck -/
theorem lw_truck {Z : qz_Z} {ν : qz_N} (h : zNew Z ν) {a1 : Int} (g1 : -2147483648 ≤ a1 ∧ a1 ≤ 2147483647) {a2 : Int} (g2 : -2147483648 ≤ a2 ∧ a2 ≤ 2147483647) : ∃ (Z2 : qz_Z) (ν2 : qz_N) (v E : Int), (v, E) = zg_251 a1 a2 ∧ qf_627 [.inr (.inr (some (0, 0, 0))), .inl (i3 a1), .inl (i3 a2), .inr (.inr (some (71, 0, 0)))] (zm Z ν) = some (zm Z2 ν2, .inl (some (.inl (i3 (tcL [(13, 1), (15, 2)] E))))) ∧ zW Z ν v E Z2 ν2 := by
  refine wrap_ok (hs := [(13, 1), (15, 2)]) (WS := [3, 11, 12, 13, 14, 40, 41, 42, 43, 44, 45, 46, 47, 48, 49, 50, 51, 52, 53, 54, 61, 68]) h.2.2.1 h.2.2.2.1 h.2.2.2.2 (zF_m h.2.1) (fun R hR => fv_627 (i3 a1) (i3 a2) _ R hR) (sg_251 h.1 h.2.1 g1 g2) (fun v E he => ?_) (by decide) (by decide)
  obtain ⟨-, -, c3⟩ := cm_truck g1 g2 he (w := (zg_539 a1 a2).1) (t := (zg_539 a1 a2).2) rfl
  rcases c3 with c3 | c3 | c3
  · exact .inl c3
  · exact .inr ⟨(13, 1), by decide, c3⟩
  · exact .inr ⟨(15, 2), by decide, c3⟩
theorem lc_35 {Z : qz_Z} {ν : qz_N} (h : zNew Z ν) {k : wz_K} {R : wz_R} (hk : ∀ Z3 ν3 v2 v4, zEnd ν3 → k 29 ([some (.inr (.inr (some (200, 0, 0)))), some (.inr (.inr (some (0, 0, 0)))), some (.inr (.inr (some (1, 0, 0)))), some (.inr (.inr (some (71, 0, 0)))), some (.inl (0 : Int32)), some (.inl v2), some (.inl v4), none], [], zm Z3 ν3)) : gx_35 k R (gx_L 0, [], zm Z ν) := by
  refine fk_35 0 (zm Z ν) k R ?_
  have st := zNew_S h
  refine wz_i1 (zS_t st) (wz_i0 (zS_o st (by decide)) ?_)
  refine wz_i1 (zS_t st) (wz_i0 (zS_o st (by decide)) ?_)
  have g1 := zI_f h.1 200 0 0 1
  have g2 := zI_f h.1 200 0 0 2
  obtain ⟨Z2, ν2, v, E, hP, hq, hE0, st2, hs2⟩ := lw_truck h g1 g2
  refine wz_cI_of hq ?_
  refine wz_i1 (zS_t st2) (wz_i0 (zS_o st2 (by decide)) ?_)
  refine wz_i1 (zS_t st2) (wz_i0 (zS_o st2 (by decide)) ?_)
  have f1 := zI_f st2.1 200 0 0 1
  have f2 := zI_f st2.1 200 0 0 2
  obtain ⟨Z3, ν3, w, t, hP2, hq2, ht, hI3, hK3, hN3⟩ := sg_539 st2.1 st2.2.1 f1 f2 (fun _ => st2.2.2.2.1)
  refine wz_cI_of hq2 ?_
  rw [hs2 1, hs2 2] at hP2
  obtain ⟨c1, c2, c3⟩ := cm_truck g1 g2 hP hP2
  have hend : zEnd ν3 := ⟨⟨(hN3.2.2.1 0 (by have := st2.2.2.1.2; omega)).trans st2.2.2.1.1, by have := st2.2.2.1.2; have := hN3.2.2.2.1; omega⟩, by have := st2.2.2.2.2.1; have := hN3.2.2.2.2.1; omega, by have := st2.2.2.2.2.2; have := hN3.2.2.2.2.2; omega⟩
  refine wz_i1 (decide_eq_true (show i3 (Z3 1 0 0 2) = i3 (tcL [(13, 1), (15, 2)] E) by rw [ht, c1]; rfl)) ?_
  rcases c3 with rfl | rfl | rfl
  · refine wz_i0 (by decide) (wz_i1 (decide_eq_true ?_) (hk _ _ _ _ hend))
    have e1 : qz_lm (zm Z3 ν3) 71 0 0 0 = (i3 v).toInt64 := (hN3.1 71 0 0 0 (by decide)).trans (hE0 rfl)
    rw [e1, c2 rfl]
    exact lg_self _
  · exact wz_i1 (by decide) (hk _ _ _ _ hend)
  · exact wz_i1 (by decide) (hk _ _ _ _ hend)

/- load -/
theorem lw_load {Z : qz_Z} {ν : qz_N} (h : zNew Z ν) {a1 : Int} (g1 : -2147483648 ≤ a1 ∧ a1 ≤ 2147483647) {a2 : Int} (g2 : -2147483648 ≤ a2 ∧ a2 ≤ 2147483647) : ∃ (Z2 : qz_Z) (ν2 : qz_N) (v E : Int), (v, E) = zg_215 a1 a2 ∧ qf_594 [.inr (.inr (some (0, 0, 0))), .inl (i3 a1), .inl (i3 a2), .inr (.inr (some (71, 0, 0)))] (zm Z ν) = some (zm Z2 ν2, .inl (some (.inl (i3 (tcL [(24, 1), (15, 2)] E))))) ∧ zW Z ν v E Z2 ν2 := by
  refine wrap_ok (hs := [(24, 1), (15, 2)]) (WS := []) h.2.2.1 h.2.2.2.1 h.2.2.2.2 (zF_m h.2.1) (fun R hR => fv_594 (i3 a1) (i3 a2) _ R hR) (sg_215 h.1 h.2.1 g1 g2) (fun v E he => ?_) (by decide) (by decide)
  obtain ⟨-, -, c3⟩ := cm_load g1 g2 he (w := (zg_426 a1 a2).1) (t := (zg_426 a1 a2).2) rfl
  rcases c3 with c3 | c3 | c3
  · exact .inl c3
  · exact .inr ⟨(24, 1), by decide, c3⟩
  · exact .inr ⟨(15, 2), by decide, c3⟩
theorem lc_36 {Z : qz_Z} {ν : qz_N} (h : zNew Z ν) {k : wz_K} {R : wz_R} (hk : ∀ Z3 ν3 v2 v4, zEnd ν3 → k 28 ([some (.inr (.inr (some (200, 0, 0)))), some (.inr (.inr (some (0, 0, 0)))), some (.inr (.inr (some (1, 0, 0)))), some (.inr (.inr (some (71, 0, 0)))), some (.inl (0 : Int32)), some (.inl v2), some (.inl v4), none], [], zm Z3 ν3)) : gx_36 k R (gx_L 0, [], zm Z ν) := by
  refine fk_36 0 (zm Z ν) k R ?_
  have st := zNew_S h
  refine wz_i1 (zS_t st) (wz_i0 (zS_o st (by decide)) ?_)
  refine wz_i1 (zS_t st) (wz_i0 (zS_o st (by decide)) ?_)
  have g1 := zI_f h.1 200 0 0 1
  have g2 := zI_f h.1 200 0 0 2
  obtain ⟨Z2, ν2, v, E, hP, hq, hE0, st2, hs2⟩ := lw_load h g1 g2
  refine wz_cI_of hq ?_
  refine wz_i1 (zS_t st2) (wz_i0 (zS_o st2 (by decide)) ?_)
  refine wz_i1 (zS_t st2) (wz_i0 (zS_o st2 (by decide)) ?_)
  have f1 := zI_f st2.1 200 0 0 1
  have f2 := zI_f st2.1 200 0 0 2
  obtain ⟨Z3, ν3, w, t, hP2, hq2, ht, hI3, hK3, hN3⟩ := sg_426 st2.1 st2.2.1 f1 f2
  refine wz_cI_of hq2 ?_
  rw [hs2 1, hs2 2] at hP2
  obtain ⟨c1, c2, c3⟩ := cm_load g1 g2 hP hP2
  have hend : zEnd ν3 := ⟨⟨(hN3.2.2.1 0 (by have := st2.2.2.1.2; omega)).trans st2.2.2.1.1, by have := st2.2.2.1.2; have := hN3.2.2.2.1; omega⟩, by have := st2.2.2.2.2.1; have := hN3.2.2.2.2.1; omega, by have := st2.2.2.2.2.2; have := hN3.2.2.2.2.2; omega⟩
  refine wz_i1 (decide_eq_true (show i3 (Z3 1 0 0 2) = i3 (tcL [(24, 1), (15, 2)] E) by rw [ht, c1]; rfl)) ?_
  rcases c3 with rfl | rfl | rfl
  · refine wz_i0 (by decide) (wz_i1 (decide_eq_true ?_) (hk _ _ _ _ hend))
    have e1 : qz_lm (zm Z3 ν3) 71 0 0 0 = (i3 v).toInt64 := (hN3.1 71 0 0 0 (by decide)).trans (hE0 rfl)
    rw [e1, c2 rfl]
    exact lg_self _
  · exact wz_i1 (by decide) (hk _ _ _ _ hend)
  · exact wz_i1 (by decide) (hk _ _ _ _ hend)

/- send -/
theorem lw_send {Z : qz_Z} {ν : qz_N} (h : zNew Z ν) {a1 : Int} (g1 : -2147483648 ≤ a1 ∧ a1 ≤ 2147483647) {a2 : Int} (g2 : -2147483648 ≤ a2 ∧ a2 ≤ 2147483647) : ∃ (Z2 : qz_Z) (ν2 : qz_N) (v E : Int), (v, E) = zg_239 a1 a2 ∧ qf_617 [.inr (.inr (some (0, 0, 0))), .inl (i3 a1), .inl (i3 a2), .inr (.inr (some (71, 0, 0)))] (zm Z ν) = some (zm Z2 ν2, .inl (some (.inl (i3 (tcL [(24, 1), (13, 2), (15, 3)] E))))) ∧ zW Z ν v E Z2 ν2 := by
  refine wrap_ok (hs := [(24, 1), (13, 2), (15, 3)]) (WS := []) h.2.2.1 h.2.2.2.1 h.2.2.2.2 (zF_m h.2.1) (fun R hR => fv_617 (i3 a1) (i3 a2) _ R hR) (sg_239 h.1 h.2.1 g1 g2) (fun v E he => ?_) (by decide) (by decide)
  obtain ⟨-, -, c3⟩ := cm_send g1 g2 he (w := (zg_499 a1 a2).1) (t := (zg_499 a1 a2).2) rfl
  rcases c3 with c3 | c3 | c3 | c3
  · exact .inl c3
  · exact .inr ⟨(24, 1), by decide, c3⟩
  · exact .inr ⟨(13, 2), by decide, c3⟩
  · exact .inr ⟨(15, 3), by decide, c3⟩
theorem lc_37 {Z : qz_Z} {ν : qz_N} (h : zNew Z ν) {k : wz_K} {R : wz_R} (hk : ∀ Z3 ν3 v2 v4, zEnd ν3 → k 27 ([some (.inr (.inr (some (200, 0, 0)))), some (.inr (.inr (some (0, 0, 0)))), some (.inr (.inr (some (1, 0, 0)))), some (.inr (.inr (some (71, 0, 0)))), some (.inl (0 : Int32)), some (.inl v2), some (.inl v4), none], [], zm Z3 ν3)) : gx_37 k R (gx_L 0, [], zm Z ν) := by
  refine fk_37 0 (zm Z ν) k R ?_
  have st := zNew_S h
  refine wz_i1 (zS_t st) (wz_i0 (zS_o st (by decide)) ?_)
  refine wz_i1 (zS_t st) (wz_i0 (zS_o st (by decide)) ?_)
  have g1 := zI_f h.1 200 0 0 1
  have g2 := zI_f h.1 200 0 0 2
  obtain ⟨Z2, ν2, v, E, hP, hq, hE0, st2, hs2⟩ := lw_send h g1 g2
  refine wz_cI_of hq ?_
  refine wz_i1 (zS_t st2) (wz_i0 (zS_o st2 (by decide)) ?_)
  refine wz_i1 (zS_t st2) (wz_i0 (zS_o st2 (by decide)) ?_)
  have f1 := zI_f st2.1 200 0 0 1
  have f2 := zI_f st2.1 200 0 0 2
  obtain ⟨Z3, ν3, w, t, hP2, hq2, ht, hI3, hK3, hN3⟩ := sg_499 st2.1 st2.2.1 f1 f2
  refine wz_cI_of hq2 ?_
  rw [hs2 1, hs2 2] at hP2
  obtain ⟨c1, c2, c3⟩ := cm_send g1 g2 hP hP2
  have hend : zEnd ν3 := ⟨⟨(hN3.2.2.1 0 (by have := st2.2.2.1.2; omega)).trans st2.2.2.1.1, by have := st2.2.2.1.2; have := hN3.2.2.2.1; omega⟩, by have := st2.2.2.2.2.1; have := hN3.2.2.2.2.1; omega, by have := st2.2.2.2.2.2; have := hN3.2.2.2.2.2; omega⟩
  refine wz_i1 (decide_eq_true (show i3 (Z3 1 0 0 2) = i3 (tcL [(24, 1), (13, 2), (15, 3)] E) by rw [ht, c1]; rfl)) ?_
  rcases c3 with rfl | rfl | rfl | rfl
  · refine wz_i0 (by decide) (wz_i1 (decide_eq_true ?_) (hk _ _ _ _ hend))
    have e1 : qz_lm (zm Z3 ν3) 71 0 0 0 = (i3 v).toInt64 := (hN3.1 71 0 0 0 (by decide)).trans (hE0 rfl)
    rw [e1, c2 rfl]
    exact lg_self _
  · exact wz_i1 (by decide) (hk _ _ _ _ hend)
  · exact wz_i1 (by decide) (hk _ _ _ _ hend)
  · exact wz_i1 (by decide) (hk _ _ _ _ hend)

/- haul -/
theorem lw_haul {Z : qz_Z} {ν : qz_N} (h : zNew Z ν) {a1 : Int} (g1 : -2147483648 ≤ a1 ∧ a1 ≤ 2147483647) {a2 : Int} (g2 : -2147483648 ≤ a2 ∧ a2 ≤ 2147483647) : ∃ (Z2 : qz_Z) (ν2 : qz_N) (v E : Int), (v, E) = zg_207 a1 a2 ∧ qf_589 [.inr (.inr (some (0, 0, 0))), .inl (i3 a1), .inl (i3 a2), .inr (.inr (some (71, 0, 0)))] (zm Z ν) = some (zm Z2 ν2, .inl (some (.inl (i3 (tcL [(24, 1), (13, 2)] E))))) ∧ zW Z ν v E Z2 ν2 := by
  refine wrap_ok (hs := [(24, 1), (13, 2)]) (WS := []) h.2.2.1 h.2.2.2.1 h.2.2.2.2 (zF_m h.2.1) (fun R hR => fv_589 (i3 a1) (i3 a2) _ R hR) (sg_207 h.1 h.2.1 g1 g2) (fun v E he => ?_) (by decide) (by decide)
  obtain ⟨-, -, c3⟩ := cm_haul g1 g2 he (w := (zg_350 a1 a2).1) (t := (zg_350 a1 a2).2) rfl
  rcases c3 with c3 | c3 | c3
  · exact .inl c3
  · exact .inr ⟨(24, 1), by decide, c3⟩
  · exact .inr ⟨(13, 2), by decide, c3⟩
theorem lc_38 {Z : qz_Z} {ν : qz_N} (h : zNew Z ν) {k : wz_K} {R : wz_R} (hk : ∀ Z3 ν3 v2 v4, zEnd ν3 → k 26 ([some (.inr (.inr (some (200, 0, 0)))), some (.inr (.inr (some (0, 0, 0)))), some (.inr (.inr (some (1, 0, 0)))), some (.inr (.inr (some (71, 0, 0)))), some (.inl (0 : Int32)), some (.inl v2), some (.inl v4), none], [], zm Z3 ν3)) : gx_38 k R (gx_L 0, [], zm Z ν) := by
  refine fk_38 0 (zm Z ν) k R ?_
  have st := zNew_S h
  refine wz_i1 (zS_t st) (wz_i0 (zS_o st (by decide)) ?_)
  refine wz_i1 (zS_t st) (wz_i0 (zS_o st (by decide)) ?_)
  have g1 := zI_f h.1 200 0 0 1
  have g2 := zI_f h.1 200 0 0 2
  obtain ⟨Z2, ν2, v, E, hP, hq, hE0, st2, hs2⟩ := lw_haul h g1 g2
  refine wz_cI_of hq ?_
  refine wz_i1 (zS_t st2) (wz_i0 (zS_o st2 (by decide)) ?_)
  refine wz_i1 (zS_t st2) (wz_i0 (zS_o st2 (by decide)) ?_)
  have f1 := zI_f st2.1 200 0 0 1
  have f2 := zI_f st2.1 200 0 0 2
  obtain ⟨Z3, ν3, w, t, hP2, hq2, ht, hI3, hK3, hN3⟩ := sg_350 st2.1 st2.2.1 f1 f2
  refine wz_cI_of hq2 ?_
  rw [hs2 1, hs2 2] at hP2
  obtain ⟨c1, c2, c3⟩ := cm_haul g1 g2 hP hP2
  have hend : zEnd ν3 := ⟨⟨(hN3.2.2.1 0 (by have := st2.2.2.1.2; omega)).trans st2.2.2.1.1, by have := st2.2.2.1.2; have := hN3.2.2.2.1; omega⟩, by have := st2.2.2.2.2.1; have := hN3.2.2.2.2.1; omega, by have := st2.2.2.2.2.2; have := hN3.2.2.2.2.2; omega⟩
  refine wz_i1 (decide_eq_true (show i3 (Z3 1 0 0 2) = i3 (tcL [(24, 1), (13, 2)] E) by rw [ht, c1]; rfl)) ?_
  rcases c3 with rfl | rfl | rfl
  · refine wz_i0 (by decide) (wz_i1 (decide_eq_true ?_) (hk _ _ _ _ hend))
    have e1 : qz_lm (zm Z3 ν3) 71 0 0 0 = (i3 v).toInt64 := (hN3.1 71 0 0 0 (by decide)).trans (hE0 rfl)
    rw [e1, c2 rfl]
    exact lg_self _
  · exact wz_i1 (by decide) (hk _ _ _ _ hend)
  · exact wz_i1 (by decide) (hk _ _ _ _ hend)

/- parcel -/
theorem lw_parcel {Z : qz_Z} {ν : qz_N} (h : zNew Z ν) {a1 : Int} (g1 : -2147483648 ≤ a1 ∧ a1 ≤ 2147483647) {a2 : Int} (g2 : -2147483648 ≤ a2 ∧ a2 ≤ 2147483647) : ∃ (Z2 : qz_Z) (ν2 : qz_N) (v E : Int), (v, E) = zg_226 a1 a2 ∧ qf_605 [.inr (.inr (some (0, 0, 0))), .inl (i3 a1), .inl (i3 a2), .inr (.inr (some (71, 0, 0)))] (zm Z ν) = some (zm Z2 ν2, .inl (some (.inl (i3 (tcL [(24, 1), (13, 2)] E))))) ∧ zW Z ν v E Z2 ν2 := by
  refine wrap_ok (hs := [(24, 1), (13, 2)]) (WS := []) h.2.2.1 h.2.2.2.1 h.2.2.2.2 (zF_m h.2.1) (fun R hR => fv_605 (i3 a1) (i3 a2) _ R hR) (sg_226 h.1 h.2.1 g1 g2) (fun v E he => ?_) (by decide) (by decide)
  obtain ⟨-, -, c3⟩ := cm_parcel g1 g2 he (w := (zg_449 a1 a2).1) (t := (zg_449 a1 a2).2) rfl
  rcases c3 with c3 | c3 | c3
  · exact .inl c3
  · exact .inr ⟨(24, 1), by decide, c3⟩
  · exact .inr ⟨(13, 2), by decide, c3⟩
theorem lc_39 {Z : qz_Z} {ν : qz_N} (h : zNew Z ν) {k : wz_K} {R : wz_R} (hk : ∀ Z3 ν3 v2 v4, zEnd ν3 → k 25 ([some (.inr (.inr (some (200, 0, 0)))), some (.inr (.inr (some (0, 0, 0)))), some (.inr (.inr (some (1, 0, 0)))), some (.inr (.inr (some (71, 0, 0)))), some (.inl (0 : Int32)), some (.inl v2), some (.inl v4), none], [], zm Z3 ν3)) : gx_39 k R (gx_L 0, [], zm Z ν) := by
  refine fk_39 0 (zm Z ν) k R ?_
  have st := zNew_S h
  refine wz_i1 (zS_t st) (wz_i0 (zS_o st (by decide)) ?_)
  refine wz_i1 (zS_t st) (wz_i0 (zS_o st (by decide)) ?_)
  have g1 := zI_f h.1 200 0 0 1
  have g2 := zI_f h.1 200 0 0 2
  obtain ⟨Z2, ν2, v, E, hP, hq, hE0, st2, hs2⟩ := lw_parcel h g1 g2
  refine wz_cI_of hq ?_
  refine wz_i1 (zS_t st2) (wz_i0 (zS_o st2 (by decide)) ?_)
  refine wz_i1 (zS_t st2) (wz_i0 (zS_o st2 (by decide)) ?_)
  have f1 := zI_f st2.1 200 0 0 1
  have f2 := zI_f st2.1 200 0 0 2
  obtain ⟨Z3, ν3, w, t, hP2, hq2, ht, hI3, hK3, hN3⟩ := sg_449 st2.1 st2.2.1 f1 f2
  refine wz_cI_of hq2 ?_
  rw [hs2 1, hs2 2] at hP2
  obtain ⟨c1, c2, c3⟩ := cm_parcel g1 g2 hP hP2
  have hend : zEnd ν3 := ⟨⟨(hN3.2.2.1 0 (by have := st2.2.2.1.2; omega)).trans st2.2.2.1.1, by have := st2.2.2.1.2; have := hN3.2.2.2.1; omega⟩, by have := st2.2.2.2.2.1; have := hN3.2.2.2.2.1; omega, by have := st2.2.2.2.2.2; have := hN3.2.2.2.2.2; omega⟩
  refine wz_i1 (decide_eq_true (show i3 (Z3 1 0 0 2) = i3 (tcL [(24, 1), (13, 2)] E) by rw [ht, c1]; rfl)) ?_
  rcases c3 with rfl | rfl | rfl
  · refine wz_i0 (by decide) (wz_i1 (decide_eq_true ?_) (hk _ _ _ _ hend))
    have e1 : qz_lm (zm Z3 ν3) 71 0 0 0 = (i3 v).toInt64 := (hN3.1 71 0 0 0 (by decide)).trans (hE0 rfl)
    rw [e1, c2 rfl]
    exact lg_self _
  · exact wz_i1 (by decide) (hk _ _ _ _ hend)
  · exact wz_i1 (by decide) (hk _ _ _ _ hend)

/- trip -/
theorem lw_trip {Z : qz_Z} {ν : qz_N} (h : zNew Z ν) {a1 : Int} (g1 : -2147483648 ≤ a1 ∧ a1 ≤ 2147483647) {a2 : Int} (g2 : -2147483648 ≤ a2 ∧ a2 ≤ 2147483647) : ∃ (Z2 : qz_Z) (ν2 : qz_N) (v E : Int), (v, E) = zg_250 a1 a2 ∧ qf_626 [.inr (.inr (some (0, 0, 0))), .inl (i3 a1), .inl (i3 a2), .inr (.inr (some (71, 0, 0)))] (zm Z ν) = some (zm Z2 ν2, .inl (some (.inl (i3 (tcL [(24, 1), (13, 2)] E))))) ∧ zW Z ν v E Z2 ν2 := by
  refine wrap_ok (hs := [(24, 1), (13, 2)]) (WS := []) h.2.2.1 h.2.2.2.1 h.2.2.2.2 (zF_m h.2.1) (fun R hR => fv_626 (i3 a1) (i3 a2) _ R hR) (sg_250 h.1 h.2.1 g1 g2) (fun v E he => ?_) (by decide) (by decide)
  obtain ⟨-, -, c3⟩ := cm_trip g1 g2 he (w := (zg_538 a1 a2).1) (t := (zg_538 a1 a2).2) rfl
  rcases c3 with c3 | c3 | c3
  · exact .inl c3
  · exact .inr ⟨(24, 1), by decide, c3⟩
  · exact .inr ⟨(13, 2), by decide, c3⟩
theorem lc_40 {Z : qz_Z} {ν : qz_N} (h : zNew Z ν) {k : wz_K} {R : wz_R} (hk : ∀ Z3 ν3 v2 v4, zEnd ν3 → k 24 ([some (.inr (.inr (some (200, 0, 0)))), some (.inr (.inr (some (0, 0, 0)))), some (.inr (.inr (some (1, 0, 0)))), some (.inr (.inr (some (71, 0, 0)))), some (.inl (0 : Int32)), some (.inl v2), some (.inl v4), none], [], zm Z3 ν3)) : gx_40 k R (gx_L 0, [], zm Z ν) := by
  refine fk_40 0 (zm Z ν) k R ?_
  have st := zNew_S h
  refine wz_i1 (zS_t st) (wz_i0 (zS_o st (by decide)) ?_)
  refine wz_i1 (zS_t st) (wz_i0 (zS_o st (by decide)) ?_)
  have g1 := zI_f h.1 200 0 0 1
  have g2 := zI_f h.1 200 0 0 2
  obtain ⟨Z2, ν2, v, E, hP, hq, hE0, st2, hs2⟩ := lw_trip h g1 g2
  refine wz_cI_of hq ?_
  refine wz_i1 (zS_t st2) (wz_i0 (zS_o st2 (by decide)) ?_)
  refine wz_i1 (zS_t st2) (wz_i0 (zS_o st2 (by decide)) ?_)
  have f1 := zI_f st2.1 200 0 0 1
  have f2 := zI_f st2.1 200 0 0 2
  obtain ⟨Z3, ν3, w, t, hP2, hq2, ht, hI3, hK3, hN3⟩ := sg_538 st2.1 st2.2.1 f1 f2
  refine wz_cI_of hq2 ?_
  rw [hs2 1, hs2 2] at hP2
  obtain ⟨c1, c2, c3⟩ := cm_trip g1 g2 hP hP2
  have hend : zEnd ν3 := ⟨⟨(hN3.2.2.1 0 (by have := st2.2.2.1.2; omega)).trans st2.2.2.1.1, by have := st2.2.2.1.2; have := hN3.2.2.2.1; omega⟩, by have := st2.2.2.2.2.1; have := hN3.2.2.2.2.1; omega, by have := st2.2.2.2.2.2; have := hN3.2.2.2.2.2; omega⟩
  refine wz_i1 (decide_eq_true (show i3 (Z3 1 0 0 2) = i3 (tcL [(24, 1), (13, 2)] E) by rw [ht, c1]; rfl)) ?_
  rcases c3 with rfl | rfl | rfl
  · refine wz_i0 (by decide) (wz_i1 (decide_eq_true ?_) (hk _ _ _ _ hend))
    have e1 : qz_lm (zm Z3 ν3) 71 0 0 0 = (i3 v).toInt64 := (hN3.1 71 0 0 0 (by decide)).trans (hE0 rfl)
    rw [e1, c2 rfl]
    exact lg_self _
  · exact wz_i1 (by decide) (hk _ _ _ _ hend)
  · exact wz_i1 (by decide) (hk _ _ _ _ hend)

/- fewest -/
theorem lw_fewest {Z : qz_Z} {ν : qz_N} (h : zNew Z ν) {a1 : Int} (g1 : -2147483648 ≤ a1 ∧ a1 ≤ 2147483647) {a2 : Int} (g2 : -2147483648 ≤ a2 ∧ a2 ≤ 2147483647) : ∃ (Z2 : qz_Z) (ν2 : qz_N) (v E : Int), (v, E) = zg_200 a1 a2 ∧ qf_582 [.inr (.inr (some (0, 0, 0))), .inl (i3 a1), .inl (i3 a2), .inr (.inr (some (71, 0, 0)))] (zm Z ν) = some (zm Z2 ν2, .inl (some (.inl (i3 (tcL [(24, 1), (13, 2), (15, 3)] E))))) ∧ zW Z ν v E Z2 ν2 := by
  refine wrap_ok (hs := [(24, 1), (13, 2), (15, 3)]) (WS := [70]) h.2.2.1 h.2.2.2.1 h.2.2.2.2 (zF_m h.2.1) (fun R hR => fv_582 (i3 a1) (i3 a2) _ R hR) (sg_200 h.1 h.2.1 g1 g2) (fun v E he => ?_) (by decide) (by decide)
  obtain ⟨-, -, c3⟩ := cm_fewest g1 g2 he (w := (zg_341 a1 a2).1) (t := (zg_341 a1 a2).2) rfl
  rcases c3 with c3 | c3 | c3 | c3
  · exact .inl c3
  · exact .inr ⟨(24, 1), by decide, c3⟩
  · exact .inr ⟨(13, 2), by decide, c3⟩
  · exact .inr ⟨(15, 3), by decide, c3⟩
theorem lc_41 {Z : qz_Z} {ν : qz_N} (h : zNew Z ν) {k : wz_K} {R : wz_R} (hk : ∀ Z3 ν3 v2 v4, zEnd ν3 → k 23 ([some (.inr (.inr (some (200, 0, 0)))), some (.inr (.inr (some (0, 0, 0)))), some (.inr (.inr (some (1, 0, 0)))), some (.inr (.inr (some (71, 0, 0)))), some (.inl (0 : Int32)), some (.inl v2), some (.inl v4), none], [], zm Z3 ν3)) : gx_41 k R (gx_L 0, [], zm Z ν) := by
  refine fk_41 0 (zm Z ν) k R ?_
  have st := zNew_S h
  refine wz_i1 (zS_t st) (wz_i0 (zS_o st (by decide)) ?_)
  refine wz_i1 (zS_t st) (wz_i0 (zS_o st (by decide)) ?_)
  have g1 := zI_f h.1 200 0 0 1
  have g2 := zI_f h.1 200 0 0 2
  obtain ⟨Z2, ν2, v, E, hP, hq, hE0, st2, hs2⟩ := lw_fewest h g1 g2
  refine wz_cI_of hq ?_
  refine wz_i1 (zS_t st2) (wz_i0 (zS_o st2 (by decide)) ?_)
  refine wz_i1 (zS_t st2) (wz_i0 (zS_o st2 (by decide)) ?_)
  have f1 := zI_f st2.1 200 0 0 1
  have f2 := zI_f st2.1 200 0 0 2
  obtain ⟨Z3, ν3, w, t, hP2, hq2, ht, hI3, hK3, hN3⟩ := sg_341 st2.1 st2.2.1 f1 f2
  refine wz_cI_of hq2 ?_
  rw [hs2 1, hs2 2] at hP2
  obtain ⟨c1, c2, c3⟩ := cm_fewest g1 g2 hP hP2
  have hend : zEnd ν3 := ⟨⟨(hN3.2.2.1 0 (by have := st2.2.2.1.2; omega)).trans st2.2.2.1.1, by have := st2.2.2.1.2; have := hN3.2.2.2.1; omega⟩, by have := st2.2.2.2.2.1; have := hN3.2.2.2.2.1; omega, by have := st2.2.2.2.2.2; have := hN3.2.2.2.2.2; omega⟩
  refine wz_i1 (decide_eq_true (show i3 (Z3 1 0 0 2) = i3 (tcL [(24, 1), (13, 2), (15, 3)] E) by rw [ht, c1]; rfl)) ?_
  rcases c3 with rfl | rfl | rfl | rfl
  · refine wz_i0 (by decide) (wz_i1 (decide_eq_true ?_) (hk _ _ _ _ hend))
    have e1 : qz_lm (zm Z3 ν3) 71 0 0 0 = (i3 v).toInt64 := (hN3.1 71 0 0 0 (by decide)).trans (hE0 rfl)
    rw [e1, c2 rfl]
    exact lg_self _
  · exact wz_i1 (by decide) (hk _ _ _ _ hend)
  · exact wz_i1 (by decide) (hk _ _ _ _ hend)
  · exact wz_i1 (by decide) (hk _ _ _ _ hend)

/- inspector -/
theorem lw_inspector {Z : qz_Z} {ν : qz_N} (h : zNew Z ν) {a1 : Int} (g1 : -2147483648 ≤ a1 ∧ a1 ≤ 2147483647) {a2 : Int} (g2 : -2147483648 ≤ a2 ∧ a2 ≤ 2147483647) : ∃ (Z2 : qz_Z) (ν2 : qz_N) (v E : Int), (v, E) = zg_211 a1 a2 ∧ qf_590 [.inr (.inr (some (0, 0, 0))), .inl (i3 a1), .inl (i3 a2), .inr (.inr (some (71, 0, 0)))] (zm Z ν) = some (zm Z2 ν2, .inl (some (.inl (i3 (tcL [(13, 1), (15, 2)] E))))) ∧ zW Z ν v E Z2 ν2 := by
  refine wrap_ok (hs := [(13, 1), (15, 2)]) (WS := [3, 11, 12, 13, 14, 40, 41, 42, 43, 44, 45, 46, 47, 48, 49, 50, 51, 52, 53, 54, 61, 68]) h.2.2.1 h.2.2.2.1 h.2.2.2.2 (zF_m h.2.1) (fun R hR => fv_590 (i3 a1) (i3 a2) _ R hR) (sg_211 h.1 h.2.1 g1 g2) (fun v E he => ?_) (by decide) (by decide)
  obtain ⟨-, -, c3⟩ := cm_inspector g1 g2 he (w := (zg_377 a1 a2).1) (t := (zg_377 a1 a2).2) rfl
  rcases c3 with c3 | c3 | c3
  · exact .inl c3
  · exact .inr ⟨(13, 1), by decide, c3⟩
  · exact .inr ⟨(15, 2), by decide, c3⟩
theorem lc_42 {Z : qz_Z} {ν : qz_N} (h : zNew Z ν) {k : wz_K} {R : wz_R} (hk : ∀ Z3 ν3 v2 v4, zEnd ν3 → k 22 ([some (.inr (.inr (some (200, 0, 0)))), some (.inr (.inr (some (0, 0, 0)))), some (.inr (.inr (some (1, 0, 0)))), some (.inr (.inr (some (71, 0, 0)))), some (.inl (0 : Int32)), some (.inl v2), some (.inl v4), none], [], zm Z3 ν3)) : gx_42 k R (gx_L 0, [], zm Z ν) := by
  refine fk_42 0 (zm Z ν) k R ?_
  have st := zNew_S h
  refine wz_i1 (zS_t st) (wz_i0 (zS_o st (by decide)) ?_)
  refine wz_i1 (zS_t st) (wz_i0 (zS_o st (by decide)) ?_)
  have g1 := zI_f h.1 200 0 0 1
  have g2 := zI_f h.1 200 0 0 2
  obtain ⟨Z2, ν2, v, E, hP, hq, hE0, st2, hs2⟩ := lw_inspector h g1 g2
  refine wz_cI_of hq ?_
  refine wz_i1 (zS_t st2) (wz_i0 (zS_o st2 (by decide)) ?_)
  refine wz_i1 (zS_t st2) (wz_i0 (zS_o st2 (by decide)) ?_)
  have f1 := zI_f st2.1 200 0 0 1
  have f2 := zI_f st2.1 200 0 0 2
  obtain ⟨Z3, ν3, w, t, hP2, hq2, ht, hI3, hK3, hN3⟩ := sg_377 st2.1 st2.2.1 f1 f2 (fun _ => st2.2.2.2.1)
  refine wz_cI_of hq2 ?_
  rw [hs2 1, hs2 2] at hP2
  obtain ⟨c1, c2, c3⟩ := cm_inspector g1 g2 hP hP2
  have hend : zEnd ν3 := ⟨⟨(hN3.2.2.1 0 (by have := st2.2.2.1.2; omega)).trans st2.2.2.1.1, by have := st2.2.2.1.2; have := hN3.2.2.2.1; omega⟩, by have := st2.2.2.2.2.1; have := hN3.2.2.2.2.1; omega, by have := st2.2.2.2.2.2; have := hN3.2.2.2.2.2; omega⟩
  refine wz_i1 (decide_eq_true (show i3 (Z3 1 0 0 2) = i3 (tcL [(13, 1), (15, 2)] E) by rw [ht, c1]; rfl)) ?_
  rcases c3 with rfl | rfl | rfl
  · refine wz_i0 (by decide) (wz_i1 (decide_eq_true ?_) (hk _ _ _ _ hend))
    have e1 : qz_lm (zm Z3 ν3) 71 0 0 0 = (i3 v).toInt64 := (hN3.1 71 0 0 0 (by decide)).trans (hE0 rfl)
    rw [e1, c2 rfl]
    exact lg_self _
  · exact wz_i1 (by decide) (hk _ _ _ _ hend)
  · exact wz_i1 (by decide) (hk _ _ _ _ hend)

/- round -/
theorem lw_round {Z : qz_Z} {ν : qz_N} (h : zNew Z ν) {a1 : Int} (g1 : -2147483648 ≤ a1 ∧ a1 ≤ 2147483647) {a2 : Int} (g2 : -2147483648 ≤ a2 ∧ a2 ≤ 2147483647) {a3 : Int} (g3 : -2147483648 ≤ a3 ∧ a3 ≤ 2147483647) : ∃ (Z2 : qz_Z) (ν2 : qz_N) (v E : Int), (v, E) = zg_237 a1 a2 a3 ∧ qf_615 [.inr (.inr (some (0, 0, 0))), .inl (i3 a1), .inl (i3 a2), .inl (i3 a3), .inr (.inr (some (71, 0, 0)))] (zm Z ν) = some (zm Z2 ν2, .inl (some (.inl (i3 (tcL [(24, 1), (13, 2)] E))))) ∧ zW Z ν v E Z2 ν2 := by
  refine wrap_ok (hs := [(24, 1), (13, 2)]) (WS := []) h.2.2.1 h.2.2.2.1 h.2.2.2.2 (zF_m h.2.1) (fun R hR => fv_615 (i3 a1) (i3 a2) (i3 a3) _ R hR) (sg_237 h.1 h.2.1 g1 g2 g3) (fun v E he => ?_) (by decide) (by decide)
  obtain ⟨-, -, c3⟩ := cm_round g1 g2 g3 he (w := (zg_496 a1 a2 a3).1) (t := (zg_496 a1 a2 a3).2) rfl
  rcases c3 with c3 | c3 | c3
  · exact .inl c3
  · exact .inr ⟨(24, 1), by decide, c3⟩
  · exact .inr ⟨(13, 2), by decide, c3⟩
theorem lc_43 {Z : qz_Z} {ν : qz_N} (h : zNew Z ν) {k : wz_K} {R : wz_R} (hk : ∀ Z3 ν3 v2 v4, zEnd ν3 → k 21 ([some (.inr (.inr (some (200, 0, 0)))), some (.inr (.inr (some (0, 0, 0)))), some (.inr (.inr (some (1, 0, 0)))), some (.inr (.inr (some (71, 0, 0)))), some (.inl (0 : Int32)), some (.inl v2), some (.inl v4), none], [], zm Z3 ν3)) : gx_43 k R (gx_L 0, [], zm Z ν) := by
  refine fk_43 0 (zm Z ν) k R ?_
  have st := zNew_S h
  refine wz_i1 (zS_t st) (wz_i0 (zS_o st (by decide)) ?_)
  refine wz_i1 (zS_t st) (wz_i0 (zS_o st (by decide)) ?_)
  refine wz_i1 (zS_t st) (wz_i0 (zS_o st (by decide)) ?_)
  have g1 := zI_f h.1 200 0 0 1
  have g2 := zI_f h.1 200 0 0 2
  have g3 := zI_f h.1 200 0 0 3
  obtain ⟨Z2, ν2, v, E, hP, hq, hE0, st2, hs2⟩ := lw_round h g1 g2 g3
  refine wz_cI_of hq ?_
  refine wz_i1 (zS_t st2) (wz_i0 (zS_o st2 (by decide)) ?_)
  refine wz_i1 (zS_t st2) (wz_i0 (zS_o st2 (by decide)) ?_)
  refine wz_i1 (zS_t st2) (wz_i0 (zS_o st2 (by decide)) ?_)
  have f1 := zI_f st2.1 200 0 0 1
  have f2 := zI_f st2.1 200 0 0 2
  have f3 := zI_f st2.1 200 0 0 3
  obtain ⟨Z3, ν3, w, t, hP2, hq2, ht, hI3, hK3, hN3⟩ := sg_496 st2.1 st2.2.1 f1 f2 f3
  refine wz_cI_of hq2 ?_
  rw [hs2 1, hs2 2, hs2 3] at hP2
  obtain ⟨c1, c2, c3⟩ := cm_round g1 g2 g3 hP hP2
  have hend : zEnd ν3 := ⟨⟨(hN3.2.2.1 0 (by have := st2.2.2.1.2; omega)).trans st2.2.2.1.1, by have := st2.2.2.1.2; have := hN3.2.2.2.1; omega⟩, by have := st2.2.2.2.2.1; have := hN3.2.2.2.2.1; omega, by have := st2.2.2.2.2.2; have := hN3.2.2.2.2.2; omega⟩
  refine wz_i1 (decide_eq_true (show i3 (Z3 1 0 0 2) = i3 (tcL [(24, 1), (13, 2)] E) by rw [ht, c1]; rfl)) ?_
  rcases c3 with rfl | rfl | rfl
  · refine wz_i0 (by decide) (wz_i1 (decide_eq_true ?_) (hk _ _ _ _ hend))
    have e1 : qz_lm (zm Z3 ν3) 71 0 0 0 = (i3 v).toInt64 := (hN3.1 71 0 0 0 (by decide)).trans (hE0 rfl)
    rw [e1, c2 rfl]
    exact lg_self _
  · exact wz_i1 (by decide) (hk _ _ _ _ hend)
  · exact wz_i1 (by decide) (hk _ _ _ _ hend)

/- looked -/
theorem lw_looked {Z : qz_Z} {ν : qz_N} (h : zNew Z ν) {a1 : Int} (g1 : -2147483648 ≤ a1 ∧ a1 ≤ 2147483647) {a2 : Int} (g2 : -2147483648 ≤ a2 ∧ a2 ≤ 2147483647) : ∃ (Z2 : qz_Z) (ν2 : qz_N) (v E : Int), (v, E) = zg_216 a1 a2 ∧ qf_595 [.inr (.inr (some (0, 0, 0))), .inl (i3 a1), .inl (i3 a2), .inr (.inr (some (71, 0, 0)))] (zm Z ν) = some (zm Z2 ν2, .inl (some (.inl (i3 (tcL [(24, 1), (13, 2)] E))))) ∧ zW Z ν v E Z2 ν2 := by
  refine wrap_ok (hs := [(24, 1), (13, 2)]) (WS := []) h.2.2.1 h.2.2.2.1 h.2.2.2.2 (zF_m h.2.1) (fun R hR => fv_595 (i3 a1) (i3 a2) _ R hR) (sg_216 h.1 h.2.1 g1 g2) (fun v E he => ?_) (by decide) (by decide)
  obtain ⟨-, -, c3⟩ := cm_looked g1 g2 he (w := (zg_427 a1 a2).1) (t := (zg_427 a1 a2).2) rfl
  rcases c3 with c3 | c3 | c3
  · exact .inl c3
  · exact .inr ⟨(24, 1), by decide, c3⟩
  · exact .inr ⟨(13, 2), by decide, c3⟩
theorem lc_44 {Z : qz_Z} {ν : qz_N} (h : zNew Z ν) {k : wz_K} {R : wz_R} (hk : ∀ Z3 ν3 v2 v4, zEnd ν3 → k 20 ([some (.inr (.inr (some (200, 0, 0)))), some (.inr (.inr (some (0, 0, 0)))), some (.inr (.inr (some (1, 0, 0)))), some (.inr (.inr (some (71, 0, 0)))), some (.inl (0 : Int32)), some (.inl v2), some (.inl v4), none], [], zm Z3 ν3)) : gx_44 k R (gx_L 0, [], zm Z ν) := by
  refine fk_44 0 (zm Z ν) k R ?_
  have st := zNew_S h
  refine wz_i1 (zS_t st) (wz_i0 (zS_o st (by decide)) ?_)
  refine wz_i1 (zS_t st) (wz_i0 (zS_o st (by decide)) ?_)
  have g1 := zI_f h.1 200 0 0 1
  have g2 := zI_f h.1 200 0 0 2
  obtain ⟨Z2, ν2, v, E, hP, hq, hE0, st2, hs2⟩ := lw_looked h g1 g2
  refine wz_cI_of hq ?_
  refine wz_i1 (zS_t st2) (wz_i0 (zS_o st2 (by decide)) ?_)
  refine wz_i1 (zS_t st2) (wz_i0 (zS_o st2 (by decide)) ?_)
  have f1 := zI_f st2.1 200 0 0 1
  have f2 := zI_f st2.1 200 0 0 2
  obtain ⟨Z3, ν3, w, t, hP2, hq2, ht, hI3, hK3, hN3⟩ := sg_427 st2.1 st2.2.1 f1 f2
  refine wz_cI_of hq2 ?_
  rw [hs2 1, hs2 2] at hP2
  obtain ⟨c1, c2, c3⟩ := cm_looked g1 g2 hP hP2
  have hend : zEnd ν3 := ⟨⟨(hN3.2.2.1 0 (by have := st2.2.2.1.2; omega)).trans st2.2.2.1.1, by have := st2.2.2.1.2; have := hN3.2.2.2.1; omega⟩, by have := st2.2.2.2.2.1; have := hN3.2.2.2.2.1; omega, by have := st2.2.2.2.2.2; have := hN3.2.2.2.2.2; omega⟩
  refine wz_i1 (decide_eq_true (show i3 (Z3 1 0 0 2) = i3 (tcL [(24, 1), (13, 2)] E) by rw [ht, c1]; rfl)) ?_
  rcases c3 with rfl | rfl | rfl
  · refine wz_i0 (by decide) (wz_i1 (decide_eq_true ?_) (hk _ _ _ _ hend))
    have e1 : qz_lm (zm Z3 ν3) 71 0 0 0 = (i3 v).toInt64 := (hN3.1 71 0 0 0 (by decide)).trans (hE0 rfl)
    rw [e1, c2 rfl]
    exact lg_self _
  · exact wz_i1 (by decide) (hk _ _ _ _ hend)
  · exact wz_i1 (by decide) (hk _ _ _ _ hend)

/- found -/
theorem lw_found {Z : qz_Z} {ν : qz_N} (h : zNew Z ν) {a1 : Int} (g1 : -2147483648 ≤ a1 ∧ a1 ≤ 2147483647) {a2 : Int} (g2 : -2147483648 ≤ a2 ∧ a2 ≤ 2147483647) : ∃ (Z2 : qz_Z) (ν2 : qz_N) (v E : Int), (v, E) = zg_201 a1 a2 ∧ qf_583 [.inr (.inr (some (0, 0, 0))), .inl (i3 a1), .inl (i3 a2), .inr (.inr (some (71, 0, 0)))] (zm Z ν) = some (zm Z2 ν2, .inl (some (.inl (i3 (tcL [(24, 1), (13, 2)] E))))) ∧ zW Z ν v E Z2 ν2 := by
  refine wrap_ok (hs := [(24, 1), (13, 2)]) (WS := []) h.2.2.1 h.2.2.2.1 h.2.2.2.2 (zF_m h.2.1) (fun R hR => fv_583 (i3 a1) (i3 a2) _ R hR) (sg_201 h.1 h.2.1 g1 g2) (fun v E he => ?_) (by decide) (by decide)
  obtain ⟨-, -, c3⟩ := cm_found g1 g2 he (w := (zg_342 a1 a2).1) (t := (zg_342 a1 a2).2) rfl
  rcases c3 with c3 | c3 | c3
  · exact .inl c3
  · exact .inr ⟨(24, 1), by decide, c3⟩
  · exact .inr ⟨(13, 2), by decide, c3⟩
theorem lc_45 {Z : qz_Z} {ν : qz_N} (h : zNew Z ν) {k : wz_K} {R : wz_R} (hk : ∀ Z3 ν3 v2 v4, zEnd ν3 → k 19 ([some (.inr (.inr (some (200, 0, 0)))), some (.inr (.inr (some (0, 0, 0)))), some (.inr (.inr (some (1, 0, 0)))), some (.inr (.inr (some (71, 0, 0)))), some (.inl (0 : Int32)), some (.inl v2), some (.inl v4), none], [], zm Z3 ν3)) : gx_45 k R (gx_L 0, [], zm Z ν) := by
  refine fk_45 0 (zm Z ν) k R ?_
  have st := zNew_S h
  refine wz_i1 (zS_t st) (wz_i0 (zS_o st (by decide)) ?_)
  refine wz_i1 (zS_t st) (wz_i0 (zS_o st (by decide)) ?_)
  have g1 := zI_f h.1 200 0 0 1
  have g2 := zI_f h.1 200 0 0 2
  obtain ⟨Z2, ν2, v, E, hP, hq, hE0, st2, hs2⟩ := lw_found h g1 g2
  refine wz_cI_of hq ?_
  refine wz_i1 (zS_t st2) (wz_i0 (zS_o st2 (by decide)) ?_)
  refine wz_i1 (zS_t st2) (wz_i0 (zS_o st2 (by decide)) ?_)
  have f1 := zI_f st2.1 200 0 0 1
  have f2 := zI_f st2.1 200 0 0 2
  obtain ⟨Z3, ν3, w, t, hP2, hq2, ht, hI3, hK3, hN3⟩ := sg_342 st2.1 st2.2.1 f1 f2
  refine wz_cI_of hq2 ?_
  rw [hs2 1, hs2 2] at hP2
  obtain ⟨c1, c2, c3⟩ := cm_found g1 g2 hP hP2
  have hend : zEnd ν3 := ⟨⟨(hN3.2.2.1 0 (by have := st2.2.2.1.2; omega)).trans st2.2.2.1.1, by have := st2.2.2.1.2; have := hN3.2.2.2.1; omega⟩, by have := st2.2.2.2.2.1; have := hN3.2.2.2.2.1; omega, by have := st2.2.2.2.2.2; have := hN3.2.2.2.2.2; omega⟩
  refine wz_i1 (decide_eq_true (show i3 (Z3 1 0 0 2) = i3 (tcL [(24, 1), (13, 2)] E) by rw [ht, c1]; rfl)) ?_
  rcases c3 with rfl | rfl | rfl
  · refine wz_i0 (by decide) (wz_i1 (decide_eq_true ?_) (hk _ _ _ _ hend))
    have e1 : qz_lm (zm Z3 ν3) 71 0 0 0 = (i3 v).toInt64 := (hN3.1 71 0 0 0 (by decide)).trans (hE0 rfl)
    rw [e1, c2 rfl]
    exact lg_self _
  · exact wz_i1 (by decide) (hk _ _ _ _ hend)
  · exact wz_i1 (by decide) (hk _ _ _ _ hend)

/- worst -/
theorem lw_worst {Z : qz_Z} {ν : qz_N} (h : zNew Z ν) {a1 : Int} (g1 : -2147483648 ≤ a1 ∧ a1 ≤ 2147483647) {a2 : Int} (g2 : -2147483648 ≤ a2 ∧ a2 ≤ 2147483647) : ∃ (Z2 : qz_Z) (ν2 : qz_N) (v E : Int), (v, E) = zg_255 a1 a2 ∧ qf_631 [.inr (.inr (some (0, 0, 0))), .inl (i3 a1), .inl (i3 a2), .inr (.inr (some (71, 0, 0)))] (zm Z ν) = some (zm Z2 ν2, .inl (some (.inl (i3 (tcL [(24, 1), (13, 2)] E))))) ∧ zW Z ν v E Z2 ν2 := by
  refine wrap_ok (hs := [(24, 1), (13, 2)]) (WS := []) h.2.2.1 h.2.2.2.1 h.2.2.2.2 (zF_m h.2.1) (fun R hR => fv_631 (i3 a1) (i3 a2) _ R hR) (sg_255 h.1 h.2.1 g1 g2) (fun v E he => ?_) (by decide) (by decide)
  obtain ⟨-, -, c3⟩ := cm_worst g1 g2 he (w := (zg_547 a1 a2).1) (t := (zg_547 a1 a2).2) rfl
  rcases c3 with c3 | c3 | c3
  · exact .inl c3
  · exact .inr ⟨(24, 1), by decide, c3⟩
  · exact .inr ⟨(13, 2), by decide, c3⟩
theorem lc_46 {Z : qz_Z} {ν : qz_N} (h : zNew Z ν) {k : wz_K} {R : wz_R} (hk : ∀ Z3 ν3 v2 v4, zEnd ν3 → k 18 ([some (.inr (.inr (some (200, 0, 0)))), some (.inr (.inr (some (0, 0, 0)))), some (.inr (.inr (some (1, 0, 0)))), some (.inr (.inr (some (71, 0, 0)))), some (.inl (0 : Int32)), some (.inl v2), some (.inl v4), none], [], zm Z3 ν3)) : gx_46 k R (gx_L 0, [], zm Z ν) := by
  refine fk_46 0 (zm Z ν) k R ?_
  have st := zNew_S h
  refine wz_i1 (zS_t st) (wz_i0 (zS_o st (by decide)) ?_)
  refine wz_i1 (zS_t st) (wz_i0 (zS_o st (by decide)) ?_)
  have g1 := zI_f h.1 200 0 0 1
  have g2 := zI_f h.1 200 0 0 2
  obtain ⟨Z2, ν2, v, E, hP, hq, hE0, st2, hs2⟩ := lw_worst h g1 g2
  refine wz_cI_of hq ?_
  refine wz_i1 (zS_t st2) (wz_i0 (zS_o st2 (by decide)) ?_)
  refine wz_i1 (zS_t st2) (wz_i0 (zS_o st2 (by decide)) ?_)
  have f1 := zI_f st2.1 200 0 0 1
  have f2 := zI_f st2.1 200 0 0 2
  obtain ⟨Z3, ν3, w, t, hP2, hq2, ht, hI3, hK3, hN3⟩ := sg_547 st2.1 st2.2.1 f1 f2
  refine wz_cI_of hq2 ?_
  rw [hs2 1, hs2 2] at hP2
  obtain ⟨c1, c2, c3⟩ := cm_worst g1 g2 hP hP2
  have hend : zEnd ν3 := ⟨⟨(hN3.2.2.1 0 (by have := st2.2.2.1.2; omega)).trans st2.2.2.1.1, by have := st2.2.2.1.2; have := hN3.2.2.2.1; omega⟩, by have := st2.2.2.2.2.1; have := hN3.2.2.2.2.1; omega, by have := st2.2.2.2.2.2; have := hN3.2.2.2.2.2; omega⟩
  refine wz_i1 (decide_eq_true (show i3 (Z3 1 0 0 2) = i3 (tcL [(24, 1), (13, 2)] E) by rw [ht, c1]; rfl)) ?_
  rcases c3 with rfl | rfl | rfl
  · refine wz_i0 (by decide) (wz_i1 (decide_eq_true ?_) (hk _ _ _ _ hend))
    have e1 : qz_lm (zm Z3 ν3) 71 0 0 0 = (i3 v).toInt64 := (hN3.1 71 0 0 0 (by decide)).trans (hE0 rfl)
    rw [e1, c2 rfl]
    exact lg_self _
  · exact wz_i1 (by decide) (hk _ _ _ _ hend)
  · exact wz_i1 (by decide) (hk _ _ _ _ hend)

/- tariff -/
theorem lw_tariff {Z : qz_Z} {ν : qz_N} (h : zNew Z ν) {a1 : Int} (g1 : -2147483648 ≤ a1 ∧ a1 ≤ 2147483647) {a2 : Int} (g2 : -2147483648 ≤ a2 ∧ a2 ≤ 2147483647) : ∃ (Z2 : qz_Z) (ν2 : qz_N) (v E : Int), (v, E) = zg_247 a1 a2 ∧ qf_625 [.inr (.inr (some (0, 0, 0))), .inl (i3 a1), .inl (i3 a2), .inr (.inr (some (71, 0, 0)))] (zm Z ν) = some (zm Z2 ν2, .inl (some (.inl (i3 (tcL [(13, 1)] E))))) ∧ zW Z ν v E Z2 ν2 := by
  refine wrap_ok (hs := [(13, 1)]) (WS := [3, 11, 12, 13, 14, 40, 41, 42, 43, 44, 45, 46, 47, 48, 49, 50, 51, 52, 53, 54, 61, 68]) h.2.2.1 h.2.2.2.1 h.2.2.2.2 (zF_m h.2.1) (fun R hR => fv_625 (i3 a1) (i3 a2) _ R hR) (sg_247 h.1 h.2.1 g1 g2) (fun v E he => ?_) (by decide) (by decide)
  obtain ⟨-, -, c3⟩ := cm_tariff g1 g2 he (w := (zg_534 a1 a2).1) (t := (zg_534 a1 a2).2) rfl
  rcases c3 with c3 | c3
  · exact .inl c3
  · exact .inr ⟨(13, 1), by decide, c3⟩
theorem lc_47 {Z : qz_Z} {ν : qz_N} (h : zNew Z ν) {k : wz_K} {R : wz_R} (hk : ∀ Z3 ν3 v2 v4, zEnd ν3 → k 17 ([some (.inr (.inr (some (200, 0, 0)))), some (.inr (.inr (some (0, 0, 0)))), some (.inr (.inr (some (1, 0, 0)))), some (.inr (.inr (some (71, 0, 0)))), some (.inl (0 : Int32)), some (.inl v2), some (.inl v4), none], [], zm Z3 ν3)) : gx_47 k R (gx_L 0, [], zm Z ν) := by
  refine fk_47 0 (zm Z ν) k R ?_
  have st := zNew_S h
  refine wz_i1 (zS_t st) (wz_i0 (zS_o st (by decide)) ?_)
  refine wz_i1 (zS_t st) (wz_i0 (zS_o st (by decide)) ?_)
  have g1 := zI_f h.1 200 0 0 1
  have g2 := zI_f h.1 200 0 0 2
  obtain ⟨Z2, ν2, v, E, hP, hq, hE0, st2, hs2⟩ := lw_tariff h g1 g2
  refine wz_cI_of hq ?_
  refine wz_i1 (zS_t st2) (wz_i0 (zS_o st2 (by decide)) ?_)
  refine wz_i1 (zS_t st2) (wz_i0 (zS_o st2 (by decide)) ?_)
  have f1 := zI_f st2.1 200 0 0 1
  have f2 := zI_f st2.1 200 0 0 2
  obtain ⟨Z3, ν3, w, t, hP2, hq2, ht, hI3, hK3, hN3⟩ := sg_534 st2.1 st2.2.1 f1 f2 (fun _ => st2.2.2.2.1)
  refine wz_cI_of hq2 ?_
  rw [hs2 1, hs2 2] at hP2
  obtain ⟨c1, c2, c3⟩ := cm_tariff g1 g2 hP hP2
  have hend : zEnd ν3 := ⟨⟨(hN3.2.2.1 0 (by have := st2.2.2.1.2; omega)).trans st2.2.2.1.1, by have := st2.2.2.1.2; have := hN3.2.2.2.1; omega⟩, by have := st2.2.2.2.2.1; have := hN3.2.2.2.2.1; omega, by have := st2.2.2.2.2.2; have := hN3.2.2.2.2.2; omega⟩
  refine wz_i1 (decide_eq_true (show i3 (Z3 1 0 0 2) = i3 (tcL [(13, 1)] E) by rw [ht, c1]; rfl)) ?_
  rcases c3 with rfl | rfl
  · refine wz_i0 (by decide) (wz_i1 (decide_eq_true ?_) (hk _ _ _ _ hend))
    have e1 : qz_lm (zm Z3 ν3) 71 0 0 0 = (i3 v).toInt64 := (hN3.1 71 0 0 0 (by decide)).trans (hE0 rfl)
    rw [e1, c2 rfl]
    exact lg_self _
  · exact wz_i1 (by decide) (hk _ _ _ _ hend)

/- account -/
theorem lw_account {Z : qz_Z} {ν : qz_N} (h : zNew Z ν) {a1 : Int} (g1 : -2147483648 ≤ a1 ∧ a1 ≤ 2147483647) : ∃ (Z2 : qz_Z) (ν2 : qz_N) (v E : Int), (v, E) = zg_185 a1 ∧ qf_569 [.inr (.inr (some (0, 0, 0))), .inl (i3 a1), .inr (.inr (some (71, 0, 0)))] (zm Z ν) = some (zm Z2 ν2, .inl (some (.inl (i3 (tcL [(13, 1)] E))))) ∧ zW Z ν v E Z2 ν2 := by
  refine wrap_ok (hs := [(13, 1)]) (WS := []) h.2.2.1 h.2.2.2.1 h.2.2.2.2 (zF_m h.2.1) (fun R hR => fv_569 (i3 a1) _ R hR) (sg_185 h.1 h.2.1 g1) (fun v E he => ?_) (by decide) (by decide)
  obtain ⟨-, -, c3⟩ := cm_account g1 he (w := (zg_256 a1).1) (t := (zg_256 a1).2) rfl
  rcases c3 with c3 | c3
  · exact .inl c3
  · exact .inr ⟨(13, 1), by decide, c3⟩
theorem lc_48 {Z : qz_Z} {ν : qz_N} (h : zNew Z ν) {k : wz_K} {R : wz_R} (hk : ∀ Z3 ν3 v2 v4, zEnd ν3 → k 16 ([some (.inr (.inr (some (200, 0, 0)))), some (.inr (.inr (some (0, 0, 0)))), some (.inr (.inr (some (1, 0, 0)))), some (.inr (.inr (some (71, 0, 0)))), some (.inl (0 : Int32)), some (.inl v2), some (.inl v4), none], [], zm Z3 ν3)) : gx_48 k R (gx_L 0, [], zm Z ν) := by
  refine fk_48 0 (zm Z ν) k R ?_
  have st := zNew_S h
  refine wz_i1 (zS_t st) (wz_i0 (zS_o st (by decide)) ?_)
  have g1 := zI_f h.1 200 0 0 1
  obtain ⟨Z2, ν2, v, E, hP, hq, hE0, st2, hs2⟩ := lw_account h g1
  refine wz_cI_of hq ?_
  refine wz_i1 (zS_t st2) (wz_i0 (zS_o st2 (by decide)) ?_)
  have f1 := zI_f st2.1 200 0 0 1
  obtain ⟨Z3, ν3, w, t, hP2, hq2, ht, hI3, hK3, hN3⟩ := sg_256 st2.1 st2.2.1 f1
  refine wz_cI_of hq2 ?_
  rw [hs2 1] at hP2
  obtain ⟨c1, c2, c3⟩ := cm_account g1 hP hP2
  have hend : zEnd ν3 := ⟨⟨(hN3.2.2.1 0 (by have := st2.2.2.1.2; omega)).trans st2.2.2.1.1, by have := st2.2.2.1.2; have := hN3.2.2.2.1; omega⟩, by have := st2.2.2.2.2.1; have := hN3.2.2.2.2.1; omega, by have := st2.2.2.2.2.2; have := hN3.2.2.2.2.2; omega⟩
  refine wz_i1 (decide_eq_true (show i3 (Z3 1 0 0 2) = i3 (tcL [(13, 1)] E) by rw [ht, c1]; rfl)) ?_
  rcases c3 with rfl | rfl
  · refine wz_i0 (by decide) (wz_i1 (decide_eq_true ?_) (hk _ _ _ _ hend))
    have e1 : qz_lm (zm Z3 ν3) 71 0 0 0 = (i3 v).toInt64 := (hN3.1 71 0 0 0 (by decide)).trans (hE0 rfl)
    rw [e1, c2 rfl]
    exact lg_self _
  · exact wz_i1 (by decide) (hk _ _ _ _ hend)

/- entry -/
theorem lw_entry {Z : qz_Z} {ν : qz_N} (h : zNew Z ν) {a1 : Int} (g1 : -2147483648 ≤ a1 ∧ a1 ≤ 2147483647) {a2 : Int} (g2 : -2147483648 ≤ a2 ∧ a2 ≤ 2147483647) : ∃ (Z2 : qz_Z) (ν2 : qz_N) (v E : Int), (v, E) = zg_199 a1 a2 ∧ qf_581 [.inr (.inr (some (0, 0, 0))), .inl (i3 a1), .inl (i3 a2), .inr (.inr (some (71, 0, 0)))] (zm Z ν) = some (zm Z2 ν2, .inl (some (.inl (i3 (tcL [(24, 1), (13, 2)] E))))) ∧ zW Z ν v E Z2 ν2 := by
  refine wrap_ok (hs := [(24, 1), (13, 2)]) (WS := []) h.2.2.1 h.2.2.2.1 h.2.2.2.2 (zF_m h.2.1) (fun R hR => fv_581 (i3 a1) (i3 a2) _ R hR) (sg_199 h.1 h.2.1 g1 g2) (fun v E he => ?_) (by decide) (by decide)
  obtain ⟨-, -, c3⟩ := cm_entry g1 g2 he (w := (zg_339 a1 a2).1) (t := (zg_339 a1 a2).2) rfl
  rcases c3 with c3 | c3 | c3
  · exact .inl c3
  · exact .inr ⟨(24, 1), by decide, c3⟩
  · exact .inr ⟨(13, 2), by decide, c3⟩
theorem lc_49 {Z : qz_Z} {ν : qz_N} (h : zNew Z ν) {k : wz_K} {R : wz_R} (hk : ∀ Z3 ν3 v2 v4, zEnd ν3 → k 15 ([some (.inr (.inr (some (200, 0, 0)))), some (.inr (.inr (some (0, 0, 0)))), some (.inr (.inr (some (1, 0, 0)))), some (.inr (.inr (some (71, 0, 0)))), some (.inl (0 : Int32)), some (.inl v2), some (.inl v4), none], [], zm Z3 ν3)) : gx_49 k R (gx_L 0, [], zm Z ν) := by
  refine fk_49 0 (zm Z ν) k R ?_
  have st := zNew_S h
  refine wz_i1 (zS_t st) (wz_i0 (zS_o st (by decide)) ?_)
  refine wz_i1 (zS_t st) (wz_i0 (zS_o st (by decide)) ?_)
  have g1 := zI_f h.1 200 0 0 1
  have g2 := zI_f h.1 200 0 0 2
  obtain ⟨Z2, ν2, v, E, hP, hq, hE0, st2, hs2⟩ := lw_entry h g1 g2
  refine wz_cI_of hq ?_
  refine wz_i1 (zS_t st2) (wz_i0 (zS_o st2 (by decide)) ?_)
  refine wz_i1 (zS_t st2) (wz_i0 (zS_o st2 (by decide)) ?_)
  have f1 := zI_f st2.1 200 0 0 1
  have f2 := zI_f st2.1 200 0 0 2
  obtain ⟨Z3, ν3, w, t, hP2, hq2, ht, hI3, hK3, hN3⟩ := sg_339 st2.1 st2.2.1 f1 f2
  refine wz_cI_of hq2 ?_
  rw [hs2 1, hs2 2] at hP2
  obtain ⟨c1, c2, c3⟩ := cm_entry g1 g2 hP hP2
  have hend : zEnd ν3 := ⟨⟨(hN3.2.2.1 0 (by have := st2.2.2.1.2; omega)).trans st2.2.2.1.1, by have := st2.2.2.1.2; have := hN3.2.2.2.1; omega⟩, by have := st2.2.2.2.2.1; have := hN3.2.2.2.2.1; omega, by have := st2.2.2.2.2.2; have := hN3.2.2.2.2.2; omega⟩
  refine wz_i1 (decide_eq_true (show i3 (Z3 1 0 0 2) = i3 (tcL [(24, 1), (13, 2)] E) by rw [ht, c1]; rfl)) ?_
  rcases c3 with rfl | rfl | rfl
  · refine wz_i0 (by decide) (wz_i1 (decide_eq_true ?_) (hk _ _ _ _ hend))
    have e1 : qz_lm (zm Z3 ν3) 71 0 0 0 = (i3 v).toInt64 := (hN3.1 71 0 0 0 (by decide)).trans (hE0 rfl)
    rw [e1, c2 rfl]
    exact lg_self _
  · exact wz_i1 (by decide) (hk _ _ _ _ hend)
  · exact wz_i1 (by decide) (hk _ _ _ _ hend)

/- owed -/
theorem lw_owed {Z : qz_Z} {ν : qz_N} (h : zNew Z ν) {a1 : Int} (g1 : -2147483648 ≤ a1 ∧ a1 ≤ 2147483647) {a2 : Int} (g2 : -2147483648 ≤ a2 ∧ a2 ≤ 2147483647) : ∃ (Z2 : qz_Z) (ν2 : qz_N) (v E : Int), (v, E) = zg_223 a1 a2 ∧ qf_602 [.inr (.inr (some (0, 0, 0))), .inl (i3 a1), .inl (i3 a2), .inr (.inr (some (71, 0, 0)))] (zm Z ν) = some (zm Z2 ν2, .inl (some (.inl (i3 (tcL [(24, 1), (13, 2)] E))))) ∧ zW Z ν v E Z2 ν2 := by
  refine wrap_ok (hs := [(24, 1), (13, 2)]) (WS := []) h.2.2.1 h.2.2.2.1 h.2.2.2.2 (zF_m h.2.1) (fun R hR => fv_602 (i3 a1) (i3 a2) _ R hR) (sg_223 h.1 h.2.1 g1 g2) (fun v E he => ?_) (by decide) (by decide)
  obtain ⟨-, -, c3⟩ := cm_owed g1 g2 he (w := (zg_444 a1 a2).1) (t := (zg_444 a1 a2).2) rfl
  rcases c3 with c3 | c3 | c3
  · exact .inl c3
  · exact .inr ⟨(24, 1), by decide, c3⟩
  · exact .inr ⟨(13, 2), by decide, c3⟩
theorem lc_50 {Z : qz_Z} {ν : qz_N} (h : zNew Z ν) {k : wz_K} {R : wz_R} (hk : ∀ Z3 ν3 v2 v4, zEnd ν3 → k 14 ([some (.inr (.inr (some (200, 0, 0)))), some (.inr (.inr (some (0, 0, 0)))), some (.inr (.inr (some (1, 0, 0)))), some (.inr (.inr (some (71, 0, 0)))), some (.inl (0 : Int32)), some (.inl v2), some (.inl v4), none], [], zm Z3 ν3)) : gx_50 k R (gx_L 0, [], zm Z ν) := by
  refine fk_50 0 (zm Z ν) k R ?_
  have st := zNew_S h
  refine wz_i1 (zS_t st) (wz_i0 (zS_o st (by decide)) ?_)
  refine wz_i1 (zS_t st) (wz_i0 (zS_o st (by decide)) ?_)
  have g1 := zI_f h.1 200 0 0 1
  have g2 := zI_f h.1 200 0 0 2
  obtain ⟨Z2, ν2, v, E, hP, hq, hE0, st2, hs2⟩ := lw_owed h g1 g2
  refine wz_cI_of hq ?_
  refine wz_i1 (zS_t st2) (wz_i0 (zS_o st2 (by decide)) ?_)
  refine wz_i1 (zS_t st2) (wz_i0 (zS_o st2 (by decide)) ?_)
  have f1 := zI_f st2.1 200 0 0 1
  have f2 := zI_f st2.1 200 0 0 2
  obtain ⟨Z3, ν3, w, t, hP2, hq2, ht, hI3, hK3, hN3⟩ := sg_444 st2.1 st2.2.1 f1 f2
  refine wz_cI_of hq2 ?_
  rw [hs2 1, hs2 2] at hP2
  obtain ⟨c1, c2, c3⟩ := cm_owed g1 g2 hP hP2
  have hend : zEnd ν3 := ⟨⟨(hN3.2.2.1 0 (by have := st2.2.2.1.2; omega)).trans st2.2.2.1.1, by have := st2.2.2.1.2; have := hN3.2.2.2.1; omega⟩, by have := st2.2.2.2.2.1; have := hN3.2.2.2.2.1; omega, by have := st2.2.2.2.2.2; have := hN3.2.2.2.2.2; omega⟩
  refine wz_i1 (decide_eq_true (show i3 (Z3 1 0 0 2) = i3 (tcL [(24, 1), (13, 2)] E) by rw [ht, c1]; rfl)) ?_
  rcases c3 with rfl | rfl | rfl
  · refine wz_i0 (by decide) (wz_i1 (decide_eq_true ?_) (hk _ _ _ _ hend))
    have e1 : qz_lm (zm Z3 ν3) 71 0 0 0 = (i3 v).toInt64 := (hN3.1 71 0 0 0 (by decide)).trans (hE0 rfl)
    rw [e1, c2 rfl]
    exact lg_self _
  · exact wz_i1 (by decide) (hk _ _ _ _ hend)
  · exact wz_i1 (by decide) (hk _ _ _ _ hend)

/- quarrel -/
theorem lw_quarrel {Z : qz_Z} {ν : qz_N} (h : zNew Z ν) {a1 : Int} (g1 : -2147483648 ≤ a1 ∧ a1 ≤ 2147483647) {a2 : Int} (g2 : -2147483648 ≤ a2 ∧ a2 ≤ 2147483647) : ∃ (Z2 : qz_Z) (ν2 : qz_N) (v E : Int), (v, E) = zg_231 a1 a2 ∧ qf_610 [.inr (.inr (some (0, 0, 0))), .inl (i3 a1), .inl (i3 a2), .inr (.inr (some (71, 0, 0)))] (zm Z ν) = some (zm Z2 ν2, .inl (some (.inl (i3 (tcL [(24, 1), (13, 2), (15, 3)] E))))) ∧ zW Z ν v E Z2 ν2 := by
  refine wrap_ok (hs := [(24, 1), (13, 2), (15, 3)]) (WS := []) h.2.2.1 h.2.2.2.1 h.2.2.2.2 (zF_m h.2.1) (fun R hR => fv_610 (i3 a1) (i3 a2) _ R hR) (sg_231 h.1 h.2.1 g1 g2) (fun v E he => ?_) (by decide) (by decide)
  obtain ⟨-, -, c3⟩ := cm_quarrel g1 g2 he (w := (zg_457 a1 a2).1) (t := (zg_457 a1 a2).2) rfl
  rcases c3 with c3 | c3 | c3 | c3
  · exact .inl c3
  · exact .inr ⟨(24, 1), by decide, c3⟩
  · exact .inr ⟨(13, 2), by decide, c3⟩
  · exact .inr ⟨(15, 3), by decide, c3⟩
theorem lc_51 {Z : qz_Z} {ν : qz_N} (h : zNew Z ν) {k : wz_K} {R : wz_R} (hk : ∀ Z3 ν3 v2 v4, zEnd ν3 → k 13 ([some (.inr (.inr (some (200, 0, 0)))), some (.inr (.inr (some (0, 0, 0)))), some (.inr (.inr (some (1, 0, 0)))), some (.inr (.inr (some (71, 0, 0)))), some (.inl (0 : Int32)), some (.inl v2), some (.inl v4), none], [], zm Z3 ν3)) : gx_51 k R (gx_L 0, [], zm Z ν) := by
  refine fk_51 0 (zm Z ν) k R ?_
  have st := zNew_S h
  refine wz_i1 (zS_t st) (wz_i0 (zS_o st (by decide)) ?_)
  refine wz_i1 (zS_t st) (wz_i0 (zS_o st (by decide)) ?_)
  have g1 := zI_f h.1 200 0 0 1
  have g2 := zI_f h.1 200 0 0 2
  obtain ⟨Z2, ν2, v, E, hP, hq, hE0, st2, hs2⟩ := lw_quarrel h g1 g2
  refine wz_cI_of hq ?_
  refine wz_i1 (zS_t st2) (wz_i0 (zS_o st2 (by decide)) ?_)
  refine wz_i1 (zS_t st2) (wz_i0 (zS_o st2 (by decide)) ?_)
  have f1 := zI_f st2.1 200 0 0 1
  have f2 := zI_f st2.1 200 0 0 2
  obtain ⟨Z3, ν3, w, t, hP2, hq2, ht, hI3, hK3, hN3⟩ := sg_457 st2.1 st2.2.1 f1 f2
  refine wz_cI_of hq2 ?_
  rw [hs2 1, hs2 2] at hP2
  obtain ⟨c1, c2, c3⟩ := cm_quarrel g1 g2 hP hP2
  have hend : zEnd ν3 := ⟨⟨(hN3.2.2.1 0 (by have := st2.2.2.1.2; omega)).trans st2.2.2.1.1, by have := st2.2.2.1.2; have := hN3.2.2.2.1; omega⟩, by have := st2.2.2.2.2.1; have := hN3.2.2.2.2.1; omega, by have := st2.2.2.2.2.2; have := hN3.2.2.2.2.2; omega⟩
  refine wz_i1 (decide_eq_true (show i3 (Z3 1 0 0 2) = i3 (tcL [(24, 1), (13, 2), (15, 3)] E) by rw [ht, c1]; rfl)) ?_
  rcases c3 with rfl | rfl | rfl | rfl
  · refine wz_i0 (by decide) (wz_i1 (decide_eq_true ?_) (hk _ _ _ _ hend))
    have e1 : qz_lm (zm Z3 ν3) 71 0 0 0 = (i3 v).toInt64 := (hN3.1 71 0 0 0 (by decide)).trans (hE0 rfl)
    rw [e1, c2 rfl]
    exact lg_self _
  · exact wz_i1 (by decide) (hk _ _ _ _ hend)
  · exact wz_i1 (by decide) (hk _ _ _ _ hend)
  · exact wz_i1 (by decide) (hk _ _ _ _ hend)

/- quarrelled -/
theorem lw_quarrelled {Z : qz_Z} {ν : qz_N} (h : zNew Z ν) {a1 : Int} (g1 : -2147483648 ≤ a1 ∧ a1 ≤ 2147483647) {a2 : Int} (g2 : -2147483648 ≤ a2 ∧ a2 ≤ 2147483647) : ∃ (Z2 : qz_Z) (ν2 : qz_N) (v E : Int), (v, E) = zg_232 a1 a2 ∧ qf_611 [.inr (.inr (some (0, 0, 0))), .inl (i3 a1), .inl (i3 a2), .inr (.inr (some (71, 0, 0)))] (zm Z ν) = some (zm Z2 ν2, .inl (some (.inl (i3 (tcL [(24, 1), (13, 2)] E))))) ∧ zW Z ν v E Z2 ν2 := by
  refine wrap_ok (hs := [(24, 1), (13, 2)]) (WS := []) h.2.2.1 h.2.2.2.1 h.2.2.2.2 (zF_m h.2.1) (fun R hR => fv_611 (i3 a1) (i3 a2) _ R hR) (sg_232 h.1 h.2.1 g1 g2) (fun v E he => ?_) (by decide) (by decide)
  obtain ⟨-, -, c3⟩ := cm_quarrelled g1 g2 he (w := (zg_458 a1 a2).1) (t := (zg_458 a1 a2).2) rfl
  rcases c3 with c3 | c3 | c3
  · exact .inl c3
  · exact .inr ⟨(24, 1), by decide, c3⟩
  · exact .inr ⟨(13, 2), by decide, c3⟩
theorem lc_52 {Z : qz_Z} {ν : qz_N} (h : zNew Z ν) {k : wz_K} {R : wz_R} (hk : ∀ Z3 ν3 v2 v4, zEnd ν3 → k 12 ([some (.inr (.inr (some (200, 0, 0)))), some (.inr (.inr (some (0, 0, 0)))), some (.inr (.inr (some (1, 0, 0)))), some (.inr (.inr (some (71, 0, 0)))), some (.inl (0 : Int32)), some (.inl v2), some (.inl v4), none], [], zm Z3 ν3)) : gx_52 k R (gx_L 0, [], zm Z ν) := by
  refine fk_52 0 (zm Z ν) k R ?_
  have st := zNew_S h
  refine wz_i1 (zS_t st) (wz_i0 (zS_o st (by decide)) ?_)
  refine wz_i1 (zS_t st) (wz_i0 (zS_o st (by decide)) ?_)
  have g1 := zI_f h.1 200 0 0 1
  have g2 := zI_f h.1 200 0 0 2
  obtain ⟨Z2, ν2, v, E, hP, hq, hE0, st2, hs2⟩ := lw_quarrelled h g1 g2
  refine wz_cI_of hq ?_
  refine wz_i1 (zS_t st2) (wz_i0 (zS_o st2 (by decide)) ?_)
  refine wz_i1 (zS_t st2) (wz_i0 (zS_o st2 (by decide)) ?_)
  have f1 := zI_f st2.1 200 0 0 1
  have f2 := zI_f st2.1 200 0 0 2
  obtain ⟨Z3, ν3, w, t, hP2, hq2, ht, hI3, hK3, hN3⟩ := sg_458 st2.1 st2.2.1 f1 f2
  refine wz_cI_of hq2 ?_
  rw [hs2 1, hs2 2] at hP2
  obtain ⟨c1, c2, c3⟩ := cm_quarrelled g1 g2 hP hP2
  have hend : zEnd ν3 := ⟨⟨(hN3.2.2.1 0 (by have := st2.2.2.1.2; omega)).trans st2.2.2.1.1, by have := st2.2.2.1.2; have := hN3.2.2.2.1; omega⟩, by have := st2.2.2.2.2.1; have := hN3.2.2.2.2.1; omega, by have := st2.2.2.2.2.2; have := hN3.2.2.2.2.2; omega⟩
  refine wz_i1 (decide_eq_true (show i3 (Z3 1 0 0 2) = i3 (tcL [(24, 1), (13, 2)] E) by rw [ht, c1]; rfl)) ?_
  rcases c3 with rfl | rfl | rfl
  · refine wz_i0 (by decide) (wz_i1 (decide_eq_true ?_) (hk _ _ _ _ hend))
    have e1 : qz_lm (zm Z3 ν3) 71 0 0 0 = (i3 v).toInt64 := (hN3.1 71 0 0 0 (by decide)).trans (hE0 rfl)
    rw [e1, c2 rfl]
    exact lg_self _
  · exact wz_i1 (by decide) (hk _ _ _ _ hend)
  · exact wz_i1 (by decide) (hk _ _ _ _ hend)

/- blame -/
theorem lw_blame {Z : qz_Z} {ν : qz_N} (h : zNew Z ν) {a1 : Int} (g1 : -2147483648 ≤ a1 ∧ a1 ≤ 2147483647) {a2 : Int} (g2 : -2147483648 ≤ a2 ∧ a2 ≤ 2147483647) {a3 : Int} (g3 : -2147483648 ≤ a3 ∧ a3 ≤ 2147483647) : ∃ (Z2 : qz_Z) (ν2 : qz_N) (v E : Int), (v, E) = zg_190 a1 a2 a3 ∧ qf_574 [.inr (.inr (some (0, 0, 0))), .inl (i3 a1), .inl (i3 a2), .inl (i3 a3), .inr (.inr (some (71, 0, 0)))] (zm Z ν) = some (zm Z2 ν2, .inl (some (.inl (i3 (tcL [(24, 1), (13, 2), (15, 3)] E))))) ∧ zW Z ν v E Z2 ν2 := by
  refine wrap_ok (hs := [(24, 1), (13, 2), (15, 3)]) (WS := []) h.2.2.1 h.2.2.2.1 h.2.2.2.2 (zF_m h.2.1) (fun R hR => fv_574 (i3 a1) (i3 a2) (i3 a3) _ R hR) (sg_190 h.1 h.2.1 g1 g2 g3) (fun v E he => ?_) (by decide) (by decide)
  obtain ⟨-, -, c3⟩ := cm_blame g1 g2 g3 he (w := (zg_294 a1 a2 a3).1) (t := (zg_294 a1 a2 a3).2) rfl
  rcases c3 with c3 | c3 | c3 | c3
  · exact .inl c3
  · exact .inr ⟨(24, 1), by decide, c3⟩
  · exact .inr ⟨(13, 2), by decide, c3⟩
  · exact .inr ⟨(15, 3), by decide, c3⟩
theorem lc_53 {Z : qz_Z} {ν : qz_N} (h : zNew Z ν) {k : wz_K} {R : wz_R} (hk : ∀ Z3 ν3 v2 v4, zEnd ν3 → k 11 ([some (.inr (.inr (some (200, 0, 0)))), some (.inr (.inr (some (0, 0, 0)))), some (.inr (.inr (some (1, 0, 0)))), some (.inr (.inr (some (71, 0, 0)))), some (.inl (0 : Int32)), some (.inl v2), some (.inl v4), none], [], zm Z3 ν3)) : gx_53 k R (gx_L 0, [], zm Z ν) := by
  refine fk_53 0 (zm Z ν) k R ?_
  have st := zNew_S h
  refine wz_i1 (zS_t st) (wz_i0 (zS_o st (by decide)) ?_)
  refine wz_i1 (zS_t st) (wz_i0 (zS_o st (by decide)) ?_)
  refine wz_i1 (zS_t st) (wz_i0 (zS_o st (by decide)) ?_)
  have g1 := zI_f h.1 200 0 0 1
  have g2 := zI_f h.1 200 0 0 2
  have g3 := zI_f h.1 200 0 0 3
  obtain ⟨Z2, ν2, v, E, hP, hq, hE0, st2, hs2⟩ := lw_blame h g1 g2 g3
  refine wz_cI_of hq ?_
  refine wz_i1 (zS_t st2) (wz_i0 (zS_o st2 (by decide)) ?_)
  refine wz_i1 (zS_t st2) (wz_i0 (zS_o st2 (by decide)) ?_)
  refine wz_i1 (zS_t st2) (wz_i0 (zS_o st2 (by decide)) ?_)
  have f1 := zI_f st2.1 200 0 0 1
  have f2 := zI_f st2.1 200 0 0 2
  have f3 := zI_f st2.1 200 0 0 3
  obtain ⟨Z3, ν3, w, t, hP2, hq2, ht, hI3, hK3, hN3⟩ := sg_294 st2.1 st2.2.1 f1 f2 f3
  refine wz_cI_of hq2 ?_
  rw [hs2 1, hs2 2, hs2 3] at hP2
  obtain ⟨c1, c2, c3⟩ := cm_blame g1 g2 g3 hP hP2
  have hend : zEnd ν3 := ⟨⟨(hN3.2.2.1 0 (by have := st2.2.2.1.2; omega)).trans st2.2.2.1.1, by have := st2.2.2.1.2; have := hN3.2.2.2.1; omega⟩, by have := st2.2.2.2.2.1; have := hN3.2.2.2.2.1; omega, by have := st2.2.2.2.2.2; have := hN3.2.2.2.2.2; omega⟩
  refine wz_i1 (decide_eq_true (show i3 (Z3 1 0 0 2) = i3 (tcL [(24, 1), (13, 2), (15, 3)] E) by rw [ht, c1]; rfl)) ?_
  rcases c3 with rfl | rfl | rfl | rfl
  · refine wz_i0 (by decide) (wz_i1 (decide_eq_true ?_) (hk _ _ _ _ hend))
    have e1 : qz_lm (zm Z3 ν3) 71 0 0 0 = (i3 v).toInt64 := (hN3.1 71 0 0 0 (by decide)).trans (hE0 rfl)
    rw [e1, c2 rfl]
    exact lg_self _
  · exact wz_i1 (by decide) (hk _ _ _ _ hend)
  · exact wz_i1 (by decide) (hk _ _ _ _ hend)
  · exact wz_i1 (by decide) (hk _ _ _ _ hend)

/- sign -/
theorem lw_sign {Z : qz_Z} {ν : qz_N} (h : zNew Z ν) {a1 : Int} (g1 : -2147483648 ≤ a1 ∧ a1 ≤ 2147483647) : ∃ (Z2 : qz_Z) (ν2 : qz_N) (v E : Int), (v, E) = zg_242 a1 ∧ qf_620 [.inr (.inr (some (0, 0, 0))), .inl (i3 a1), .inr (.inr (some (71, 0, 0)))] (zm Z ν) = some (zm Z2 ν2, .inl (some (.inl (i3 (tcL [(13, 1), (15, 2)] E))))) ∧ zW Z ν v E Z2 ν2 := by
  refine wrap_ok (hs := [(13, 1), (15, 2)]) (WS := [4, 66]) h.2.2.1 h.2.2.2.1 h.2.2.2.2 (zF_m h.2.1) (fun R hR => fv_620 (i3 a1) _ R hR) (sg_242 h.1 h.2.1 g1) (fun v E he => ?_) (by decide) (by decide)
  obtain ⟨-, -, c3⟩ := cm_sign g1 he (w := (zg_502 a1).1) (t := (zg_502 a1).2) rfl
  rcases c3 with c3 | c3 | c3
  · exact .inl c3
  · exact .inr ⟨(13, 1), by decide, c3⟩
  · exact .inr ⟨(15, 2), by decide, c3⟩
theorem lc_55 {Z : qz_Z} {ν : qz_N} (h : zNew Z ν) {k : wz_K} {R : wz_R} (hk : ∀ Z3 ν3 v2 v4, zEnd ν3 → k 9 ([some (.inr (.inr (some (200, 0, 0)))), some (.inr (.inr (some (0, 0, 0)))), some (.inr (.inr (some (1, 0, 0)))), some (.inr (.inr (some (71, 0, 0)))), some (.inl (0 : Int32)), some (.inl v2), some (.inl v4), none], [], zm Z3 ν3)) : gx_55 k R (gx_L 0, [], zm Z ν) := by
  refine fk_55 0 (zm Z ν) k R ?_
  have st := zNew_S h
  refine wz_i1 (zS_t st) (wz_i0 (zS_o st (by decide)) ?_)
  have g1 := zI_f h.1 200 0 0 1
  obtain ⟨Z2, ν2, v, E, hP, hq, hE0, st2, hs2⟩ := lw_sign h g1
  refine wz_cI_of hq ?_
  refine wz_i1 (zS_t st2) (wz_i0 (zS_o st2 (by decide)) ?_)
  have f1 := zI_f st2.1 200 0 0 1
  obtain ⟨Z3, ν3, w, t, hP2, hq2, ht, hI3, hK3, hN3⟩ := sg_502 st2.1 st2.2.1 f1
  refine wz_cI_of hq2 ?_
  rw [hs2 1] at hP2
  obtain ⟨c1, c2, c3⟩ := cm_sign g1 hP hP2
  have hend : zEnd ν3 := ⟨⟨(hN3.2.2.1 0 (by have := st2.2.2.1.2; omega)).trans st2.2.2.1.1, by have := st2.2.2.1.2; have := hN3.2.2.2.1; omega⟩, by have := st2.2.2.2.2.1; have := hN3.2.2.2.2.1; omega, by have := st2.2.2.2.2.2; have := hN3.2.2.2.2.2; omega⟩
  refine wz_i1 (decide_eq_true (show i3 (Z3 1 0 0 2) = i3 (tcL [(13, 1), (15, 2)] E) by rw [ht, c1]; rfl)) ?_
  rcases c3 with rfl | rfl | rfl
  · refine wz_i0 (by decide) (wz_i1 (decide_eq_true ?_) (hk _ _ _ _ hend))
    have e1 : qz_lm (zm Z3 ν3) 71 0 0 0 = (i3 v).toInt64 := (hN3.1 71 0 0 0 (by decide)).trans (hE0 rfl)
    rw [e1, c2 rfl]
    exact lg_self _
  · exact wz_i1 (by decide) (hk _ _ _ _ hend)
  · exact wz_i1 (by decide) (hk _ _ _ _ hend)

/- undo -/
theorem lw_undo {Z : qz_Z} {ν : qz_N} (h : zNew Z ν)  : ∃ (Z2 : qz_Z) (ν2 : qz_N) (v E : Int), (v, E) = zg_252  ∧ qf_628 [.inr (.inr (some (0, 0, 0))), .inr (.inr (some (71, 0, 0)))] (zm Z ν) = some (zm Z2 ν2, .inl (some (.inl (i3 (tcL [(15, 1)] E))))) ∧ zW Z ν v E Z2 ν2 := by
  refine wrap_ok (hs := [(15, 1)]) (WS := []) h.2.2.1 h.2.2.2.1 h.2.2.2.2 (zF_m h.2.1) (fun R hR => fv_628  _ R hR) (sg_252 h.1 h.2.1 ) (fun v E he => ?_) (by decide) (by decide)
  obtain ⟨-, -, c3⟩ := cm_undo  he (w := (zg_541 ).1) (t := (zg_541 ).2) rfl
  rcases c3 with c3 | c3
  · exact .inl c3
  · exact .inr ⟨(15, 1), by decide, c3⟩
theorem lc_59 {Z : qz_Z} {ν : qz_N} (h : zNew Z ν) {k : wz_K} {R : wz_R} (hk : ∀ Z3 ν3 v2 v4, zEnd ν3 → k 5 ([some (.inr (.inr (some (200, 0, 0)))), some (.inr (.inr (some (0, 0, 0)))), some (.inr (.inr (some (1, 0, 0)))), some (.inr (.inr (some (71, 0, 0)))), some (.inl (0 : Int32)), some (.inl v2), some (.inl v4), none], [], zm Z3 ν3)) : gx_59 k R (gx_L 0, [], zm Z ν) := by
  refine fk_59 0 (zm Z ν) k R ?_
  have st := zNew_S h
  obtain ⟨Z2, ν2, v, E, hP, hq, hE0, st2, hs2⟩ := lw_undo h 
  refine wz_cI_of hq ?_
  obtain ⟨Z3, ν3, w, t, hP2, hq2, ht, hI3, hK3, hN3⟩ := sg_541 st2.1 st2.2.1 
  refine wz_cI_of hq2 ?_
  obtain ⟨c1, c2, c3⟩ := cm_undo  hP hP2
  have hend : zEnd ν3 := ⟨⟨(hN3.2.2.1 0 (by have := st2.2.2.1.2; omega)).trans st2.2.2.1.1, by have := st2.2.2.1.2; have := hN3.2.2.2.1; omega⟩, by have := st2.2.2.2.2.1; have := hN3.2.2.2.2.1; omega, by have := st2.2.2.2.2.2; have := hN3.2.2.2.2.2; omega⟩
  refine wz_i1 (decide_eq_true (show i3 (Z3 1 0 0 2) = i3 (tcL [(15, 1)] E) by rw [ht, c1]; rfl)) ?_
  rcases c3 with rfl | rfl
  · refine wz_i0 (by decide) (wz_i1 (decide_eq_true ?_) (hk _ _ _ _ hend))
    have e1 : qz_lm (zm Z3 ν3) 71 0 0 0 = (i3 v).toInt64 := (hN3.1 71 0 0 0 (by decide)).trans (hE0 rfl)
    rw [e1, c2 rfl]
    exact lg_self _
  · exact wz_i1 (by decide) (hk _ _ _ _ hend)

/- again -/
theorem lw_again {Z : qz_Z} {ν : qz_N} (h : zNew Z ν) {a1 : Int} (g1 : -2147483648 ≤ a1 ∧ a1 ≤ 2147483647) : ∃ (Z2 : qz_Z) (ν2 : qz_N) (v E : Int), (v, E) = zg_186 a1 ∧ qf_570 [.inr (.inr (some (0, 0, 0))), .inl (i3 a1), .inr (.inr (some (71, 0, 0)))] (zm Z ν) = some (zm Z2 ν2, .inl (some (.inl (i3 (tcL [(13, 1), (15, 2)] E))))) ∧ zW Z ν v E Z2 ν2 := by
  refine wrap_ok (hs := [(13, 1), (15, 2)]) (WS := []) h.2.2.1 h.2.2.2.1 h.2.2.2.2 (zF_m h.2.1) (fun R hR => fv_570 (i3 a1) _ R hR) (sg_186 h.1 h.2.1 g1) (fun v E he => ?_) (by decide) (by decide)
  obtain ⟨-, -, c3⟩ := cm_again g1 he (w := (zg_257 a1).1) (t := (zg_257 a1).2) rfl
  rcases c3 with c3 | c3 | c3
  · exact .inl c3
  · exact .inr ⟨(13, 1), by decide, c3⟩
  · exact .inr ⟨(15, 2), by decide, c3⟩
theorem lc_61 {Z : qz_Z} {ν : qz_N} (h : zNew Z ν) {k : wz_K} {R : wz_R} (hk : ∀ Z3 ν3 v2 v4, zEnd ν3 → k 3 ([some (.inr (.inr (some (200, 0, 0)))), some (.inr (.inr (some (0, 0, 0)))), some (.inr (.inr (some (1, 0, 0)))), some (.inr (.inr (some (71, 0, 0)))), some (.inl (0 : Int32)), some (.inl v2), some (.inl v4), none], [], zm Z3 ν3)) : gx_61 k R (gx_L 0, [], zm Z ν) := by
  refine fk_61 0 (zm Z ν) k R ?_
  have st := zNew_S h
  refine wz_i1 (zS_t st) (wz_i0 (zS_o st (by decide)) ?_)
  have g1 := zI_f h.1 200 0 0 1
  obtain ⟨Z2, ν2, v, E, hP, hq, hE0, st2, hs2⟩ := lw_again h g1
  refine wz_cI_of hq ?_
  refine wz_i1 (zS_t st2) (wz_i0 (zS_o st2 (by decide)) ?_)
  have f1 := zI_f st2.1 200 0 0 1
  obtain ⟨Z3, ν3, w, t, hP2, hq2, ht, hI3, hK3, hN3⟩ := sg_257 st2.1 st2.2.1 f1
  refine wz_cI_of hq2 ?_
  rw [hs2 1] at hP2
  obtain ⟨c1, c2, c3⟩ := cm_again g1 hP hP2
  have hend : zEnd ν3 := ⟨⟨(hN3.2.2.1 0 (by have := st2.2.2.1.2; omega)).trans st2.2.2.1.1, by have := st2.2.2.1.2; have := hN3.2.2.2.1; omega⟩, by have := st2.2.2.2.2.1; have := hN3.2.2.2.2.1; omega, by have := st2.2.2.2.2.2; have := hN3.2.2.2.2.2; omega⟩
  refine wz_i1 (decide_eq_true (show i3 (Z3 1 0 0 2) = i3 (tcL [(13, 1), (15, 2)] E) by rw [ht, c1]; rfl)) ?_
  rcases c3 with rfl | rfl | rfl
  · refine wz_i0 (by decide) (wz_i1 (decide_eq_true ?_) (hk _ _ _ _ hend))
    have e1 : qz_lm (zm Z3 ν3) 71 0 0 0 = (i3 v).toInt64 := (hN3.1 71 0 0 0 (by decide)).trans (hE0 rfl)
    rw [e1, c2 rfl]
    exact lg_self _
  · exact wz_i1 (by decide) (hk _ _ _ _ hend)
  · exact wz_i1 (by decide) (hk _ _ _ _ hend)

/- sum -/
theorem lw_sum {Z : qz_Z} {ν : qz_N} (h : zNew Z ν) {a1 : Int} (g1 : -2147483648 ≤ a1 ∧ a1 ≤ 2147483647) : ∃ (Z2 : qz_Z) (ν2 : qz_N) (v E : Int), (v, E) = zg_244 a1 ∧ qf_622 [.inr (.inr (some (0, 0, 0))), .inl (i3 a1), .inr (.inr (some (71, 0, 0)))] (zm Z ν) = some (zm Z2 ν2, .inl (some (.inl (i3 (tcL [(13, 1)] E))))) ∧ zW Z ν v E Z2 ν2 := by
  refine wrap_ok (hs := [(13, 1)]) (WS := []) h.2.2.1 h.2.2.2.1 h.2.2.2.2 (zF_m h.2.1) (fun R hR => fv_622 (i3 a1) _ R hR) (sg_244 h.1 h.2.1 g1) (fun v E he => ?_) (by decide) (by decide)
  obtain ⟨-, -, c3⟩ := cm_sum g1 he (w := (zg_504 a1).1) (t := (zg_504 a1).2) rfl
  rcases c3 with c3 | c3
  · exact .inl c3
  · exact .inr ⟨(13, 1), by decide, c3⟩
theorem lc_63 {Z : qz_Z} {ν : qz_N} (h : zNew Z ν) {k : wz_K} {R : wz_R} (hk : ∀ Z3 ν3 v2 v4, zEnd ν3 → k 1 ([some (.inr (.inr (some (200, 0, 0)))), some (.inr (.inr (some (0, 0, 0)))), some (.inr (.inr (some (1, 0, 0)))), some (.inr (.inr (some (71, 0, 0)))), some (.inl (0 : Int32)), some (.inl v2), some (.inl v4), none], [], zm Z3 ν3)) : gx_63 k R (gx_L 0, [], zm Z ν) := by
  refine fk_63 0 (zm Z ν) k R ?_
  have st := zNew_S h
  refine wz_i1 (zS_t st) (wz_i0 (zS_o st (by decide)) ?_)
  have g1 := zI_f h.1 200 0 0 1
  obtain ⟨Z2, ν2, v, E, hP, hq, hE0, st2, hs2⟩ := lw_sum h g1
  refine wz_cI_of hq ?_
  refine wz_i1 (zS_t st2) (wz_i0 (zS_o st2 (by decide)) ?_)
  have f1 := zI_f st2.1 200 0 0 1
  obtain ⟨Z3, ν3, w, t, hP2, hq2, ht, hI3, hK3, hN3⟩ := sg_504 st2.1 st2.2.1 f1
  refine wz_cI_of hq2 ?_
  rw [hs2 1] at hP2
  obtain ⟨c1, c2, c3⟩ := cm_sum g1 hP hP2
  have hend : zEnd ν3 := ⟨⟨(hN3.2.2.1 0 (by have := st2.2.2.1.2; omega)).trans st2.2.2.1.1, by have := st2.2.2.1.2; have := hN3.2.2.2.1; omega⟩, by have := st2.2.2.2.2.1; have := hN3.2.2.2.2.1; omega, by have := st2.2.2.2.2.2; have := hN3.2.2.2.2.2; omega⟩
  refine wz_i1 (decide_eq_true (show i3 (Z3 1 0 0 2) = i3 (tcL [(13, 1)] E) by rw [ht, c1]; rfl)) ?_
  rcases c3 with rfl | rfl
  · refine wz_i0 (by decide) (wz_i1 (decide_eq_true ?_) (hk _ _ _ _ hend))
    have e1 : qz_lm (zm Z3 ν3) 71 0 0 0 = (i3 v).toInt64 := (hN3.1 71 0 0 0 (by decide)).trans (hE0 rfl)
    rw [e1, c2 rfl]
    exact lg_self _
  · exact wz_i1 (by decide) (hk _ _ _ _ hend)
