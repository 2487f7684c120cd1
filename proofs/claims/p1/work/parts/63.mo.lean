/-- the Model's numbers at the start -/
def mo_s : Nat → Int32 := fun j => if j = 3813 then 2500 else if j = 3812 then 400 else if j = 3811 then 120 else if j = 3810 then 50 else if j = 3500 then 0 else if j = 3201 then 2 else ge_r (fun j => if j = 1401 then 0 else if j = 1400 then 0 else ge_r (fun j => if j = 100 then 0 else 0) 1300 28 18 j) 3210 36 3 j
theorem sp_x290 {L : Nat} {f : Nat → Int32} {μ : qz_M} {n c s : Nat} {l : List (Nat × Nat × qz_R)} (h : gd L f μ n l c s) (hn : 541 < n) (hl : nu mh_R l 540 0 = some (200, 541, 0)) : wz_call qf_290 [.inr (.inr (some (200, 540, 0)))] μ (fun μ' o => o = .inl none ∧ ge L f mo_s μ' n l c s) := by
  refine fx_290 540 μ _ ?_
  refine wz_uD sb_290_1 [true, true] 4400 (by decide) (fun i => [some (.inr (.inr (some (200, 540, 0)))), some (.inl (i3 i))]) (fun i μ' => ge L f (fun _ => 0) μ' n l c s) ?_ ?_ rfl (ge_0 h)
  · intro i hi L μ hL h Iv hI
    refine fxb_290_1 540 (i3 i) μ _ _ L hL (wz_i0 ?_ ?_)
    · rw [show (4400 : Int32) = i3 4400 from rfl, i3_decle ⟨by omega, by omega⟩ ⟨by omega, by omega⟩]
      exact decide_eq_false (by omega)
    refine ge_s (x := i) h hn hl rfl hi (fun μ' h => ?_) _ ?_
    · refine hI _ _ ?_ (ge_to h (fun j => by split <;> rfl))
      rw [show (1 : Int32) = i3 1 from rfl, i3_add]
      rfl
    · rw [i3_nat (by omega) (by omega)]
      omega
  · intro L μ hL h Iv
    refine fxb_290_1 540 (i3 4400) μ _ _ L hL (wz_i1 rfl ?_)
    rw [wz_lk_0, wz_sk_0]
    refine fxc_290_2 540 μ _ _ _ rfl (wz_i1 (ge_t h hn) ?_)
    refine ge_s (x := 100) h hn hl rfl (by decide) (fun μ2 h => ?_) _ rfl
    refine wz_i1 (ge_t h hn) ?_
    obtain ⟨μ3, o, e, rfl, h⟩ := sp_x462 h hn hl
    refine wz_cV_of e (wz_i1 (ge_t h hn) ?_)
    refine ge_s (x := 1400) h hn hl rfl (by decide) (fun μ2 h => ?_) _ rfl
    refine ge_s (x := 1401) h hn hl rfl (by decide) (fun μ2 h => ?_) _ rfl
    refine wz_i1 (ge_t h hn) ?_
    obtain ⟨μ3, o, e, rfl, h⟩ := sp_x509 h hn hl
    refine wz_cV_of e (wz_i1 (ge_t h hn) ?_)
    refine ge_s (x := 3500) h hn hl rfl (by decide) (fun μ2 h => ?_) _ rfl
    refine wz_i1 (ge_t h hn) ?_
    refine ge_s (x := 3810) h hn hl rfl (by decide) (fun μ2 h => ?_) _ rfl
    refine ge_s (x := 3811) h hn hl rfl (by decide) (fun μ2 h => ?_) _ rfl
    refine ge_s (x := 3812) h hn hl rfl (by decide) (fun μ2 h => ?_) _ rfl
    refine ge_s (x := 3813) h hn hl rfl (by decide) (fun μ2 h => ?_) _ rfl
    exact ⟨rfl, h⟩
def mo_l : List (Nat × Nat × qz_R) := (540, 51, (200, 574, 0)) :: (540, 48, (200, 573, 0)) :: (540, 47, (200, 572, 0)) :: (540, 46, (200, 571, 0)) :: (540, 45, (200, 570, 0)) :: (540, 44, (200, 569, 0)) :: (540, 43, (200, 568, 0)) :: (540, 42, (200, 567, 0)) :: (540, 41, (200, 566, 0)) :: (540, 40, (200, 565, 0)) :: (540, 38, (200, 564, 0)) :: (540, 36, (200, 563, 0)) :: (540, 33, (200, 562, 0)) :: (540, 30, (200, 561, 0)) :: (540, 29, (200, 560, 0)) :: (540, 27, (200, 559, 0)) :: (540, 26, (200, 558, 0)) :: (540, 23, (200, 557, 0)) :: (540, 22, (200, 556, 0)) :: (540, 19, (200, 555, 0)) :: (540, 18, (200, 554, 0)) :: (540, 17, (200, 553, 0)) :: (540, 16, (200, 552, 0)) :: (540, 15, (200, 551, 0)) :: (540, 14, (200, 550, 0)) :: (540, 13, (200, 549, 0)) :: (540, 12, (200, 548, 0)) :: (540, 11, (200, 547, 0)) :: (540, 10, (200, 546, 0)) :: (540, 9, (200, 545, 0)) :: (540, 8, (200, 544, 0)) :: (540, 4, (200, 543, 0)) :: (540, 1, (200, 542, 0)) :: (540, 0, (200, 541, 0)) :: mh_l
set_option maxHeartbeats 4000000 in
/-- `new Model()` behind its own allocation -/
theorem sp_mo {L : Nat} {f : Nat → Int32} {μ : qz_M} {c s : Nat} (h : gd L f μ 541 mh_l c s) : wz_call qf_376 [.inr (.inr (some (200, 540, 0)))] μ (fun μ' o => o = .inl none ∧ ge L f mo_s μ' 575 mo_l (c + 34) (s + 66281)) := by
  refine fw_376 540 μ _ ?_
  refine gd_row h (by decide) rfl rfl (by decide) (by decide) rfl rfl (fun μ2 h => ?_)
  refine gd_row h (by decide) rfl rfl (by decide) (by decide) rfl rfl (fun μ4 h => ?_)
  refine gd_row h (by decide) rfl rfl (by decide) (by decide) rfl rfl (fun μ6 h => ?_)
  refine gd_row h (by decide) rfl rfl (by decide) (by decide) rfl rfl (fun μ8 h => ?_)
  refine gd_row h (by decide) rfl rfl (by decide) (by decide) rfl rfl (fun μ10 h => ?_)
  refine gd_row h (by decide) rfl rfl (by decide) (by decide) rfl rfl (fun μ12 h => ?_)
  refine gd_row h (by decide) rfl rfl (by decide) (by decide) rfl rfl (fun μ14 h => ?_)
  refine gd_row h (by decide) rfl rfl (by decide) (by decide) rfl rfl (fun μ16 h => ?_)
  refine gd_row h (by decide) rfl rfl (by decide) (by decide) rfl rfl (fun μ18 h => ?_)
  refine gd_row h (by decide) rfl rfl (by decide) (by decide) rfl rfl (fun μ20 h => ?_)
  refine gd_row h (by decide) rfl rfl (by decide) (by decide) rfl rfl (fun μ22 h => ?_)
  refine gd_row h (by decide) rfl rfl (by decide) (by decide) rfl rfl (fun μ24 h => ?_)
  refine gd_row h (by decide) rfl rfl (by decide) (by decide) rfl rfl (fun μ26 h => ?_)
  refine gd_row h (by decide) rfl rfl (by decide) (by decide) rfl rfl (fun μ28 h => ?_)
  refine gd_row h (by decide) rfl rfl (by decide) (by decide) rfl rfl (fun μ30 h => ?_)
  refine gd_row h (by decide) rfl rfl (by decide) (by decide) rfl rfl (fun μ32 h => ?_)
  refine gd_row h (by decide) rfl rfl (by decide) (by decide) rfl rfl (fun μ34 h => ?_)
  refine gd_row h (by decide) rfl rfl (by decide) (by decide) rfl rfl (fun μ36 h => ?_)
  refine gd_row h (by decide) rfl rfl (by decide) (by decide) rfl rfl (fun μ38 h => ?_)
  refine gd_row h (by decide) rfl rfl (by decide) (by decide) rfl rfl (fun μ40 h => ?_)
  refine gd_row h (by decide) rfl rfl (by decide) (by decide) rfl rfl (fun μ42 h => ?_)
  refine gd_row h (by decide) rfl rfl (by decide) (by decide) rfl rfl (fun μ44 h => ?_)
  refine gd_row h (by decide) rfl rfl (by decide) (by decide) rfl rfl (fun μ46 h => ?_)
  refine gd_row h (by decide) rfl rfl (by decide) (by decide) rfl rfl (fun μ48 h => ?_)
  refine gd_row h (by decide) rfl rfl (by decide) (by decide) rfl rfl (fun μ50 h => ?_)
  refine gd_row h (by decide) rfl rfl (by decide) (by decide) rfl rfl (fun μ52 h => ?_)
  refine gd_row h (by decide) rfl rfl (by decide) (by decide) rfl rfl (fun μ54 h => ?_)
  refine gd_row h (by decide) rfl rfl (by decide) (by decide) rfl rfl (fun μ56 h => ?_)
  refine gd_row h (by decide) rfl rfl (by decide) (by decide) rfl rfl (fun μ58 h => ?_)
  refine gd_row h (by decide) rfl rfl (by decide) (by decide) rfl rfl (fun μ60 h => ?_)
  refine gd_row h (by decide) rfl rfl (by decide) (by decide) rfl rfl (fun μ62 h => ?_)
  refine gd_row h (by decide) rfl rfl (by decide) (by decide) rfl rfl (fun μ64 h => ?_)
  refine gd_row h (by decide) rfl rfl (by decide) (by decide) rfl rfl (fun μ66 h => ?_)
  refine gd_row h (by decide) rfl rfl (by decide) (by decide) rfl rfl (fun μ68 h => ?_)
  refine wz_i1 ?_ ?_
  · rw [d4_tag (t := 5) (ct := 1) (ln := 0) h (by decide) rfl (by decide)]
    rfl
  obtain ⟨μ', o, e, rfl, h⟩ := sp_x290 h (by decide) rfl
  exact wz_cV_of e ⟨rfl, h.1, h.2.1, h.2.2.1.trans (by omega), h.2.2.2.trans (by omega)⟩
