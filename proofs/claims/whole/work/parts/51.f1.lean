/- yX2_atDocks | yX12_tAtDocks -/
theorem rl_40_1 {b : Int} : ∀ (m n : Nat) {Z Y : qz_Z} {cx1 cx2 mx1 mx2 : Int} {C : Int × Int} {M : Int × Int}, zR b Z Y → zV Y → zN4 Y → (cx1 = mx1) → (cx2 = mx2) → (0 ≤ cx2) → (cx2 ≤ 4) → (4 - cx2 < (m : Int)) → (4 - cx2 < (n : Int)) → zE C (zl_40_1 b m Z cx1 cx2) → zE M (zl_508_1  n Y mx1 mx2) → C.1 = M.1 ∧ C.2 = M.2 := by
  intro m
  induction m with
  | zero => intros; omega
  | succ m ih =>
    intro n
    cases n with
    | zero => intros; omega
    | succ n =>
      intro Z Y cx1 cx2 mx1 mx2 C M hRa hV hN4 e0 e1 g0 g1 gm gn hC hM
      have hRb := zRx_0 hRa
      unfold zl_40_1 at hC
      unfold zl_508_1 at hM
      have q1 := zhd (zVr_11_8 (a := 3200) hV (by omega))
      have q2 := zhd ((zRl_11_8 (a := 3200) hRa (by omega)))
      rcases zE_c hC with ⟨h3, hC⟩ | ⟨h3, hC⟩
      · replace hM := zE_p hM (by first | (have q1 := zhx q1; have q2 := zhx q2; omega) | (simp only [zhx q1, zhx q2] at h3 ⊢ <;> omega))
        obtain rfl : C = _ := hC
        obtain rfl : M = _ := hM
        exact ⟨(by first | rfl | (have q1 := zhx q1; have q2 := zhx q2; omega) | (simp only [zhx q1, zhx q2, e0, e1] <;> omega) | (have q1 := zhx q1; have q2 := zhx q2; refine w3z ?_ ?_ ?_ <;> omega) | (have q1 := zhx q1; have q2 := zhx q2; refine w3y ?_ ?_ ?_ <;> omega) | (have q1 := zhx q1; have q2 := zhx q2; refine z2o ?_ ?_ ?_ <;> omega)), (by first | rfl | (have q1 := zhx q1; have q2 := zhx q2; omega) | (simp only [zhx q1, zhx q2, e0, e1] <;> omega) | (have q1 := zhx q1; have q2 := zhx q2; refine w3z ?_ ?_ ?_ <;> omega) | (have q1 := zhx q1; have q2 := zhx q2; refine w3y ?_ ?_ ?_ <;> omega) | (have q1 := zhx q1; have q2 := zhx q2; refine z2o ?_ ?_ ?_ <;> omega))⟩
      · have q4 := zhd (zVr_50_2 (x := mx2) (a := 3252 + 24 * mx2) hV (by have q1 := zhx q1; have q2 := zhx q2; omega) (by have q1 := zhx q1; have q2 := zhx q2; omega) (by have q1 := zhx q1; have q2 := zhx q2; omega))
        have q5 := zhd ((zRl_50_2 (x := cx2) (a := 3252 + 24 * mx2) hRa (by have q1 := zhx q1; have q2 := zhx q2; omega) (by have q1 := zhx q1; have q2 := zhx q2; omega) (by have q1 := zhx q1; have q2 := zhx q2; omega)))
        have q6 := zhd ((congrArg (fun x => Z 50 b x 2) (show mx2 = cx2 from (by have q1 := zhx q1; have q2 := zhx q2; omega))).trans (zhx q5))
        rcases zE_c hC with ⟨h7, hC⟩ | ⟨h7, hC⟩
        · replace hM := zE_n hM (by first | (have q1 := zhx q1; have q2 := zhx q2; have q4 := zhx q4; have q5 := zhx q5; have q6 := zhx q6; omega) | (simp only [zhx q1, zhx q2, zhx q4, zhx q5, zhx q6] at h3 h7 ⊢ <;> omega))
          rcases zE_c hM with ⟨h8, hM⟩ | ⟨h8, hM⟩
          · obtain ⟨v9, hv9, hM⟩ := zl_x hM
            rcases zE_c hM with ⟨h10, hM⟩ | ⟨h10, hM⟩
            · exact ih n (zRx_1 hRb) hV hN4 (by first | rfl | (omega) | (simp only [e0, e1] <;> omega)) (by first | rfl | (omega) | (simp only [e0, e1] <;> omega)) (by have q1 := zhx q1; have q2 := zhx q2; have q4 := zhx q4; have q5 := zhx q5; have q6 := zhx q6; first | omega | exact (z2_r _ _ _).1 | exact (z2_r _ _ _).2 | exact (w3_r _).1 | exact (w3_r _).2) (by have q1 := zhx q1; have q2 := zhx q2; have q4 := zhx q4; have q5 := zhx q5; have q6 := zhx q6; first | omega | exact (z2_r _ _ _).1 | exact (z2_r _ _ _).2 | exact (w3_r _).1 | exact (w3_r _).2) (by have q1 := zhx q1; have q2 := zhx q2; have q4 := zhx q4; have q5 := zhx q5; have q6 := zhx q6; omega) (by have q1 := zhx q1; have q2 := zhx q2; have q4 := zhx q4; have q5 := zhx q5; have q6 := zhx q6; omega) hC hM
            · exact ih n (zRx_1 hRb) hV hN4 (by first | rfl | (have q1 := zhx q1; have q2 := zhx q2; have q4 := zhx q4; have q5 := zhx q5; have q6 := zhx q6; omega) | (simp only [zhx q1, zhx q2, zhx q4, zhx q5, zhx q6, e0, e1] <;> omega) | (have q1 := zhx q1; have q2 := zhx q2; have q4 := zhx q4; have q5 := zhx q5; have q6 := zhx q6; refine w3z ?_ ?_ ?_ <;> omega) | (have q1 := zhx q1; have q2 := zhx q2; have q4 := zhx q4; have q5 := zhx q5; have q6 := zhx q6; refine w3y ?_ ?_ ?_ <;> omega) | (have q1 := zhx q1; have q2 := zhx q2; have q4 := zhx q4; have q5 := zhx q5; have q6 := zhx q6; refine z2o ?_ ?_ ?_ <;> omega)) (by first | rfl | (omega) | (simp only [e0, e1] <;> omega)) (by have q1 := zhx q1; have q2 := zhx q2; have q4 := zhx q4; have q5 := zhx q5; have q6 := zhx q6; first | omega | exact (z2_r _ _ _).1 | exact (z2_r _ _ _).2 | exact (w3_r _).1 | exact (w3_r _).2) (by have q1 := zhx q1; have q2 := zhx q2; have q4 := zhx q4; have q5 := zhx q5; have q6 := zhx q6; first | omega | exact (z2_r _ _ _).1 | exact (z2_r _ _ _).2 | exact (w3_r _).1 | exact (w3_r _).2) (by have q1 := zhx q1; have q2 := zhx q2; have q4 := zhx q4; have q5 := zhx q5; have q6 := zhx q6; omega) (by have q1 := zhx q1; have q2 := zhx q2; have q4 := zhx q4; have q5 := zhx q5; have q6 := zhx q6; omega) hC hM
          · exact ih n (zRx_1 hRb) hV hN4 (by first | rfl | (omega) | (simp only [e0, e1] <;> omega)) (by first | rfl | (omega) | (simp only [e0, e1] <;> omega)) (by have q1 := zhx q1; have q2 := zhx q2; have q4 := zhx q4; have q5 := zhx q5; have q6 := zhx q6; first | omega | exact (z2_r _ _ _).1 | exact (z2_r _ _ _).2 | exact (w3_r _).1 | exact (w3_r _).2) (by have q1 := zhx q1; have q2 := zhx q2; have q4 := zhx q4; have q5 := zhx q5; have q6 := zhx q6; first | omega | exact (z2_r _ _ _).1 | exact (z2_r _ _ _).2 | exact (w3_r _).1 | exact (w3_r _).2) (by have q1 := zhx q1; have q2 := zhx q2; have q4 := zhx q4; have q5 := zhx q5; have q6 := zhx q6; omega) (by have q1 := zhx q1; have q2 := zhx q2; have q4 := zhx q4; have q5 := zhx q5; have q6 := zhx q6; omega) hC hM
        · obtain ⟨v11, hv11, hC⟩ := zl_x hC
          have q12 := zhd (show v11 = (zf_518 Y mx2 0) from (hv11.trans (rr_53 hRa hV hN4 (by first | (omega) | (have q1 := zhx q1; have q2 := zhx q2; have q4 := zhx q4; have q5 := zhx q5; have q6 := zhx q6; omega)) rfl rfl)).trans (show zf_518 Y cx2 0 = zf_518 Y mx2 0 from by rw [show cx2 = mx2 from (by first | (omega) | (have q1 := zhx q1; have q2 := zhx q2; have q4 := zhx q4; have q5 := zhx q5; have q6 := zhx q6; omega))]))
          rcases zE_c hC with ⟨h13, hC⟩ | ⟨h13, hC⟩
          · replace hM := zE_n hM (by first | (have q1 := zhx q1; have q2 := zhx q2; have q4 := zhx q4; have q5 := zhx q5; have q6 := zhx q6; have q12 := zhx q12; omega) | (simp only [zhx q1, zhx q2, zhx q4, zhx q5, zhx q6, zhx q12] at h3 h7 h13 ⊢ <;> omega))
            replace hM := zE_p hM (by first | (have q1 := zhx q1; have q2 := zhx q2; have q4 := zhx q4; have q5 := zhx q5; have q6 := zhx q6; have q12 := zhx q12; omega) | (simp only [zhx q1, zhx q2, zhx q4, zhx q5, zhx q6, zhx q12] at h3 h7 h13 ⊢ <;> omega))
            obtain ⟨v14, hv14, hM⟩ := zl_x hM
            have q15 := zhd (hv14)
            replace hM := zE_p hM (by first | (have q1 := zhx q1; have q2 := zhx q2; have q4 := zhx q4; have q5 := zhx q5; have q6 := zhx q6; have q12 := zhx q12; have q15 := zhx q15; omega) | (simp only [zhx q1, zhx q2, zhx q4, zhx q5, zhx q6, zhx q12, zhx q15] at h3 h7 h13 ⊢ <;> omega))
            exact ih n (zRx_1 hRb) hV hN4 (by first | rfl | (omega) | (simp only [e0, e1] <;> omega)) (by first | rfl | (omega) | (simp only [e0, e1] <;> omega)) (by have q1 := zhx q1; have q2 := zhx q2; have q4 := zhx q4; have q5 := zhx q5; have q6 := zhx q6; have q12 := zhx q12; first | omega | exact (z2_r _ _ _).1 | exact (z2_r _ _ _).2 | exact (w3_r _).1 | exact (w3_r _).2) (by have q1 := zhx q1; have q2 := zhx q2; have q4 := zhx q4; have q5 := zhx q5; have q6 := zhx q6; have q12 := zhx q12; first | omega | exact (z2_r _ _ _).1 | exact (z2_r _ _ _).2 | exact (w3_r _).1 | exact (w3_r _).2) (by have q1 := zhx q1; have q2 := zhx q2; have q4 := zhx q4; have q5 := zhx q5; have q6 := zhx q6; have q12 := zhx q12; omega) (by have q1 := zhx q1; have q2 := zhx q2; have q4 := zhx q4; have q5 := zhx q5; have q6 := zhx q6; have q12 := zhx q12; omega) hC hM
          · replace hM := zE_n hM (by first | (have q1 := zhx q1; have q2 := zhx q2; have q4 := zhx q4; have q5 := zhx q5; have q6 := zhx q6; have q12 := zhx q12; omega) | (simp only [zhx q1, zhx q2, zhx q4, zhx q5, zhx q6, zhx q12] at h3 h7 h13 ⊢ <;> omega))
            replace hM := zE_p hM (by first | (have q1 := zhx q1; have q2 := zhx q2; have q4 := zhx q4; have q5 := zhx q5; have q6 := zhx q6; have q12 := zhx q12; omega) | (simp only [zhx q1, zhx q2, zhx q4, zhx q5, zhx q6, zhx q12] at h3 h7 h13 ⊢ <;> omega))
            obtain ⟨v16, hv16, hM⟩ := zl_x hM
            have q17 := zhd (hv16)
            replace hM := zE_n hM (by first | (have q1 := zhx q1; have q2 := zhx q2; have q4 := zhx q4; have q5 := zhx q5; have q6 := zhx q6; have q12 := zhx q12; have q17 := zhx q17; omega) | (simp only [zhx q1, zhx q2, zhx q4, zhx q5, zhx q6, zhx q12, zhx q17] at h3 h7 h13 ⊢ <;> omega))
            exact ih n (zRx_1 hRb) hV hN4 (by first | rfl | (omega) | (simp only [e0, e1] <;> omega)) (by first | rfl | (omega) | (simp only [e0, e1] <;> omega)) (by have q1 := zhx q1; have q2 := zhx q2; have q4 := zhx q4; have q5 := zhx q5; have q6 := zhx q6; have q12 := zhx q12; first | omega | exact (z2_r _ _ _).1 | exact (z2_r _ _ _).2 | exact (w3_r _).1 | exact (w3_r _).2) (by have q1 := zhx q1; have q2 := zhx q2; have q4 := zhx q4; have q5 := zhx q5; have q6 := zhx q6; have q12 := zhx q12; first | omega | exact (z2_r _ _ _).1 | exact (z2_r _ _ _).2 | exact (w3_r _).1 | exact (w3_r _).2) (by have q1 := zhx q1; have q2 := zhx q2; have q4 := zhx q4; have q5 := zhx q5; have q6 := zhx q6; have q12 := zhx q12; omega) (by have q1 := zhx q1; have q2 := zhx q2; have q4 := zhx q4; have q5 := zhx q5; have q6 := zhx q6; have q12 := zhx q12; omega) hC hM

/- yX2_atDocks | yX12_tAtDocks -/
theorem rr_40 {b : Int} {Z Y : qz_Z}  (hRa : zR b Z Y) (hV : zV Y) (hN4 : zN4 Y)  {C : Int} {M : Int} (hC : zE C (zf_40 Z b)) (hM : zE M (zf_508 Y )) : C = M := by
  have hRb := zRx_0 hRa
  unfold zf_40 at hC
  unfold zf_508 at hM
  obtain ⟨y1, y2, g3, hC⟩ := zl_x2 hC
  obtain ⟨y4, y5, g6, hM⟩ := zl_x2 hM
  have g7 := rl_40_1 _ _ (zRx_1 hRb) hV hN4 (by first | omega | exact (z2_r _ _ _).1 | exact (z2_r _ _ _).2 | exact (w3_r _).1 | exact (w3_r _).2) (by first | omega | exact (z2_r _ _ _).1 | exact (z2_r _ _ _).2 | exact (w3_r _).1 | exact (w3_r _).2) (by first | omega | exact (z2_r _ _ _).1 | exact (z2_r _ _ _).2 | exact (w3_r _).1 | exact (w3_r _).2) (by first | omega | exact (z2_r _ _ _).1 | exact (z2_r _ _ _).2 | exact (w3_r _).1 | exact (w3_r _).2) (by omega) (by omega) g3 g6
  have q8 := zhd (show y1 = y4 from g7.1)
  have q9 := zhd (show y2 = y5 from g7.2)
  obtain rfl : C = _ := hC
  obtain rfl : M = _ := hM
  exact (by first | rfl | (have q8 := zhx q8; omega) | (simp only [zhx q8] <;> omega) | (have q8 := zhx q8; refine w3z ?_ ?_ ?_ <;> omega) | (have q8 := zhx q8; refine w3y ?_ ?_ ?_ <;> omega) | (have q8 := zhx q8; refine z2o ?_ ?_ ?_ <;> omega))
