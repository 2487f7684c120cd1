/-  |  -/
theorem rr_9403 {b : Int} {Z Y : qz_Z} {x : Int} (hRa : zR b Z Y) (hV : zV Y)  (e0 : 3 ≤ x) (e1 : x ≤ 8) {C : qz_Z} {M : qz_Z} (hC : zE C (zf_9403 Z b x)) (hM : zE M (zf_9404 Y x)) : zR b C M ∧ zV M ∧ zFc [1112, 1400, 5300, 5301, 5302, 5303, 5304] b Z C ∧ yFr [1112, 1400, 5300, 5301, 5302, 5303, 5304] Y M := by
  have hRb := zRx_0 hRa
  have hF : zFc [1112, 1400, 5300, 5301, 5302, 5303, 5304] b Z Z := zFc_r
  have hG : yFr [1112, 1400, 5300, 5301, 5302, 5303, 5304] Y Y := yFr_r
  unfold zf_9403 at hC
  unfold zf_9404 at hM
  have q1 := zhd ((zRl_14_s (x := x) (a := 3800 + x) hRa (by omega) (by omega) (by omega)))
  rcases zE_c hC with ⟨h2, hC⟩ | ⟨h2, hC⟩
  · rcases zE_c hC with ⟨h3, hC⟩ | ⟨h3, hC⟩
    · replace hM := zE_p hM (by first | (have q1 := zhx q1; omega) | (simp only [zhx q1] at h2 h3 ⊢ <;> omega))
      obtain ⟨Yr5, g4, hM⟩ := zl_x hM
      replace g4 : zE _ _ := g4
      unfold zf_403 at g4
      replace g4 := zE_p g4 (by first | (have q1 := zhx q1; omega) | (simp only [zhx q1] at h2 h3 ⊢ <;> omega))
      have q6 := zhd ((zRl_14_s (x := 9) (a := 3809) hRa (by have q1 := zhx q1; omega) (by have q1 := zhx q1; omega) (by have q1 := zhx q1; omega)))
      have q7 := zhd (congrArg (Y 2 0 0) (show (3800 + 9) = 3809 from (by have q1 := zhx q1; omega)))
      obtain ⟨Zc8, hZc8, hC⟩ := zl_x hC
      obtain ⟨Ym9, hYm9, g4⟩ := zl_x g4
      have hV10 : zV Ym9 := zV_n hV hYm9 (zvn_14_s (x := 9) (by have q1 := zhx q1; omega) (by have q1 := zhx q1; omega) (by have q1 := zhx q1; omega))
      have hR11 : zRx [] b Zc8 Ym9 := zRx_w hRb (ac_14_s (by have q1 := zhx q1; omega) (by have q1 := zhx q1; omega) (by have q1 := zhx q1; omega)) hZc8 hYm9 (by first | (simp only [zhx q1, zhx q6, zhx q7] <;> omega) | rfl | (have q1 := zhx q1; have q6 := zhx q6; have q7 := zhx q7; omega))
      have hF12 := zFc_u hF hZc8 rfl rfl
      have hG13 := yFr_u hG hYm9 (zcm_s (ac_14_s (a := 3800 + 9) (x := 9) (by have q1 := zhx q1; omega) (by have q1 := zhx q1; omega) (by have q1 := zhx q1; omega))) rfl
      have q14 := zhd ((zRl_14_s (x := x) (a := 3800 + x) (zRx_1 hR11) (by have q1 := zhx q1; omega) (by have q1 := zhx q1; omega) (by have q1 := zhx q1; omega)))
      obtain ⟨Zc15, hZc15, hC⟩ := zl_x hC
      obtain ⟨Ym16, hYm16, g4⟩ := zl_x g4
      have hV17 : zV Ym16 := zV_n hV10 hYm16 (zvn_14_s (x := x) (by have q1 := zhx q1; omega) (by have q1 := zhx q1; omega) (by have q1 := zhx q1; omega))
      have hR18 : zRx [] b Zc15 Ym16 := zRx_w hR11 (ac_14_s (by have q1 := zhx q1; omega) (by have q1 := zhx q1; omega) (by have q1 := zhx q1; omega)) hZc15 hYm16 (by first | (simp only [zhx q1, zhx q14] <;> omega) | rfl | (have q1 := zhx q1; have q14 := zhx q14; omega))
      have hF19 := zFc_u hF12 hZc15 rfl rfl
      have hG20 := yFr_u hG13 hYm16 (zcm_s (ac_14_s (a := 3800 + x) (x := x) (by have q1 := zhx q1; omega) (by have q1 := zhx q1; omega) (by have q1 := zhx q1; omega))) rfl
      have q21 := zhd (((zu_ne (k' := 2) (b' := 0) (i' := 0) (j' := 3814) hYm16 (fun q => absurd q.2.2.2 (by have q1 := zhx q1; omega))).trans (zu_ne (k' := 2) (b' := 0) (i' := 0) (j' := 3814) hYm9 (fun q => absurd q.2.2.2 (by have q1 := zhx q1; omega)))))
      have q22 := zhd (((zRl_11_12 (a := 3814) (zRx_1 hR18) (by omega)).trans (zhx q21)))
      obtain ⟨Zc23, hZc23, hC⟩ := zl_x hC
      obtain ⟨Ym24, hYm24, g4⟩ := zl_x g4
      have hV25 : zV Ym24 := zV_n hV17 hYm24 (zvn_53_0 (x := (((Y 2 0 0 3814)) % 60)) (by have q1 := zhx q1; have q21 := zhx q21; omega) (by have q1 := zhx q1; have q21 := zhx q21; omega) (by have q1 := zhx q1; have q21 := zhx q21; omega))
      have hR26 : zRx [] b Zc23 Ym24 := zRx_w hR18 (ac_53_0 (by have q1 := zhx q1; have q21 := zhx q21; have q22 := zhx q22; omega) (by have q1 := zhx q1; have q21 := zhx q21; have q22 := zhx q22; omega) (by have q1 := zhx q1; have q21 := zhx q21; have q22 := zhx q22; omega)) hZc23 hYm24 (by first | rfl | (omega) | (simp only [] <;> omega) | (have q1 := zhx q1; omega))
      have hF27 := zFc_u hF19 hZc23 rfl rfl
      have hG28 := yFr_u hG20 hYm24 (zcm_s (ac_53_0 (a := 3950 + 5 * ((Ym16 2 0 0 3814) % 60)) (x := (((Y 2 0 0 3814)) % 60)) (by have q1 := zhx q1; have q21 := zhx q21; omega) (by have q1 := zhx q1; have q21 := zhx q21; omega) (by have q1 := zhx q1; have q21 := zhx q21; omega))) rfl
      obtain ⟨Zc29, hZc29, hC⟩ := zl_x hC
      obtain ⟨Ym30, hYm30, g4⟩ := zl_x g4
      have hV31 : zV Ym30 := zV_n hV25 hYm30 (zvn_53_1 (x := (((Y 2 0 0 3814)) % 60)) (by have q1 := zhx q1; have q21 := zhx q21; omega) (by have q1 := zhx q1; have q21 := zhx q21; omega) (by have q1 := zhx q1; have q21 := zhx q21; omega))
      have hR32 : zRx [] b Zc29 Ym30 := zRx_w hR26 (ac_53_1 (by have q1 := zhx q1; have q21 := zhx q21; have q22 := zhx q22; omega) (by have q1 := zhx q1; have q21 := zhx q21; have q22 := zhx q22; omega) (by have q1 := zhx q1; have q21 := zhx q21; have q22 := zhx q22; omega)) hZc29 hYm30 (by first | rfl | (omega) | (simp only [] <;> omega) | (have q1 := zhx q1; omega))
      have hF33 := zFc_u hF27 hZc29 rfl rfl
      have hG34 := yFr_u hG28 hYm30 (zcm_s (ac_53_1 (a := 3951 + 5 * ((Ym16 2 0 0 3814) % 60)) (x := (((Y 2 0 0 3814)) % 60)) (by have q1 := zhx q1; have q21 := zhx q21; omega) (by have q1 := zhx q1; have q21 := zhx q21; omega) (by have q1 := zhx q1; have q21 := zhx q21; omega))) rfl
      obtain ⟨Zc35, hZc35, hC⟩ := zl_x hC
      obtain ⟨Ym36, hYm36, g4⟩ := zl_x g4
      have hV37 : zV Ym36 := zV_n hV31 hYm36 (zvn_53_2 (x := (((Y 2 0 0 3814)) % 60)) (by have q1 := zhx q1; have q21 := zhx q21; omega) (by have q1 := zhx q1; have q21 := zhx q21; omega) (by have q1 := zhx q1; have q21 := zhx q21; omega))
      have hR38 : zRx [] b Zc35 Ym36 := zRx_w hR32 (ac_53_2 (by have q1 := zhx q1; have q21 := zhx q21; have q22 := zhx q22; omega) (by have q1 := zhx q1; have q21 := zhx q21; have q22 := zhx q22; omega) (by have q1 := zhx q1; have q21 := zhx q21; have q22 := zhx q22; omega)) hZc35 hYm36 (by first | (simp only [zhx q1] <;> omega) | rfl | (have q1 := zhx q1; omega))
      have hF39 := zFc_u hF33 hZc35 rfl rfl
      have hG40 := yFr_u hG34 hYm36 (zcm_s (ac_53_2 (a := 3952 + 5 * ((Ym16 2 0 0 3814) % 60)) (x := (((Y 2 0 0 3814)) % 60)) (by have q1 := zhx q1; have q21 := zhx q21; omega) (by have q1 := zhx q1; have q21 := zhx q21; omega) (by have q1 := zhx q1; have q21 := zhx q21; omega))) rfl
      obtain ⟨Zc41, hZc41, hC⟩ := zl_x hC
      obtain ⟨Ym42, hYm42, g4⟩ := zl_x g4
      have hV43 : zV Ym42 := zV_n hV37 hYm42 (zvn_53_3 (x := (((Y 2 0 0 3814)) % 60)) (by have q1 := zhx q1; have q21 := zhx q21; omega) (by have q1 := zhx q1; have q21 := zhx q21; omega) (by have q1 := zhx q1; have q21 := zhx q21; omega))
      have hR44 : zRx [] b Zc41 Ym42 := zRx_w hR38 (ac_53_3 (by have q1 := zhx q1; have q21 := zhx q21; have q22 := zhx q22; omega) (by have q1 := zhx q1; have q21 := zhx q21; have q22 := zhx q22; omega) (by have q1 := zhx q1; have q21 := zhx q21; have q22 := zhx q22; omega)) hZc41 hYm42 (by first | rfl | (omega) | (simp only [] <;> omega) | (have q1 := zhx q1; omega))
      have hF45 := zFc_u hF39 hZc41 rfl rfl
      have hG46 := yFr_u hG40 hYm42 (zcm_s (ac_53_3 (a := 3953 + 5 * ((Ym16 2 0 0 3814) % 60)) (x := (((Y 2 0 0 3814)) % 60)) (by have q1 := zhx q1; have q21 := zhx q21; omega) (by have q1 := zhx q1; have q21 := zhx q21; omega) (by have q1 := zhx q1; have q21 := zhx q21; omega))) rfl
      have q47 := zhd (zVr_11_13 (a := 0) hV (by omega))
      have q48 := zhd (((((((zu_ne (k' := 2) (b' := 0) (i' := 0) (j' := 0) hYm42 (fun q => absurd q.2.2.2 (by have q1 := zhx q1; have q21 := zhx q21; omega))).trans (zu_ne (k' := 2) (b' := 0) (i' := 0) (j' := 0) hYm36 (fun q => absurd q.2.2.2 (by have q1 := zhx q1; have q21 := zhx q21; omega)))).trans (zu_ne (k' := 2) (b' := 0) (i' := 0) (j' := 0) hYm30 (fun q => absurd q.2.2.2 (by have q1 := zhx q1; have q21 := zhx q21; omega)))).trans (zu_ne (k' := 2) (b' := 0) (i' := 0) (j' := 0) hYm24 (fun q => absurd q.2.2.2 (by have q1 := zhx q1; have q21 := zhx q21; omega)))).trans (zu_ne (k' := 2) (b' := 0) (i' := 0) (j' := 0) hYm16 (fun q => absurd q.2.2.2 (by have q1 := zhx q1; omega)))).trans (zu_ne (k' := 2) (b' := 0) (i' := 0) (j' := 0) hYm9 (fun q => absurd q.2.2.2 (by have q1 := zhx q1; omega)))))
      have q49 := zhd (((zRl_11_13 (a := 0) (zRx_1 hR44) (by omega)).trans (zhx q48)))
      obtain ⟨Zc50, hZc50, hC⟩ := zl_x hC
      obtain ⟨Ym51, hYm51, g4⟩ := zl_x g4
      have hV52 : zV Ym51 := zV_n hV43 hYm51 (zvn_53_4 (x := (((Y 2 0 0 3814)) % 60)) (by have q1 := zhx q1; have q21 := zhx q21; omega) (by have q1 := zhx q1; have q21 := zhx q21; omega) (by have q1 := zhx q1; have q21 := zhx q21; omega))
      have hR53 : zRx [] b Zc50 Ym51 := zRx_w hR44 (ac_53_4 (by have q1 := zhx q1; have q21 := zhx q21; have q22 := zhx q22; omega) (by have q1 := zhx q1; have q21 := zhx q21; have q22 := zhx q22; omega) (by have q1 := zhx q1; have q21 := zhx q21; have q22 := zhx q22; omega)) hZc50 hYm51 (by first | rfl | (have q47 := zhx q47; have q48 := zhx q48; have q49 := zhx q49; omega) | (simp only [zhx q47, zhx q48, zhx q49] <;> omega) | (have q1 := zhx q1; have q47 := zhx q47; have q48 := zhx q48; have q49 := zhx q49; omega))
      have hF54 := zFc_u hF45 hZc50 rfl rfl
      have hG55 := yFr_u hG46 hYm51 (zcm_s (ac_53_4 (a := 3954 + 5 * ((Ym16 2 0 0 3814) % 60)) (x := (((Y 2 0 0 3814)) % 60)) (by have q1 := zhx q1; have q21 := zhx q21; omega) (by have q1 := zhx q1; have q21 := zhx q21; omega) (by have q1 := zhx q1; have q21 := zhx q21; omega))) rfl
      have q56 := zhd (((((((zu_ne (k' := 2) (b' := 0) (i' := 0) (j' := 3814) hYm51 (fun q => absurd q.2.2.2 (by have q1 := zhx q1; have q21 := zhx q21; omega))).trans (zu_ne (k' := 2) (b' := 0) (i' := 0) (j' := 3814) hYm42 (fun q => absurd q.2.2.2 (by have q1 := zhx q1; have q21 := zhx q21; omega)))).trans (zu_ne (k' := 2) (b' := 0) (i' := 0) (j' := 3814) hYm36 (fun q => absurd q.2.2.2 (by have q1 := zhx q1; have q21 := zhx q21; omega)))).trans (zu_ne (k' := 2) (b' := 0) (i' := 0) (j' := 3814) hYm30 (fun q => absurd q.2.2.2 (by have q1 := zhx q1; have q21 := zhx q21; omega)))).trans (zu_ne (k' := 2) (b' := 0) (i' := 0) (j' := 3814) hYm24 (fun q => absurd q.2.2.2 (by have q1 := zhx q1; have q21 := zhx q21; omega)))).trans (zhx q21)))
      have q57 := zhd (((zRl_11_12 (a := 3814) (zRx_1 hR53) (by omega)).trans (zhx q56)))
      obtain ⟨Zc58, hZc58, hC⟩ := zl_x hC
      obtain ⟨Ym59, hYm59, g4⟩ := zl_x g4
      have hV60 : zV Ym59 := zV_n hV52 hYm59 (zvn_11_12 (by have q1 := zhx q1; omega))
      have hR61 : zRx [] b Zc58 Ym59 := zRx_w hR53 (ac_11_12 (by have q1 := zhx q1; omega)) hZc58 hYm59 (by first | rfl | (have q56 := zhx q56; have q57 := zhx q57; omega) | (simp only [zhx q56, zhx q57] <;> omega) | (have q1 := zhx q1; have q56 := zhx q56; have q57 := zhx q57; omega))
      have hF62 := zFc_u hF54 hZc58 rfl rfl
      have hG63 := yFr_u hG55 hYm59 (zcm_s (ac_11_12 (a := 3814) (by have q1 := zhx q1; omega))) rfl
      have e9 : Ym59 = Yr5 := Eq.symm g4
      subst e9
      obtain rfl : C = _ := hC
      obtain rfl : M = _ := hM
      exact ⟨zRx_1 hR61, hV60, zFc_w hF62 (by decide), yFr_w hG63 (by decide)⟩
    · replace hM := zE_p hM (by first | (have q1 := zhx q1; omega) | (simp only [zhx q1] at h2 h3 ⊢ <;> omega))
      obtain ⟨Yr65, g64, hM⟩ := zl_x hM
      replace g64 : zE _ _ := g64
      unfold zf_403 at g64
      replace g64 := zE_n g64 (by first | (have q1 := zhx q1; omega) | (simp only [zhx q1] at h2 h3 ⊢ <;> omega))
      have e9 : Y = Yr65 := Eq.symm g64
      subst e9
      obtain rfl : C = _ := hC
      obtain rfl : M = _ := hM
      exact ⟨zRx_1 hRb, hV, zFc_w hF (by decide), yFr_w hG (by decide)⟩
  · replace hM := zE_n hM (by first | (have q1 := zhx q1; omega) | (simp only [zhx q1] at h2 ⊢ <;> omega))
    obtain ⟨Yr67, g66, hM⟩ := zl_x hM
    replace g66 : zE _ _ := g66
    unfold zf_403 at g66
    replace g66 := zE_p g66 (by first | (have q1 := zhx q1; omega) | (simp only [zhx q1] at h2 ⊢ <;> omega))
    obtain ⟨Zc68, hZc68, hC⟩ := zl_x hC
    obtain ⟨Ym69, hYm69, g66⟩ := zl_x g66
    have hV70 : zV Ym69 := zV_n hV hYm69 (zvn_14_s (x := x) (by have q1 := zhx q1; omega) (by have q1 := zhx q1; omega) (by have q1 := zhx q1; omega))
    have hR71 : zRx [] b Zc68 Ym69 := zRx_w hRb (ac_14_s (by have q1 := zhx q1; omega) (by have q1 := zhx q1; omega) (by have q1 := zhx q1; omega)) hZc68 hYm69 (by first | (simp only [zhx q1] <;> omega) | rfl | (have q1 := zhx q1; omega) | (have q1 := zhx q1; refine w3z ?_ ?_ ?_ <;> omega) | (have q1 := zhx q1; refine w3y ?_ ?_ ?_ <;> omega) | (have q1 := zhx q1; refine z2o ?_ ?_ ?_ <;> omega) | (have q1 := zhx q1; simp only [zhx q1] at h2 ⊢; refine w3z ?_ ?_ ?_ <;> omega))
    have hF72 := zFc_u hF hZc68 rfl rfl
    have hG73 := yFr_u hG hYm69 (zcm_s (ac_14_s (a := 3800 + x) (x := x) (by have q1 := zhx q1; omega) (by have q1 := zhx q1; omega) (by have q1 := zhx q1; omega))) rfl
    have q74 := zhd ((zRl_14_s (x := 9) (a := 3809) (zRx_1 hR71) (by have q1 := zhx q1; omega) (by have q1 := zhx q1; omega) (by have q1 := zhx q1; omega)))
    have q75 := zhd (congrArg (Ym69 2 0 0) (show (3800 + 9) = 3809 from (by have q1 := zhx q1; omega)))
    obtain ⟨Zc76, hZc76, hC⟩ := zl_x hC
    obtain ⟨Ym77, hYm77, g66⟩ := zl_x g66
    have hV78 : zV Ym77 := zV_n hV70 hYm77 (zvn_14_s (x := 9) (by have q1 := zhx q1; omega) (by have q1 := zhx q1; omega) (by have q1 := zhx q1; omega))
    have hR79 : zRx [] b Zc76 Ym77 := zRx_w hR71 (ac_14_s (by have q1 := zhx q1; omega) (by have q1 := zhx q1; omega) (by have q1 := zhx q1; omega)) hZc76 hYm77 (by first | (simp only [zhx q1, zhx q74, zhx q75] <;> omega) | rfl | (have q1 := zhx q1; have q74 := zhx q74; have q75 := zhx q75; omega))
    have hF80 := zFc_u hF72 hZc76 rfl rfl
    have hG81 := yFr_u hG73 hYm77 (zcm_s (ac_14_s (a := 3800 + 9) (x := 9) (by have q1 := zhx q1; omega) (by have q1 := zhx q1; omega) (by have q1 := zhx q1; omega))) rfl
    have q82 := zhd (((zu_ne (k' := 2) (b' := 0) (i' := 0) (j' := 3814) hYm77 (fun q => absurd q.2.2.2 (by have q1 := zhx q1; omega))).trans (zu_ne (k' := 2) (b' := 0) (i' := 0) (j' := 3814) hYm69 (fun q => absurd q.2.2.2 (by have q1 := zhx q1; omega)))))
    have q83 := zhd (((zRl_11_12 (a := 3814) (zRx_1 hR79) (by omega)).trans (zhx q82)))
    obtain ⟨Zc84, hZc84, hC⟩ := zl_x hC
    obtain ⟨Ym85, hYm85, g66⟩ := zl_x g66
    have hV86 : zV Ym85 := zV_n hV78 hYm85 (zvn_53_0 (x := (((Y 2 0 0 3814)) % 60)) (by have q1 := zhx q1; have q82 := zhx q82; omega) (by have q1 := zhx q1; have q82 := zhx q82; omega) (by have q1 := zhx q1; have q82 := zhx q82; omega))
    have hR87 : zRx [] b Zc84 Ym85 := zRx_w hR79 (ac_53_0 (by have q1 := zhx q1; have q82 := zhx q82; have q83 := zhx q83; omega) (by have q1 := zhx q1; have q82 := zhx q82; have q83 := zhx q83; omega) (by have q1 := zhx q1; have q82 := zhx q82; have q83 := zhx q83; omega)) hZc84 hYm85 (by first | rfl | (omega) | (simp only [] <;> omega) | (have q1 := zhx q1; omega))
    have hF88 := zFc_u hF80 hZc84 rfl rfl
    have hG89 := yFr_u hG81 hYm85 (zcm_s (ac_53_0 (a := 3950 + 5 * ((Ym77 2 0 0 3814) % 60)) (x := (((Y 2 0 0 3814)) % 60)) (by have q1 := zhx q1; have q82 := zhx q82; omega) (by have q1 := zhx q1; have q82 := zhx q82; omega) (by have q1 := zhx q1; have q82 := zhx q82; omega))) rfl
    obtain ⟨Zc90, hZc90, hC⟩ := zl_x hC
    obtain ⟨Ym91, hYm91, g66⟩ := zl_x g66
    have hV92 : zV Ym91 := zV_n hV86 hYm91 (zvn_53_1 (x := (((Y 2 0 0 3814)) % 60)) (by have q1 := zhx q1; have q82 := zhx q82; omega) (by have q1 := zhx q1; have q82 := zhx q82; omega) (by have q1 := zhx q1; have q82 := zhx q82; omega))
    have hR93 : zRx [] b Zc90 Ym91 := zRx_w hR87 (ac_53_1 (by have q1 := zhx q1; have q82 := zhx q82; have q83 := zhx q83; omega) (by have q1 := zhx q1; have q82 := zhx q82; have q83 := zhx q83; omega) (by have q1 := zhx q1; have q82 := zhx q82; have q83 := zhx q83; omega)) hZc90 hYm91 (by first | rfl | (omega) | (simp only [] <;> omega) | (have q1 := zhx q1; omega))
    have hF94 := zFc_u hF88 hZc90 rfl rfl
    have hG95 := yFr_u hG89 hYm91 (zcm_s (ac_53_1 (a := 3951 + 5 * ((Ym77 2 0 0 3814) % 60)) (x := (((Y 2 0 0 3814)) % 60)) (by have q1 := zhx q1; have q82 := zhx q82; omega) (by have q1 := zhx q1; have q82 := zhx q82; omega) (by have q1 := zhx q1; have q82 := zhx q82; omega))) rfl
    obtain ⟨Zc96, hZc96, hC⟩ := zl_x hC
    obtain ⟨Ym97, hYm97, g66⟩ := zl_x g66
    have hV98 : zV Ym97 := zV_n hV92 hYm97 (zvn_53_2 (x := (((Y 2 0 0 3814)) % 60)) (by have q1 := zhx q1; have q82 := zhx q82; omega) (by have q1 := zhx q1; have q82 := zhx q82; omega) (by have q1 := zhx q1; have q82 := zhx q82; omega))
    have hR99 : zRx [] b Zc96 Ym97 := zRx_w hR93 (ac_53_2 (by have q1 := zhx q1; have q82 := zhx q82; have q83 := zhx q83; omega) (by have q1 := zhx q1; have q82 := zhx q82; have q83 := zhx q83; omega) (by have q1 := zhx q1; have q82 := zhx q82; have q83 := zhx q83; omega)) hZc96 hYm97 (by first | rfl | (have q1 := zhx q1; omega) | (simp only [zhx q1] <;> omega))
    have hF100 := zFc_u hF94 hZc96 rfl rfl
    have hG101 := yFr_u hG95 hYm97 (zcm_s (ac_53_2 (a := 3952 + 5 * ((Ym77 2 0 0 3814) % 60)) (x := (((Y 2 0 0 3814)) % 60)) (by have q1 := zhx q1; have q82 := zhx q82; omega) (by have q1 := zhx q1; have q82 := zhx q82; omega) (by have q1 := zhx q1; have q82 := zhx q82; omega))) rfl
    obtain ⟨Zc102, hZc102, hC⟩ := zl_x hC
    obtain ⟨Ym103, hYm103, g66⟩ := zl_x g66
    have hV104 : zV Ym103 := zV_n hV98 hYm103 (zvn_53_3 (x := (((Y 2 0 0 3814)) % 60)) (by have q1 := zhx q1; have q82 := zhx q82; omega) (by have q1 := zhx q1; have q82 := zhx q82; omega) (by have q1 := zhx q1; have q82 := zhx q82; omega))
    have hR105 : zRx [] b Zc102 Ym103 := zRx_w hR99 (ac_53_3 (by have q1 := zhx q1; have q82 := zhx q82; have q83 := zhx q83; omega) (by have q1 := zhx q1; have q82 := zhx q82; have q83 := zhx q83; omega) (by have q1 := zhx q1; have q82 := zhx q82; have q83 := zhx q83; omega)) hZc102 hYm103 (by first | rfl | (omega) | (simp only [] <;> omega) | (have q1 := zhx q1; omega))
    have hF106 := zFc_u hF100 hZc102 rfl rfl
    have hG107 := yFr_u hG101 hYm103 (zcm_s (ac_53_3 (a := 3953 + 5 * ((Ym77 2 0 0 3814) % 60)) (x := (((Y 2 0 0 3814)) % 60)) (by have q1 := zhx q1; have q82 := zhx q82; omega) (by have q1 := zhx q1; have q82 := zhx q82; omega) (by have q1 := zhx q1; have q82 := zhx q82; omega))) rfl
    have q108 := zhd (zVr_11_13 (a := 0) hV (by omega))
    have q109 := zhd (((((((zu_ne (k' := 2) (b' := 0) (i' := 0) (j' := 0) hYm103 (fun q => absurd q.2.2.2 (by have q1 := zhx q1; have q82 := zhx q82; omega))).trans (zu_ne (k' := 2) (b' := 0) (i' := 0) (j' := 0) hYm97 (fun q => absurd q.2.2.2 (by have q1 := zhx q1; have q82 := zhx q82; omega)))).trans (zu_ne (k' := 2) (b' := 0) (i' := 0) (j' := 0) hYm91 (fun q => absurd q.2.2.2 (by have q1 := zhx q1; have q82 := zhx q82; omega)))).trans (zu_ne (k' := 2) (b' := 0) (i' := 0) (j' := 0) hYm85 (fun q => absurd q.2.2.2 (by have q1 := zhx q1; have q82 := zhx q82; omega)))).trans (zu_ne (k' := 2) (b' := 0) (i' := 0) (j' := 0) hYm77 (fun q => absurd q.2.2.2 (by have q1 := zhx q1; omega)))).trans (zu_ne (k' := 2) (b' := 0) (i' := 0) (j' := 0) hYm69 (fun q => absurd q.2.2.2 (by have q1 := zhx q1; omega)))))
    have q110 := zhd (((zRl_11_13 (a := 0) (zRx_1 hR105) (by omega)).trans (zhx q109)))
    obtain ⟨Zc111, hZc111, hC⟩ := zl_x hC
    obtain ⟨Ym112, hYm112, g66⟩ := zl_x g66
    have hV113 : zV Ym112 := zV_n hV104 hYm112 (zvn_53_4 (x := (((Y 2 0 0 3814)) % 60)) (by have q1 := zhx q1; have q82 := zhx q82; omega) (by have q1 := zhx q1; have q82 := zhx q82; omega) (by have q1 := zhx q1; have q82 := zhx q82; omega))
    have hR114 : zRx [] b Zc111 Ym112 := zRx_w hR105 (ac_53_4 (by have q1 := zhx q1; have q82 := zhx q82; have q83 := zhx q83; omega) (by have q1 := zhx q1; have q82 := zhx q82; have q83 := zhx q83; omega) (by have q1 := zhx q1; have q82 := zhx q82; have q83 := zhx q83; omega)) hZc111 hYm112 (by first | rfl | (have q108 := zhx q108; have q109 := zhx q109; have q110 := zhx q110; omega) | (simp only [zhx q108, zhx q109, zhx q110] <;> omega) | (have q1 := zhx q1; have q108 := zhx q108; have q109 := zhx q109; have q110 := zhx q110; omega))
    have hF115 := zFc_u hF106 hZc111 rfl rfl
    have hG116 := yFr_u hG107 hYm112 (zcm_s (ac_53_4 (a := 3954 + 5 * ((Ym77 2 0 0 3814) % 60)) (x := (((Y 2 0 0 3814)) % 60)) (by have q1 := zhx q1; have q82 := zhx q82; omega) (by have q1 := zhx q1; have q82 := zhx q82; omega) (by have q1 := zhx q1; have q82 := zhx q82; omega))) rfl
    have q117 := zhd (((((((zu_ne (k' := 2) (b' := 0) (i' := 0) (j' := 3814) hYm112 (fun q => absurd q.2.2.2 (by have q1 := zhx q1; have q82 := zhx q82; omega))).trans (zu_ne (k' := 2) (b' := 0) (i' := 0) (j' := 3814) hYm103 (fun q => absurd q.2.2.2 (by have q1 := zhx q1; have q82 := zhx q82; omega)))).trans (zu_ne (k' := 2) (b' := 0) (i' := 0) (j' := 3814) hYm97 (fun q => absurd q.2.2.2 (by have q1 := zhx q1; have q82 := zhx q82; omega)))).trans (zu_ne (k' := 2) (b' := 0) (i' := 0) (j' := 3814) hYm91 (fun q => absurd q.2.2.2 (by have q1 := zhx q1; have q82 := zhx q82; omega)))).trans (zu_ne (k' := 2) (b' := 0) (i' := 0) (j' := 3814) hYm85 (fun q => absurd q.2.2.2 (by have q1 := zhx q1; have q82 := zhx q82; omega)))).trans (zhx q82)))
    have q118 := zhd (((zRl_11_12 (a := 3814) (zRx_1 hR114) (by omega)).trans (zhx q117)))
    obtain ⟨Zc119, hZc119, hC⟩ := zl_x hC
    obtain ⟨Ym120, hYm120, g66⟩ := zl_x g66
    have hV121 : zV Ym120 := zV_n hV113 hYm120 (zvn_11_12 (by have q1 := zhx q1; omega))
    have hR122 : zRx [] b Zc119 Ym120 := zRx_w hR114 (ac_11_12 (by have q1 := zhx q1; omega)) hZc119 hYm120 (by first | rfl | (have q117 := zhx q117; have q118 := zhx q118; omega) | (simp only [zhx q117, zhx q118] <;> omega) | (have q1 := zhx q1; have q117 := zhx q117; have q118 := zhx q118; omega))
    have hF123 := zFc_u hF115 hZc119 rfl rfl
    have hG124 := yFr_u hG116 hYm120 (zcm_s (ac_11_12 (a := 3814) (by have q1 := zhx q1; omega))) rfl
    have e9 : Ym120 = Yr67 := Eq.symm g66
    subst e9
    obtain rfl : C = _ := hC
    obtain rfl : M = _ := hM
    exact ⟨zRx_1 hR122, hV121, zFc_w hF123 (by decide), yFr_w hG124 (by decide)⟩

/-  |  -/
theorem rr_9405 {b : Int} {Z Y : qz_Z} {c : Int} (hRa : zR b Z Y) (hV : zV Y)   {C : qz_Z} {M : qz_Z} (hC : zE C (zf_9405 Z b c)) (hM : zE M (zf_9406 Y c)) : zR b C M ∧ zV M ∧ zFc [1112, 1400, 5300, 5301, 5302, 5303, 5304] b Z C ∧ yFr [1112, 1400, 5300, 5301, 5302, 5303, 5304] Y M := by
  have hRb := zRx_0 hRa
  have hF : zFc [1112, 1400, 5300, 5301, 5302, 5303, 5304] b Z Z := zFc_r
  have hG : yFr [1112, 1400, 5300, 5301, 5302, 5303, 5304] Y Y := yFr_r
  unfold zf_9405 at hC
  unfold zf_9406 at hM
  rcases zE_c hC with ⟨h1, hC⟩ | ⟨h1, hC⟩
  · obtain ⟨Yr3, g2, hM⟩ := zl_x hM
    replace g2 : zE _ _ := g2
    unfold zf_403 at g2
    replace g2 := zE_p g2 (by omega)
    have q4 := zhd ((zRl_14_s (x := 0) (a := 3800) hRa (by omega) (by omega) (by omega)))
    have q5 := zhd (congrArg (Y 2 0 0) (show (3800 + 0) = 3800 from (by omega)))
    obtain ⟨Zc6, hZc6, hC⟩ := zl_x hC
    obtain ⟨Ym7, hYm7, g2⟩ := zl_x g2
    have hV8 : zV Ym7 := zV_n hV hYm7 (zvn_14_s (x := 0) (by omega) (by omega) (by omega))
    have hR9 : zRx [] b Zc6 Ym7 := zRx_w hRb (ac_14_s (by omega) (by omega) (by omega)) hZc6 hYm7 (by first | (simp only [zhx q4, zhx q5] <;> omega) | rfl | (have q4 := zhx q4; have q5 := zhx q5; omega))
    have hF10 := zFc_u hF hZc6 rfl rfl
    have hG11 := yFr_u hG hYm7 (zcm_s (ac_14_s (a := 3800 + 0) (x := 0) (by omega) (by omega) (by omega))) rfl
    have q12 := zhd ((zu_ne (k' := 2) (b' := 0) (i' := 0) (j' := 3804) hYm7 (fun q => absurd q.2.2.2 (by omega))))
    have q13 := zhd (((zRl_14_s (x := 4) (a := 3804) (zRx_1 hR9) (by omega) (by omega) (by omega)).trans (zhx q12)))
    have q14 := zhd (congrArg (Ym7 2 0 0) (show (3800 + 4) = 3804 from (by omega)))
    obtain ⟨Zc15, hZc15, hC⟩ := zl_x hC
    obtain ⟨Ym16, hYm16, g2⟩ := zl_x g2
    have hV17 : zV Ym16 := zV_n hV8 hYm16 (zvn_14_s (x := 4) (by omega) (by omega) (by omega))
    have hR18 : zRx [] b Zc15 Ym16 := zRx_w hR9 (ac_14_s (by omega) (by omega) (by omega)) hZc15 hYm16 (by first | (simp only [zhx q12, zhx q13, zhx q14] <;> omega) | rfl | (have q12 := zhx q12; have q13 := zhx q13; have q14 := zhx q14; omega))
    have hF19 := zFc_u hF10 hZc15 rfl rfl
    have hG20 := yFr_u hG11 hYm16 (zcm_s (ac_14_s (a := 3800 + 4) (x := 4) (by omega) (by omega) (by omega))) rfl
    have q21 := zhd (((zu_ne (k' := 2) (b' := 0) (i' := 0) (j' := 3814) hYm16 (fun q => absurd q.2.2.2 (by omega))).trans (zu_ne (k' := 2) (b' := 0) (i' := 0) (j' := 3814) hYm7 (fun q => absurd q.2.2.2 (by omega)))))
    have q22 := zhd (((zRl_11_12 (a := 3814) (zRx_1 hR18) (by omega)).trans (zhx q21)))
    obtain ⟨Zc23, hZc23, hC⟩ := zl_x hC
    obtain ⟨Ym24, hYm24, g2⟩ := zl_x g2
    have hV25 : zV Ym24 := zV_n hV17 hYm24 (zvn_53_0 (x := (((Y 2 0 0 3814)) % 60)) (by have q21 := zhx q21; omega) (by have q21 := zhx q21; omega) (by have q21 := zhx q21; omega))
    have hR26 : zRx [] b Zc23 Ym24 := zRx_w hR18 (ac_53_0 (by have q21 := zhx q21; have q22 := zhx q22; omega) (by have q21 := zhx q21; have q22 := zhx q22; omega) (by have q21 := zhx q21; have q22 := zhx q22; omega)) hZc23 hYm24 (by first | rfl | (omega) | (simp only [] <;> omega))
    have hF27 := zFc_u hF19 hZc23 rfl rfl
    have hG28 := yFr_u hG20 hYm24 (zcm_s (ac_53_0 (a := 3950 + 5 * ((Ym16 2 0 0 3814) % 60)) (x := (((Y 2 0 0 3814)) % 60)) (by have q21 := zhx q21; omega) (by have q21 := zhx q21; omega) (by have q21 := zhx q21; omega))) rfl
    obtain ⟨Zc29, hZc29, hC⟩ := zl_x hC
    obtain ⟨Ym30, hYm30, g2⟩ := zl_x g2
    have hV31 : zV Ym30 := zV_n hV25 hYm30 (zvn_53_1 (x := (((Y 2 0 0 3814)) % 60)) (by have q21 := zhx q21; omega) (by have q21 := zhx q21; omega) (by have q21 := zhx q21; omega))
    have hR32 : zRx [] b Zc29 Ym30 := zRx_w hR26 (ac_53_1 (by have q21 := zhx q21; have q22 := zhx q22; omega) (by have q21 := zhx q21; have q22 := zhx q22; omega) (by have q21 := zhx q21; have q22 := zhx q22; omega)) hZc29 hYm30 (by first | rfl | (omega) | (simp only [] <;> omega))
    have hF33 := zFc_u hF27 hZc29 rfl rfl
    have hG34 := yFr_u hG28 hYm30 (zcm_s (ac_53_1 (a := 3951 + 5 * ((Ym16 2 0 0 3814) % 60)) (x := (((Y 2 0 0 3814)) % 60)) (by have q21 := zhx q21; omega) (by have q21 := zhx q21; omega) (by have q21 := zhx q21; omega))) rfl
    obtain ⟨Zc35, hZc35, hC⟩ := zl_x hC
    obtain ⟨Ym36, hYm36, g2⟩ := zl_x g2
    have hV37 : zV Ym36 := zV_n hV31 hYm36 (zvn_53_2 (x := (((Y 2 0 0 3814)) % 60)) (by have q21 := zhx q21; omega) (by have q21 := zhx q21; omega) (by have q21 := zhx q21; omega))
    have hR38 : zRx [] b Zc35 Ym36 := zRx_w hR32 (ac_53_2 (by have q21 := zhx q21; have q22 := zhx q22; omega) (by have q21 := zhx q21; have q22 := zhx q22; omega) (by have q21 := zhx q21; have q22 := zhx q22; omega)) hZc35 hYm36 (by first | rfl | (omega) | (simp only [] <;> omega))
    have hF39 := zFc_u hF33 hZc35 rfl rfl
    have hG40 := yFr_u hG34 hYm36 (zcm_s (ac_53_2 (a := 3952 + 5 * ((Ym16 2 0 0 3814) % 60)) (x := (((Y 2 0 0 3814)) % 60)) (by have q21 := zhx q21; omega) (by have q21 := zhx q21; omega) (by have q21 := zhx q21; omega))) rfl
    obtain ⟨Zc41, hZc41, hC⟩ := zl_x hC
    obtain ⟨Ym42, hYm42, g2⟩ := zl_x g2
    have hV43 : zV Ym42 := zV_n hV37 hYm42 (zvn_53_3 (x := (((Y 2 0 0 3814)) % 60)) (by have q21 := zhx q21; omega) (by have q21 := zhx q21; omega) (by have q21 := zhx q21; omega))
    have hR44 : zRx [] b Zc41 Ym42 := zRx_w hR38 (ac_53_3 (by have q21 := zhx q21; have q22 := zhx q22; omega) (by have q21 := zhx q21; have q22 := zhx q22; omega) (by have q21 := zhx q21; have q22 := zhx q22; omega)) hZc41 hYm42 (by first | rfl | (omega) | (simp only [] <;> omega))
    have hF45 := zFc_u hF39 hZc41 rfl rfl
    have hG46 := yFr_u hG40 hYm42 (zcm_s (ac_53_3 (a := 3953 + 5 * ((Ym16 2 0 0 3814) % 60)) (x := (((Y 2 0 0 3814)) % 60)) (by have q21 := zhx q21; omega) (by have q21 := zhx q21; omega) (by have q21 := zhx q21; omega))) rfl
    have q47 := zhd (zVr_11_13 (a := 0) hV (by omega))
    have q48 := zhd (((((((zu_ne (k' := 2) (b' := 0) (i' := 0) (j' := 0) hYm42 (fun q => absurd q.2.2.2 (by have q21 := zhx q21; omega))).trans (zu_ne (k' := 2) (b' := 0) (i' := 0) (j' := 0) hYm36 (fun q => absurd q.2.2.2 (by have q21 := zhx q21; omega)))).trans (zu_ne (k' := 2) (b' := 0) (i' := 0) (j' := 0) hYm30 (fun q => absurd q.2.2.2 (by have q21 := zhx q21; omega)))).trans (zu_ne (k' := 2) (b' := 0) (i' := 0) (j' := 0) hYm24 (fun q => absurd q.2.2.2 (by have q21 := zhx q21; omega)))).trans (zu_ne (k' := 2) (b' := 0) (i' := 0) (j' := 0) hYm16 (fun q => absurd q.2.2.2 (by omega)))).trans (zu_ne (k' := 2) (b' := 0) (i' := 0) (j' := 0) hYm7 (fun q => absurd q.2.2.2 (by omega)))))
    have q49 := zhd (((zRl_11_13 (a := 0) (zRx_1 hR44) (by omega)).trans (zhx q48)))
    obtain ⟨Zc50, hZc50, hC⟩ := zl_x hC
    obtain ⟨Ym51, hYm51, g2⟩ := zl_x g2
    have hV52 : zV Ym51 := zV_n hV43 hYm51 (zvn_53_4 (x := (((Y 2 0 0 3814)) % 60)) (by have q21 := zhx q21; omega) (by have q21 := zhx q21; omega) (by have q21 := zhx q21; omega))
    have hR53 : zRx [] b Zc50 Ym51 := zRx_w hR44 (ac_53_4 (by have q21 := zhx q21; have q22 := zhx q22; omega) (by have q21 := zhx q21; have q22 := zhx q22; omega) (by have q21 := zhx q21; have q22 := zhx q22; omega)) hZc50 hYm51 (by first | rfl | (have q47 := zhx q47; have q48 := zhx q48; have q49 := zhx q49; omega) | (simp only [zhx q47, zhx q48, zhx q49] <;> omega))
    have hF54 := zFc_u hF45 hZc50 rfl rfl
    have hG55 := yFr_u hG46 hYm51 (zcm_s (ac_53_4 (a := 3954 + 5 * ((Ym16 2 0 0 3814) % 60)) (x := (((Y 2 0 0 3814)) % 60)) (by have q21 := zhx q21; omega) (by have q21 := zhx q21; omega) (by have q21 := zhx q21; omega))) rfl
    have q56 := zhd (((((((zu_ne (k' := 2) (b' := 0) (i' := 0) (j' := 3814) hYm51 (fun q => absurd q.2.2.2 (by have q21 := zhx q21; omega))).trans (zu_ne (k' := 2) (b' := 0) (i' := 0) (j' := 3814) hYm42 (fun q => absurd q.2.2.2 (by have q21 := zhx q21; omega)))).trans (zu_ne (k' := 2) (b' := 0) (i' := 0) (j' := 3814) hYm36 (fun q => absurd q.2.2.2 (by have q21 := zhx q21; omega)))).trans (zu_ne (k' := 2) (b' := 0) (i' := 0) (j' := 3814) hYm30 (fun q => absurd q.2.2.2 (by have q21 := zhx q21; omega)))).trans (zu_ne (k' := 2) (b' := 0) (i' := 0) (j' := 3814) hYm24 (fun q => absurd q.2.2.2 (by have q21 := zhx q21; omega)))).trans (zhx q21)))
    have q57 := zhd (((zRl_11_12 (a := 3814) (zRx_1 hR53) (by omega)).trans (zhx q56)))
    obtain ⟨Zc58, hZc58, hC⟩ := zl_x hC
    obtain ⟨Ym59, hYm59, g2⟩ := zl_x g2
    have hV60 : zV Ym59 := zV_n hV52 hYm59 (zvn_11_12 (by omega))
    have hR61 : zRx [] b Zc58 Ym59 := zRx_w hR53 (ac_11_12 (by omega)) hZc58 hYm59 (by first | rfl | (have q56 := zhx q56; have q57 := zhx q57; omega) | (simp only [zhx q56, zhx q57] <;> omega))
    have hF62 := zFc_u hF54 hZc58 rfl rfl
    have hG63 := yFr_u hG55 hYm59 (zcm_s (ac_11_12 (a := 3814) (by omega))) rfl
    have e9 : Ym59 = Yr3 := Eq.symm g2
    subst e9
    obtain rfl : C = _ := hC
    obtain rfl : M = _ := hM
    exact ⟨zRx_1 hR61, hV60, zFc_w hF62 (by decide), yFr_w hG63 (by decide)⟩
  · obtain ⟨Yr65, g64, hM⟩ := zl_x hM
    replace g64 : zE _ _ := g64
    unfold zf_403 at g64
    replace g64 := zE_n g64 (by omega)
    have e9 : Y = Yr65 := Eq.symm g64
    subst e9
    obtain rfl : C = _ := hC
    obtain rfl : M = _ := hM
    exact ⟨zRx_1 hRb, hV, zFc_w hF (by decide), yFr_w hG (by decide)⟩
