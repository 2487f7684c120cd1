/- face inspector -/
theorem rf_inspector {Z Y : qz_Z} {dm : qz_Z → Int → Int → Int → Int → Int → Int → Int → qz_Z} {a1 a2 : Int} (hRa : zR 0 Z Y) (hV : zV Y) (hI : zI none Z) (hd : zDf dm) (hNi : zNi Y)  {C : qz_Z × Int × Int} {M : qz_Z × Int} (hC : zE C (zx_211 Z a1 a2)) (hM : zE M (zy_377 Y dm a1 a2)) : zR 0 C.1 M.1 ∧ zV M.1 ∧ zDd [1109, 5100, 5101, 5107] [1109, 5100, 5101, 5107, 99999] Z Y dm C.1 M.1 ∧ zThr [(13, 1), (15, 2)] C.2 (M.1 1 0 0 2) M.2 := by
  have hRb := zRx_0 hRa
  have hF : zFc [] 0 Z Z := zFc_r
  have hG : yFr [99999] Y Y := yFr_r
  unfold zx_211 at hC
  unfold zy_377 at hM
  rcases zE_c hC with ⟨h1, hC⟩ | ⟨h1, hC⟩
  · rcases zE_c hC with ⟨h2, hC⟩ | ⟨h2, hC⟩
    · have q3 := zhd (zVr_11_9 (a := 3500) hV (by omega))
      have q4 := zhd ((zRl_11_9 (a := 3500) hRa (by omega)))
      rcases zE_c hC with ⟨h5, hC⟩ | ⟨h5, hC⟩
      · replace hM := zE_n hM (by first | (have q3 := zhx q3; have q4 := zhx q4; omega) | (simp only [zhx q3, zhx q4] at h1 h2 h5 ⊢ <;> omega))
        replace hM := zE_n hM (by first | (have q3 := zhx q3; have q4 := zhx q4; omega) | (simp only [zhx q3, zhx q4] at h1 h2 h5 ⊢ <;> omega))
        replace hM := zE_n hM (by first | (have q3 := zhx q3; have q4 := zhx q4; omega) | (simp only [zhx q3, zhx q4] at h1 h2 h5 ⊢ <;> omega))
        replace hM := zE_n hM (by first | (have q3 := zhx q3; have q4 := zhx q4; omega) | (simp only [zhx q3, zhx q4] at h1 h2 h5 ⊢ <;> omega))
        obtain ⟨Ym6, hYm6, hM⟩ := zl_x hM
        have hR7 : zRx [] 0 Z Ym6 := zRx_o hRb hYm6 rfl
        have hV8 : zV Ym6 := zV_o hV hYm6 rfl
        have hG9 := yFr_o hG hYm6 rfl (.inr rfl) rfl
        have q10 := zhd ((zu_ne (k' := 2) (b' := 0) (i' := 0) (j' := 3500) hYm6 (fun q => absurd q.1 (by decide))))
        replace hM := zE_p hM (by first | (have q3 := zhx q3; have q4 := zhx q4; have q10 := zhx q10; omega) | (simp only [zhx q3, zhx q4, zhx q10] at h1 h2 h5 ⊢ <;> omega))
        obtain ⟨Ym11, hYm11, hM⟩ := zl_x hM
        have hR12 : zRx [] 0 Z Ym11 := zRx_o hR7 hYm11 rfl
        have hV13 : zV Ym11 := zV_o hV8 hYm11 rfl
        have hG14 := yFr_o hG9 hYm11 rfl (.inr rfl) rfl
        have th9 := (zu_at hYm11)
        obtain rfl : C = _ := hC
        obtain rfl : M = _ := hM
        exact ⟨zRx_1 hR12, hV13, ⟨Z, _, .inl ⟨rfl, yFr_w hG14 (by decide)⟩, zFc_r, yFr_r⟩, zThr_e th9 (by decide)⟩
      · replace hM := zE_n hM (by first | (have q3 := zhx q3; have q4 := zhx q4; omega) | (simp only [zhx q3, zhx q4] at h1 h2 h5 ⊢ <;> omega))
        replace hM := zE_n hM (by first | (have q3 := zhx q3; have q4 := zhx q4; omega) | (simp only [zhx q3, zhx q4] at h1 h2 h5 ⊢ <;> omega))
        replace hM := zE_n hM (by first | (have q3 := zhx q3; have q4 := zhx q4; omega) | (simp only [zhx q3, zhx q4] at h1 h2 h5 ⊢ <;> omega))
        replace hM := zE_n hM (by first | (have q3 := zhx q3; have q4 := zhx q4; omega) | (simp only [zhx q3, zhx q4] at h1 h2 h5 ⊢ <;> omega))
        obtain ⟨Ym15, hYm15, hM⟩ := zl_x hM
        have hR16 : zRx [] 0 Z Ym15 := zRx_o hRb hYm15 rfl
        have hV17 : zV Ym15 := zV_o hV hYm15 rfl
        have hG18 := yFr_o hG hYm15 rfl (.inr rfl) rfl
        have q19 := zhd ((zu_ne (k' := 2) (b' := 0) (i' := 0) (j' := 3500) hYm15 (fun q => absurd q.1 (by decide))))
        replace hM := zE_n hM (by first | (have q3 := zhx q3; have q4 := zhx q4; have q19 := zhx q19; omega) | (simp only [zhx q3, zhx q4, zhx q19] at h1 h2 h5 ⊢ <;> omega))
        obtain ⟨Ym20, hYm20, hM⟩ := zl_x hM
        have hR21 : zRx [] 0 Z Ym20 := zRx_o hR16 hYm20 rfl
        have hV22 : zV Ym20 := zV_o hV17 hYm20 rfl
        have hG23 := yFr_o hG18 hYm20 rfl (.inr rfl) rfl
        obtain ⟨Zc24, hZc24, hC⟩ := zl_x hC
        obtain ⟨Ym25, hYm25, hM⟩ := zl_x hM
        have hR26 : zRx [] 0 Zc24 Ym25 := zRx_dd hR21 hI hd hZc24 hYm25
        have hV27 : zV Ym25 := zV_dm hV22 hd hYm25
        have hNi_28 : zNi Ym25 := (zNi_f (zNi_f hNi hV hG23.1 ⟨rfl, rfl⟩) hV22 (yFa_dm hd hYm25) ⟨rfl, rfl⟩)
        have hF29 : zFc [1109, 5100, 5101, 5107] 0 Zc24 Zc24 := zFc_r
        have hG30 : yFr [1109, 5100, 5101, 5107] Ym25 Ym25 := yFr_r
        have q31 := zhd ((((yFa_dm hd hYm25 (3500) rfl).trans (zu_ne (k' := 2) (b' := 0) (i' := 0) (j' := 3500) hYm20 (fun q => absurd q.1 (by decide)))).trans (zhx q19)))
        have q32 := zhd (((zRl_11_9 (a := 3500) (zRx_1 hR26) (by omega)).trans (zhx q31)))
        obtain ⟨Yr34, v35, g33, hM⟩ := zl_x2 hM
        replace g33 : zE _ _ := g33
        unfold zf_359 at g33
        obtain ⟨Yi36, v37, g38, g33⟩ := zl_x2 g33
        have d39 : Ym25 = Yi36 := ((show Yi36 = _ from congrArg (fun x9 => x9.1) (show _ = _ from g38)).trans (congrArg (fun x9 => x9.1) (z359_i (x3 := (Ym25 2 0 0 3500)) (Y := Ym25) (fun a g1 g2 => hNi_28 a g1 (by have q3 := zhx q3; have q4 := zhx q4; have q31 := zhx q31; omega)) 11 0 (by omega) (by omega) (by decide)))).symm
        subst d39
        obtain ⟨Zc40, hZc40, hC⟩ := zl_x hC
        obtain ⟨Ym41, hYm41, g33⟩ := zl_x g33
        have hV42 : zV Ym41 := zV_n hV27 hYm41 (zvn_51_0 (x := (Y 2 0 0 3500)) (by have q3 := zhx q3; have q4 := zhx q4; have q31 := zhx q31; omega) (by have q3 := zhx q3; have q4 := zhx q4; have q31 := zhx q31; omega) (by have q3 := zhx q3; have q4 := zhx q4; have q31 := zhx q31; omega))
        have hR43 : zRx [] 0 Zc40 Ym41 := zRx_w hR26 (ac_51_0 (by have q3 := zhx q3; have q4 := zhx q4; have q31 := zhx q31; have q32 := zhx q32; omega) (by have q3 := zhx q3; have q4 := zhx q4; have q31 := zhx q31; have q32 := zhx q32; omega) (by have q3 := zhx q3; have q4 := zhx q4; have q31 := zhx q31; have q32 := zhx q32; omega)) hZc40 hYm41 (by first | rfl | (omega) | (simp only [] <;> omega) | (have q3 := zhx q3; have q4 := zhx q4; omega))
        have hF44 := zFc_u hF29 hZc40 rfl rfl
        have hG45 := yFr_u hG30 hYm41 (zcm_s (ac_51_0 (a := 3520 + 10 * (Ym25 2 0 0 3500)) (x := (Y 2 0 0 3500)) (by have q3 := zhx q3; have q4 := zhx q4; have q31 := zhx q31; omega) (by have q3 := zhx q3; have q4 := zhx q4; have q31 := zhx q31; omega) (by have q3 := zhx q3; have q4 := zhx q4; have q31 := zhx q31; omega))) rfl
        obtain ⟨Zc46, hZc46, hC⟩ := zl_x hC
        obtain ⟨Ym47, hYm47, g33⟩ := zl_x g33
        have hV48 : zV Ym47 := zV_n hV42 hYm47 (zvn_51_1 (x := (Y 2 0 0 3500)) (by have q3 := zhx q3; have q4 := zhx q4; have q31 := zhx q31; omega) (by have q3 := zhx q3; have q4 := zhx q4; have q31 := zhx q31; omega) (by have q3 := zhx q3; have q4 := zhx q4; have q31 := zhx q31; omega))
        have hR49 : zRx [] 0 Zc46 Ym47 := zRx_w hR43 (ac_51_1 (by have q3 := zhx q3; have q4 := zhx q4; have q31 := zhx q31; have q32 := zhx q32; omega) (by have q3 := zhx q3; have q4 := zhx q4; have q31 := zhx q31; have q32 := zhx q32; omega) (by have q3 := zhx q3; have q4 := zhx q4; have q31 := zhx q31; have q32 := zhx q32; omega)) hZc46 hYm47 (by first | rfl | (omega) | (simp only [] <;> omega) | (have q3 := zhx q3; have q4 := zhx q4; omega))
        have hF50 := zFc_u hF44 hZc46 rfl rfl
        have hG51 := yFr_u hG45 hYm47 (zcm_s (ac_51_1 (a := 3521 + 10 * (Ym25 2 0 0 3500)) (x := (Y 2 0 0 3500)) (by have q3 := zhx q3; have q4 := zhx q4; have q31 := zhx q31; omega) (by have q3 := zhx q3; have q4 := zhx q4; have q31 := zhx q31; omega) (by have q3 := zhx q3; have q4 := zhx q4; have q31 := zhx q31; omega))) rfl
        obtain ⟨Zc52, hZc52, hC⟩ := zl_x hC
        obtain ⟨Ym53, hYm53, g33⟩ := zl_x g33
        have hV54 : zV Ym53 := zV_n hV48 hYm53 (zvn_51_7 (x := (Y 2 0 0 3500)) (by have q3 := zhx q3; have q4 := zhx q4; have q31 := zhx q31; omega) (by have q3 := zhx q3; have q4 := zhx q4; have q31 := zhx q31; omega) (by have q3 := zhx q3; have q4 := zhx q4; have q31 := zhx q31; omega))
        have hR55 : zRx [] 0 Zc52 Ym53 := zRx_w hR49 (ac_51_7 (by have q3 := zhx q3; have q4 := zhx q4; have q31 := zhx q31; have q32 := zhx q32; omega) (by have q3 := zhx q3; have q4 := zhx q4; have q31 := zhx q31; have q32 := zhx q32; omega) (by have q3 := zhx q3; have q4 := zhx q4; have q31 := zhx q31; have q32 := zhx q32; omega)) hZc52 hYm53 (by first | rfl | (omega) | (simp only [] <;> omega) | (have q3 := zhx q3; have q4 := zhx q4; omega))
        have hF56 := zFc_u hF50 hZc52 rfl rfl
        have hG57 := yFr_u hG51 hYm53 (zcm_s (ac_51_7 (a := 3527 + 10 * (Ym25 2 0 0 3500)) (x := (Y 2 0 0 3500)) (by have q3 := zhx q3; have q4 := zhx q4; have q31 := zhx q31; omega) (by have q3 := zhx q3; have q4 := zhx q4; have q31 := zhx q31; omega) (by have q3 := zhx q3; have q4 := zhx q4; have q31 := zhx q31; omega))) rfl
        have q58 := zhd (((((zu_ne (k' := 2) (b' := 0) (i' := 0) (j' := 3500) hYm53 (fun q => absurd q.2.2.2 (by have q3 := zhx q3; have q4 := zhx q4; have q31 := zhx q31; omega))).trans (zu_ne (k' := 2) (b' := 0) (i' := 0) (j' := 3500) hYm47 (fun q => absurd q.2.2.2 (by have q3 := zhx q3; have q4 := zhx q4; have q31 := zhx q31; omega)))).trans (zu_ne (k' := 2) (b' := 0) (i' := 0) (j' := 3500) hYm41 (fun q => absurd q.2.2.2 (by have q3 := zhx q3; have q4 := zhx q4; have q31 := zhx q31; omega)))).trans (zhx q31)))
        have q59 := zhd (((zRl_11_9 (a := 3500) (zRx_1 hR55) (by omega)).trans (zhx q58)))
        obtain ⟨Zc60, hZc60, hC⟩ := zl_x hC
        obtain ⟨Ym61, hYm61, g33⟩ := zl_x g33
        have hV62 : zV Ym61 := zV_i hV54 hYm61 (zvi_11_9 (by have q3 := zhx q3; have q4 := zhx q4; omega)) (by have q3 := zhx q3; have q4 := zhx q4; have q58 := zhx q58; first | omega | exact w3_r _)
        have hR63 : zRx [] 0 Zc60 Ym61 := zRx_w hR55 (ac_11_9 (by have q3 := zhx q3; have q4 := zhx q4; omega)) hZc60 hYm61 (by first | rfl | (have q3 := zhx q3; have q58 := zhx q58; have q59 := zhx q59; omega) | (simp only [zhx q3, zhx q58, zhx q59] <;> omega) | (have q3 := zhx q3; have q4 := zhx q4; have q58 := zhx q58; have q59 := zhx q59; omega))
        have hF64 := zFc_u hF56 hZc60 rfl rfl
        have hG65 := yFr_u hG57 hYm61 (zcm_s (ac_11_9 (a := 3500) (by have q3 := zhx q3; have q4 := zhx q4; omega))) rfl
        have e9 : Ym61 = Yr34 := Eq.symm (show Yr34 = _ from congrArg (fun x9 => x9.1) (show _ = _ from g33))
        subst e9
        have e9 : (Ym25 2 0 0 3500) = v35 := Eq.symm (show v35 = _ from congrArg (fun x9 => x9.2) (show _ = _ from g33))
        subst e9
        have th9 := ((((((zu_ne (k' := 1) (b' := 0) (i' := 0) (j' := 2) hYm61 (fun q => absurd q.1 (by decide))).trans (zu_ne (k' := 1) (b' := 0) (i' := 0) (j' := 2) hYm53 (fun q => absurd q.1 (by decide)))).trans (zu_ne (k' := 1) (b' := 0) (i' := 0) (j' := 2) hYm47 (fun q => absurd q.1 (by decide)))).trans (zu_ne (k' := 1) (b' := 0) (i' := 0) (j' := 2) hYm41 (fun q => absurd q.1 (by decide)))).trans (zTh_dm hd hYm25 (by decide))).trans (zu_at hYm20))
        obtain rfl : C = _ := hC
        obtain rfl : M = _ := hM
        exact ⟨zRx_1 hR63, hV62, ⟨Zc24, Ym25, .inr ⟨22, a1, a2, 0, 0, 0, 0, 23, Ym20, hZc24, yFr_w hG23 (by decide), hYm25, (by unfold zcode; omega)⟩, zFc_w hF64 (by decide), yFr_w hG65 (by decide)⟩, zThr_a th9 (by first | rfl | (have q3 := zhx q3; have q4 := zhx q4; have q31 := zhx q31; have q59 := zhx q59; omega) | (simp only [zhx q3, zhx q4, zhx q31, zhx q59] <;> omega) | (have q3 := zhx q3; have q4 := zhx q4; have q31 := zhx q31; have q59 := zhx q59; refine w3z ?_ ?_ ?_ <;> omega) | (have q3 := zhx q3; have q4 := zhx q4; have q31 := zhx q31; have q59 := zhx q59; refine w3y ?_ ?_ ?_ <;> omega) | (have q3 := zhx q3; have q4 := zhx q4; have q31 := zhx q31; have q59 := zhx q59; refine z2o ?_ ?_ ?_ <;> omega))⟩
    · replace hM := zE_n hM (by omega)
      replace hM := zE_n hM (by omega)
      rcases zE_c hM with ⟨h66, hM⟩ | ⟨h66, hM⟩
      · obtain ⟨Ym67, hYm67, hM⟩ := zl_x hM
        have hR68 : zRx [] 0 Z Ym67 := zRx_o hRb hYm67 rfl
        have hV69 : zV Ym67 := zV_o hV hYm67 rfl
        have hG70 := yFr_o hG hYm67 rfl (.inr rfl) rfl
        have th9 := (zu_at hYm67)
        obtain rfl : C = _ := hC
        obtain rfl : M = _ := hM
        exact ⟨zRx_1 hR68, hV69, ⟨Z, _, .inl ⟨rfl, yFr_w hG70 (by decide)⟩, zFc_r, yFr_r⟩, zThr_e th9 (by decide)⟩
      · rcases zE_c hM with ⟨h71, hM⟩ | ⟨h71, hM⟩
        · obtain ⟨Ym72, hYm72, hM⟩ := zl_x hM
          have hR73 : zRx [] 0 Z Ym72 := zRx_o hRb hYm72 rfl
          have hV74 : zV Ym72 := zV_o hV hYm72 rfl
          have hG75 := yFr_o hG hYm72 rfl (.inr rfl) rfl
          have th9 := (zu_at hYm72)
          obtain rfl : C = _ := hC
          obtain rfl : M = _ := hM
          exact ⟨zRx_1 hR73, hV74, ⟨Z, _, .inl ⟨rfl, yFr_w hG75 (by decide)⟩, zFc_r, yFr_r⟩, zThr_e th9 (by decide)⟩
        · obtain ⟨Ym76, hYm76, hM⟩ := zl_x hM
          have hR77 : zRx [] 0 Z Ym76 := zRx_o hRb hYm76 rfl
          have hV78 : zV Ym76 := zV_o hV hYm76 rfl
          have hG79 := yFr_o hG hYm76 rfl (.inr rfl) rfl
          have q80 := zhd (zVr_11_9 (a := 3500) hV (by omega))
          have q81 := zhd ((zu_ne (k' := 2) (b' := 0) (i' := 0) (j' := 3500) hYm76 (fun q => absurd q.1 (by decide))))
          rcases zE_c hM with ⟨h82, hM⟩ | ⟨h82, hM⟩
          · obtain ⟨Ym83, hYm83, hM⟩ := zl_x hM
            have hR84 : zRx [] 0 Z Ym83 := zRx_o hR77 hYm83 rfl
            have hV85 : zV Ym83 := zV_o hV78 hYm83 rfl
            have hG86 := yFr_o hG79 hYm83 rfl (.inr rfl) rfl
            exact False.elim (by have q80 := zhx q80; have q81 := zhx q81; first | omega | grind)
          · obtain ⟨Ym87, hYm87, hM⟩ := zl_x hM
            have hR88 : zRx [] 0 Z Ym87 := zRx_o hR77 hYm87 rfl
            have hV89 : zV Ym87 := zV_o hV78 hYm87 rfl
            have hG90 := yFr_o hG79 hYm87 rfl (.inr rfl) rfl
            exact False.elim (by have q80 := zhx q80; have q81 := zhx q81; first | omega | grind)
  · rcases zE_c hM with ⟨h91, hM⟩ | ⟨h91, hM⟩
    · obtain ⟨Ym92, hYm92, hM⟩ := zl_x hM
      have hR93 : zRx [] 0 Z Ym92 := zRx_o hRb hYm92 rfl
      have hV94 : zV Ym92 := zV_o hV hYm92 rfl
      have hG95 := yFr_o hG hYm92 rfl (.inr rfl) rfl
      have th9 := (zu_at hYm92)
      obtain rfl : C = _ := hC
      obtain rfl : M = _ := hM
      exact ⟨zRx_1 hR93, hV94, ⟨Z, _, .inl ⟨rfl, yFr_w hG95 (by decide)⟩, zFc_r, yFr_r⟩, zThr_e th9 (by decide)⟩
    · rcases zE_c hM with ⟨h96, hM⟩ | ⟨h96, hM⟩
      · obtain ⟨Ym97, hYm97, hM⟩ := zl_x hM
        have hR98 : zRx [] 0 Z Ym97 := zRx_o hRb hYm97 rfl
        have hV99 : zV Ym97 := zV_o hV hYm97 rfl
        have hG100 := yFr_o hG hYm97 rfl (.inr rfl) rfl
        have th9 := (zu_at hYm97)
        obtain rfl : C = _ := hC
        obtain rfl : M = _ := hM
        exact ⟨zRx_1 hR98, hV99, ⟨Z, _, .inl ⟨rfl, yFr_w hG100 (by decide)⟩, zFc_r, yFr_r⟩, zThr_e th9 (by decide)⟩
      · rcases zE_c hM with ⟨h101, hM⟩ | ⟨h101, hM⟩
        · obtain ⟨Ym102, hYm102, hM⟩ := zl_x hM
          have hR103 : zRx [] 0 Z Ym102 := zRx_o hRb hYm102 rfl
          have hV104 : zV Ym102 := zV_o hV hYm102 rfl
          have hG105 := yFr_o hG hYm102 rfl (.inr rfl) rfl
          have th9 := (zu_at hYm102)
          obtain rfl : C = _ := hC
          obtain rfl : M = _ := hM
          exact ⟨zRx_1 hR103, hV104, ⟨Z, _, .inl ⟨rfl, yFr_w hG105 (by decide)⟩, zFc_r, yFr_r⟩, zThr_e th9 (by decide)⟩
        · rcases zE_c hM with ⟨h106, hM⟩ | ⟨h106, hM⟩
          · obtain ⟨Ym107, hYm107, hM⟩ := zl_x hM
            have hR108 : zRx [] 0 Z Ym107 := zRx_o hRb hYm107 rfl
            have hV109 : zV Ym107 := zV_o hV hYm107 rfl
            have hG110 := yFr_o hG hYm107 rfl (.inr rfl) rfl
            have th9 := (zu_at hYm107)
            obtain rfl : C = _ := hC
            obtain rfl : M = _ := hM
            exact ⟨zRx_1 hR108, hV109, ⟨Z, _, .inl ⟨rfl, yFr_w hG110 (by decide)⟩, zFc_r, yFr_r⟩, zThr_e th9 (by decide)⟩
          · obtain ⟨Ym111, hYm111, hM⟩ := zl_x hM
            have hR112 : zRx [] 0 Z Ym111 := zRx_o hRb hYm111 rfl
            have hV113 : zV Ym111 := zV_o hV hYm111 rfl
            have hG114 := yFr_o hG hYm111 rfl (.inr rfl) rfl
            have q115 := zhd (zVr_11_9 (a := 3500) hV (by omega))
            have q116 := zhd ((zu_ne (k' := 2) (b' := 0) (i' := 0) (j' := 3500) hYm111 (fun q => absurd q.1 (by decide))))
            rcases zE_c hM with ⟨h117, hM⟩ | ⟨h117, hM⟩
            · obtain ⟨Ym118, hYm118, hM⟩ := zl_x hM
              have hR119 : zRx [] 0 Z Ym118 := zRx_o hR112 hYm118 rfl
              have hV120 : zV Ym118 := zV_o hV113 hYm118 rfl
              have hG121 := yFr_o hG114 hYm118 rfl (.inr rfl) rfl
              exact False.elim (by have q115 := zhx q115; have q116 := zhx q116; first | omega | grind)
            · obtain ⟨Ym122, hYm122, hM⟩ := zl_x hM
              have hR123 : zRx [] 0 Z Ym122 := zRx_o hR112 hYm122 rfl
              have hV124 : zV Ym122 := zV_o hV113 hYm122 rfl
              have hG125 := yFr_o hG114 hYm122 rfl (.inr rfl) rfl
              exact False.elim (by have q115 := zhx q115; have q116 := zhx q116; first | omega | grind)
