/- face inspector -/
theorem rf_inspector {Z Y : qz_Z} {dm : qz_Z → Int → Int → Int → Int → Int → Int → Int → qz_Z} {a1 a2 : Int} (hRa : zR 0 Z Y) (hV : zV Y) (hI : zI none Z) (hd : zDf dm) (hNi : zNi Y)  {C : qz_Z × Int × Int} {M : qz_Z × Int} (hC : zE C (zx_211 Z a1 a2)) (hM : zE M (zy_377 Y dm a1 a2)) : zR 0 C.1 M.1 ∧ zV M.1 ∧ zDd [1109, 5100, 5101, 5107] [1109, 5100, 5101, 5107, 99999] Z Y dm C.1 M.1 ∧ zThr [(13, 1), (15, 2)] C.2 (M.1 1 0 0 2) M.2 ∧ zNi M.1 := by
  have hRb := zRx_0 hRa
  have hF : zFc [] 0 Z Z := zFc_r
  have hG : yFr [99999] Y Y := yFr_r
  unfold zx_211 at hC
  unfold zy_377 at hM
  rcases zE_c hC with ⟨h1, hC⟩ | ⟨h1, hC⟩
  · rcases zE_c hC with ⟨h2, hC⟩ | ⟨h2, hC⟩
    · have q3 := zhd (zVr_11_9 (a := 3500) hV (by omega))
      have q4 := zhd ((zRl_11_9 (a := 3500) hRa (by omega)))
      rcases zE_c hC with ⟨h5, hC⟩ | ⟨h5, hC⟩
      · replace hM := zE_n hM (by first | (have q3 := zhx q3; have q4 := zhx q4; omega) | (simp only [zhx q3, zhx q4] at h1 h2 h5 ⊢ <;> omega))
        replace hM := zE_n hM (by first | (have q3 := zhx q3; have q4 := zhx q4; omega) | (simp only [zhx q3, zhx q4] at h1 h2 h5 ⊢ <;> omega))
        replace hM := zE_n hM (by first | (have q3 := zhx q3; have q4 := zhx q4; omega) | (simp only [zhx q3, zhx q4] at h1 h2 h5 ⊢ <;> omega))
        replace hM := zE_n hM (by first | (have q3 := zhx q3; have q4 := zhx q4; omega) | (simp only [zhx q3, zhx q4] at h1 h2 h5 ⊢ <;> omega))
        obtain ⟨Ym6, hYm6, hM⟩ := zl_x hM
        have hR7 : zRx [] 0 Z Ym6 := zRx_o hRb hYm6 rfl
        have hV8 : zV Ym6 := zV_o hV hYm6 rfl
        have hG9 := yFr_o hG hYm6 rfl (.inr rfl) rfl
        have q10 := zhd ((zu_ne (k' := 2) (b' := 0) (i' := 0) (j' := 3500) hYm6 (fun q => absurd q.1 (by decide))))
        replace hM := zE_p hM (by first | (have q3 := zhx q3; have q4 := zhx q4; have q10 := zhx q10; omega) | (simp only [zhx q3, zhx q4, zhx q10] at h1 h2 h5 ⊢ <;> omega))
        obtain ⟨Ym11, hYm11, hM⟩ := zl_x hM
        have hR12 : zRx [] 0 Z Ym11 := zRx_o hR7 hYm11 rfl
        have hV13 : zV Ym11 := zV_o hV8 hYm11 rfl
        have hG14 := yFr_o hG9 hYm11 rfl (.inr rfl) rfl
        have th9 := (zu_at hYm11)
        obtain rfl : C = _ := hC
        obtain rfl : M = _ := hM
        exact ⟨zRx_1 hR12, hV13, ⟨Z, _, .inl ⟨rfl, yFr_w hG14 (by decide)⟩, zFc_r, yFr_r⟩, zThr_e th9 (by decide), (zNi_f hNi hV hG14.1 ⟨rfl, rfl⟩)⟩
      · replace hM := zE_n hM (by first | (have q3 := zhx q3; have q4 := zhx q4; omega) | (simp only [zhx q3, zhx q4] at h1 h2 h5 ⊢ <;> omega))
        replace hM := zE_n hM (by first | (have q3 := zhx q3; have q4 := zhx q4; omega) | (simp only [zhx q3, zhx q4] at h1 h2 h5 ⊢ <;> omega))
        replace hM := zE_n hM (by first | (have q3 := zhx q3; have q4 := zhx q4; omega) | (simp only [zhx q3, zhx q4] at h1 h2 h5 ⊢ <;> omega))
        replace hM := zE_n hM (by first | (have q3 := zhx q3; have q4 := zhx q4; omega) | (simp only [zhx q3, zhx q4] at h1 h2 h5 ⊢ <;> omega))
        obtain ⟨Ym15, hYm15, hM⟩ := zl_x hM
        have hR16 : zRx [] 0 Z Ym15 := zRx_o hRb hYm15 rfl
        have hV17 : zV Ym15 := zV_o hV hYm15 rfl
        have hG18 := yFr_o hG hYm15 rfl (.inr rfl) rfl
        have q19 := zhd ((zu_ne (k' := 2) (b' := 0) (i' := 0) (j' := 3500) hYm15 (fun q => absurd q.1 (by decide))))
        replace hM := zE_n hM (by first | (have q3 := zhx q3; have q4 := zhx q4; have q19 := zhx q19; omega) | (simp only [zhx q3, zhx q4, zhx q19] at h1 h2 h5 ⊢ <;> omega))
        obtain ⟨Ym20, hYm20, hM⟩ := zl_x hM
        have hR21 : zRx [] 0 Z Ym20 := zRx_o hR16 hYm20 rfl
        have hV22 : zV Ym20 := zV_o hV17 hYm20 rfl
        have hG23 := yFr_o hG18 hYm20 rfl (.inr rfl) rfl
        obtain ⟨Zc24, hZc24, hC⟩ := zl_x hC
        obtain ⟨Ym25, hYm25, hM⟩ := zl_x hM
        have hR26 : zRx [] 0 Zc24 Ym25 := zRx_dd hR21 hI hd hZc24 hYm25
        have hV27 : zV Ym25 := zV_dm hV22 hd hYm25
        have hNi_28 : zNi Ym25 := (zNi_f (zNi_f hNi hV hG23.1 ⟨rfl, rfl⟩) hV22 (yFa_dm hd hYm25) ⟨rfl, rfl⟩)
        have hF29 : zFc [1109, 5100, 5101, 5107] 0 Zc24 Zc24 := zFc_r
        have hG30 : yFr [1109, 5100, 5101, 5107] Ym25 Ym25 := yFr_r
        have q31 := zhd ((((yFa_dm hd hYm25 (3500) rfl).trans (zu_ne (k' := 2) (b' := 0) (i' := 0) (j' := 3500) hYm20 (fun q => absurd q.1 (by decide)))).trans (zhx q19)))
        have q32 := zhd (((zRl_11_9 (a := 3500) (zRx_1 hR26) (by omega)).trans (zhx q31)))
        obtain ⟨Yr34, v35, g33, hM⟩ := zl_x2 hM
        replace g33 : zE _ _ := g33
        unfold zf_359 at g33
        obtain ⟨Yi36, v37, g38, g33⟩ := zl_x2 g33
        have d39 : Ym25 = Yi36 := ((show Yi36 = _ from congrArg (fun x9 => x9.1) (show _ = _ from g38)).trans (congrArg (fun x9 => x9.1) (z359_i (x3 := (Ym25 2 0 0 3500)) (Y := Ym25) (fun a g1 g2 => hNi_28 a g1 (by have q3 := zhx q3; have q4 := zhx q4; have q31 := zhx q31; omega)) 11 0 (by omega) (by omega) (by decide)))).symm
        subst d39
        obtain ⟨Zc40, hZc40, hC⟩ := zl_x hC
        obtain ⟨Ym41, hYm41, g33⟩ := zl_x g33
        have hV42 : zV Ym41 := zV_n hV27 hYm41 (zvn_51_0 (x := (Y 2 0 0 3500)) (by have q3 := zhx q3; have q4 := zhx q4; have q31 := zhx q31; omega) (by have q3 := zhx q3; have q4 := zhx q4; have q31 := zhx q31; omega) (by have q3 := zhx q3; have q4 := zhx q4; have q31 := zhx q31; omega))
        have hR43 : zRx [] 0 Zc40 Ym41 := zRx_w hR26 (ac_51_0 (by have q3 := zhx q3; have q4 := zhx q4; have q31 := zhx q31; have q32 := zhx q32; omega) (by have q3 := zhx q3; have q4 := zhx q4; have q31 := zhx q31; have q32 := zhx q32; omega) (by have q3 := zhx q3; have q4 := zhx q4; have q31 := zhx q31; have q32 := zhx q32; omega)) hZc40 hYm41 (by first | rfl | (omega) | (simp only [] <;> omega) | (have q3 := zhx q3; have q4 := zhx q4; omega))
        have hF44 := zFc_u hF29 hZc40 rfl rfl
        have hG45 := yFr_u hG30 hYm41 (zcm_s (ac_51_0 (a := 3520 + 10 * (Ym25 2 0 0 3500)) (x := (Y 2 0 0 3500)) (by have q3 := zhx q3; have q4 := zhx q4; have q31 := zhx q31; omega) (by have q3 := zhx q3; have q4 := zhx q4; have q31 := zhx q31; omega) (by have q3 := zhx q3; have q4 := zhx q4; have q31 := zhx q31; omega))) rfl
        obtain ⟨Zc46, hZc46, hC⟩ := zl_x hC
        obtain ⟨Ym47, hYm47, g33⟩ := zl_x g33
        have hV48 : zV Ym47 := zV_n hV42 hYm47 (zvn_51_1 (x := (Y 2 0 0 3500)) (by have q3 := zhx q3; have q4 := zhx q4; have q31 := zhx q31; omega) (by have q3 := zhx q3; have q4 := zhx q4; have q31 := zhx q31; omega) (by have q3 := zhx q3; have q4 := zhx q4; have q31 := zhx q31; omega))
        have hR49 : zRx [] 0 Zc46 Ym47 := zRx_w hR43 (ac_51_1 (by have q3 := zhx q3; have q4 := zhx q4; have q31 := zhx q31; have q32 := zhx q32; omega) (by have q3 := zhx q3; have q4 := zhx q4; have q31 := zhx q31; have q32 := zhx q32; omega) (by have q3 := zhx q3; have q4 := zhx q4; have q31 := zhx q31; have q32 := zhx q32; omega)) hZc46 hYm47 (by first | rfl | (omega) | (simp only [] <;> omega) | (have q3 := zhx q3; have q4 := zhx q4; omega))
        have hF50 := zFc_u hF44 hZc46 rfl rfl
        have hG51 := yFr_u hG45 hYm47 (zcm_s (ac_51_1 (a := 3521 + 10 * (Ym25 2 0 0 3500)) (x := (Y 2 0 0 3500)) (by have q3 := zhx q3; have q4 := zhx q4; have q31 := zhx q31; omega) (by have q3 := zhx q3; have q4 := zhx q4; have q31 := zhx q31; omega) (by have q3 := zhx q3; have q4 := zhx q4; have q31 := zhx q31; omega))) rfl
        obtain ⟨Zc52, hZc52, hC⟩ := zl_x hC
        obtain ⟨Ym53, hYm53, g33⟩ := zl_x g33
        have hV54 : zV Ym53 := zV_n hV48 hYm53 (zvn_51_7 (x := (Y 2 0 0 3500)) (by have q3 := zhx q3; have q4 := zhx q4; have q31 := zhx q31; omega) (by have q3 := zhx q3; have q4 := zhx q4; have q31 := zhx q31; omega) (by have q3 := zhx q3; have q4 := zhx q4; have q31 := zhx q31; omega))
        have hR55 : zRx [] 0 Zc52 Ym53 := zRx_w hR49 (ac_51_7 (by have q3 := zhx q3; have q4 := zhx q4; have q31 := zhx q31; have q32 := zhx q32; omega) (by have q3 := zhx q3; have q4 := zhx q4; have q31 := zhx q31; have q32 := zhx q32; omega) (by have q3 := zhx q3; have q4 := zhx q4; have q31 := zhx q31; have q32 := zhx q32; omega)) hZc52 hYm53 (by first | rfl | (omega) | (simp only [] <;> omega) | (have q3 := zhx q3; have q4 := zhx q4; omega))
        have hF56 := zFc_u hF50 hZc52 rfl rfl
        have hG57 := yFr_u hG51 hYm53 (zcm_s (ac_51_7 (a := 3527 + 10 * (Ym25 2 0 0 3500)) (x := (Y 2 0 0 3500)) (by have q3 := zhx q3; have q4 := zhx q4; have q31 := zhx q31; omega) (by have q3 := zhx q3; have q4 := zhx q4; have q31 := zhx q31; omega) (by have q3 := zhx q3; have q4 := zhx q4; have q31 := zhx q31; omega))) rfl
        have q58 := zhd (((((zu_ne (k' := 2) (b' := 0) (i' := 0) (j' := 3500) hYm53 (fun q => absurd q.2.2.2 (by have q3 := zhx q3; have q4 := zhx q4; have q31 := zhx q31; omega))).trans (zu_ne (k' := 2) (b' := 0) (i' := 0) (j' := 3500) hYm47 (fun q => absurd q.2.2.2 (by have q3 := zhx q3; have q4 := zhx q4; have q31 := zhx q31; omega)))).trans (zu_ne (k' := 2) (b' := 0) (i' := 0) (j' := 3500) hYm41 (fun q => absurd q.2.2.2 (by have q3 := zhx q3; have q4 := zhx q4; have q31 := zhx q31; omega)))).trans (zhx q31)))
        have q59 := zhd (((zRl_11_9 (a := 3500) (zRx_1 hR55) (by omega)).trans (zhx q58)))
        obtain ⟨Zc60, hZc60, hC⟩ := zl_x hC
        obtain ⟨Ym61, hYm61, g33⟩ := zl_x g33
        have hV62 : zV Ym61 := zV_i hV54 hYm61 (zvi_11_9 (by have q3 := zhx q3; have q4 := zhx q4; omega)) (by have q3 := zhx q3; have q4 := zhx q4; have q58 := zhx q58; first | omega | exact w3_r _)
        have hR63 : zRx [] 0 Zc60 Ym61 := zRx_w hR55 (ac_11_9 (by have q3 := zhx q3; have q4 := zhx q4; omega)) hZc60 hYm61 (by first | rfl | (have q3 := zhx q3; have q58 := zhx q58; have q59 := zhx q59; omega) | (simp only [zhx q3, zhx q58, zhx q59] <;> omega) | (have q3 := zhx q3; have q4 := zhx q4; have q58 := zhx q58; have q59 := zhx q59; omega))
        have hF64 := zFc_u hF56 hZc60 rfl rfl
        have hG65 := yFr_u hG57 hYm61 (zcm_s (ac_11_9 (a := 3500) (by have q3 := zhx q3; have q4 := zhx q4; omega))) rfl
        have e9 : Ym61 = Yr34 := Eq.symm (show Yr34 = _ from congrArg (fun x9 => x9.1) (show _ = _ from g33))
        subst e9
        have e9 : (Ym25 2 0 0 3500) = v35 := Eq.symm (show v35 = _ from congrArg (fun x9 => x9.2) (show _ = _ from g33))
        subst e9
        have th9 := ((((((zu_ne (k' := 1) (b' := 0) (i' := 0) (j' := 2) hYm61 (fun q => absurd q.1 (by decide))).trans (zu_ne (k' := 1) (b' := 0) (i' := 0) (j' := 2) hYm53 (fun q => absurd q.1 (by decide)))).trans (zu_ne (k' := 1) (b' := 0) (i' := 0) (j' := 2) hYm47 (fun q => absurd q.1 (by decide)))).trans (zu_ne (k' := 1) (b' := 0) (i' := 0) (j' := 2) hYm41 (fun q => absurd q.1 (by decide)))).trans (zTh_dm hd hYm25 (by decide))).trans (zu_at hYm20))
        have q66 := zhd ((((yFa_dm hd hYm25 (3500) rfl).trans (zu_ne (k' := 2) (b' := 0) (i' := 0) (j' := 3500) hYm20 (fun q => absurd q.1 (by decide)))).trans (zhx q19)))
        have q67 := zhd ((zu_at hYm61))
        obtain rfl : C = _ := hC
        obtain rfl : M = _ := hM
        exact ⟨zRx_1 hR63, hV62, ⟨Zc24, Ym25, .inr ⟨22, a1, a2, 0, 0, 0, 0, 23, Ym20, hZc24, yFr_w hG23 (by decide), hYm25, (by unfold zcode; omega)⟩, zFc_w hF64 (by decide), yFr_w hG65 (by decide)⟩, zThr_a th9 (by first | rfl | (have q3 := zhx q3; have q4 := zhx q4; have q31 := zhx q31; have q59 := zhx q59; omega) | (simp only [zhx q3, zhx q4, zhx q31, zhx q59] <;> omega) | (have q3 := zhx q3; have q4 := zhx q4; have q31 := zhx q31; have q59 := zhx q59; refine w3z ?_ ?_ ?_ <;> omega) | (have q3 := zhx q3; have q4 := zhx q4; have q31 := zhx q31; have q59 := zhx q59; refine w3y ?_ ?_ ?_ <;> omega) | (have q3 := zhx q3; have q4 := zhx q4; have q31 := zhx q31; have q59 := zhx q59; refine z2o ?_ ?_ ?_ <;> omega)), (zNi_put (Y := Ym25) (M := Ym61) (c := (Y 2 0 0 3500)) hNi_28 (by have q3 := zhx q3; have q4 := zhx q4; have q31 := zhx q31; have q66 := zhx q66; omega) (fun a g1 g2 => ((((zu_ne (k' := 2) (b' := 0) (i' := 0) (j' := a) hYm61 (fun x => absurd x.2.2.2 (by have q3 := zhx q3; have q4 := zhx q4; omega))).trans (zu_ne (k' := 2) (b' := 0) (i' := 0) (j' := a) hYm53 (fun x => absurd x.2.2.2 (by have q3 := zhx q3; have q4 := zhx q4; have q31 := zhx q31; have q66 := zhx q66; omega)))).trans (zu_ne (k' := 2) (b' := 0) (i' := 0) (j' := a) hYm47 (fun x => absurd x.2.2.2 (by have q3 := zhx q3; have q4 := zhx q4; have q31 := zhx q31; have q66 := zhx q66; omega)))).trans (zu_ne (k' := 2) (b' := 0) (i' := 0) (j' := a) hYm41 (fun x => absurd x.2.2.2 (by have q3 := zhx q3; have q4 := zhx q4; have q31 := zhx q31; have q66 := zhx q66; omega))))) (by have q3 := zhx q3; have q4 := zhx q4; have q31 := zhx q31; have q58 := zhx q58; have q66 := zhx q66; have q67 := zhx q67; omega))⟩
    · replace hM := zE_n hM (by omega)
      replace hM := zE_n hM (by omega)
      rcases zE_c hM with ⟨h68, hM⟩ | ⟨h68, hM⟩
      · obtain ⟨Ym69, hYm69, hM⟩ := zl_x hM
        have hR70 : zRx [] 0 Z Ym69 := zRx_o hRb hYm69 rfl
        have hV71 : zV Ym69 := zV_o hV hYm69 rfl
        have hG72 := yFr_o hG hYm69 rfl (.inr rfl) rfl
        have th9 := (zu_at hYm69)
        obtain rfl : C = _ := hC
        obtain rfl : M = _ := hM
        exact ⟨zRx_1 hR70, hV71, ⟨Z, _, .inl ⟨rfl, yFr_w hG72 (by decide)⟩, zFc_r, yFr_r⟩, zThr_e th9 (by decide), (zNi_f hNi hV hG72.1 ⟨rfl, rfl⟩)⟩
      · rcases zE_c hM with ⟨h73, hM⟩ | ⟨h73, hM⟩
        · obtain ⟨Ym74, hYm74, hM⟩ := zl_x hM
          have hR75 : zRx [] 0 Z Ym74 := zRx_o hRb hYm74 rfl
          have hV76 : zV Ym74 := zV_o hV hYm74 rfl
          have hG77 := yFr_o hG hYm74 rfl (.inr rfl) rfl
          have th9 := (zu_at hYm74)
          obtain rfl : C = _ := hC
          obtain rfl : M = _ := hM
          exact ⟨zRx_1 hR75, hV76, ⟨Z, _, .inl ⟨rfl, yFr_w hG77 (by decide)⟩, zFc_r, yFr_r⟩, zThr_e th9 (by decide), (zNi_f hNi hV hG77.1 ⟨rfl, rfl⟩)⟩
        · obtain ⟨Ym78, hYm78, hM⟩ := zl_x hM
          have hR79 : zRx [] 0 Z Ym78 := zRx_o hRb hYm78 rfl
          have hV80 : zV Ym78 := zV_o hV hYm78 rfl
          have hG81 := yFr_o hG hYm78 rfl (.inr rfl) rfl
          have q82 := zhd (zVr_11_9 (a := 3500) hV (by omega))
          have q83 := zhd ((zu_ne (k' := 2) (b' := 0) (i' := 0) (j' := 3500) hYm78 (fun q => absurd q.1 (by decide))))
          rcases zE_c hM with ⟨h84, hM⟩ | ⟨h84, hM⟩
          · obtain ⟨Ym85, hYm85, hM⟩ := zl_x hM
            have hR86 : zRx [] 0 Z Ym85 := zRx_o hR79 hYm85 rfl
            have hV87 : zV Ym85 := zV_o hV80 hYm85 rfl
            have hG88 := yFr_o hG81 hYm85 rfl (.inr rfl) rfl
            exact False.elim (by have q82 := zhx q82; have q83 := zhx q83; first | omega | grind)
          · obtain ⟨Ym89, hYm89, hM⟩ := zl_x hM
            have hR90 : zRx [] 0 Z Ym89 := zRx_o hR79 hYm89 rfl
            have hV91 : zV Ym89 := zV_o hV80 hYm89 rfl
            have hG92 := yFr_o hG81 hYm89 rfl (.inr rfl) rfl
            exact False.elim (by have q82 := zhx q82; have q83 := zhx q83; first | omega | grind)
  · rcases zE_c hM with ⟨h93, hM⟩ | ⟨h93, hM⟩
    · obtain ⟨Ym94, hYm94, hM⟩ := zl_x hM
      have hR95 : zRx [] 0 Z Ym94 := zRx_o hRb hYm94 rfl
      have hV96 : zV Ym94 := zV_o hV hYm94 rfl
      have hG97 := yFr_o hG hYm94 rfl (.inr rfl) rfl
      have th9 := (zu_at hYm94)
      obtain rfl : C = _ := hC
      obtain rfl : M = _ := hM
      exact ⟨zRx_1 hR95, hV96, ⟨Z, _, .inl ⟨rfl, yFr_w hG97 (by decide)⟩, zFc_r, yFr_r⟩, zThr_e th9 (by decide), (zNi_f hNi hV hG97.1 ⟨rfl, rfl⟩)⟩
    · rcases zE_c hM with ⟨h98, hM⟩ | ⟨h98, hM⟩
      · obtain ⟨Ym99, hYm99, hM⟩ := zl_x hM
        have hR100 : zRx [] 0 Z Ym99 := zRx_o hRb hYm99 rfl
        have hV101 : zV Ym99 := zV_o hV hYm99 rfl
        have hG102 := yFr_o hG hYm99 rfl (.inr rfl) rfl
        have th9 := (zu_at hYm99)
        obtain rfl : C = _ := hC
        obtain rfl : M = _ := hM
        exact ⟨zRx_1 hR100, hV101, ⟨Z, _, .inl ⟨rfl, yFr_w hG102 (by decide)⟩, zFc_r, yFr_r⟩, zThr_e th9 (by decide), (zNi_f hNi hV hG102.1 ⟨rfl, rfl⟩)⟩
      · rcases zE_c hM with ⟨h103, hM⟩ | ⟨h103, hM⟩
        · obtain ⟨Ym104, hYm104, hM⟩ := zl_x hM
          have hR105 : zRx [] 0 Z Ym104 := zRx_o hRb hYm104 rfl
          have hV106 : zV Ym104 := zV_o hV hYm104 rfl
          have hG107 := yFr_o hG hYm104 rfl (.inr rfl) rfl
          have th9 := (zu_at hYm104)
          obtain rfl : C = _ := hC
          obtain rfl : M = _ := hM
          exact ⟨zRx_1 hR105, hV106, ⟨Z, _, .inl ⟨rfl, yFr_w hG107 (by decide)⟩, zFc_r, yFr_r⟩, zThr_e th9 (by decide), (zNi_f hNi hV hG107.1 ⟨rfl, rfl⟩)⟩
        · rcases zE_c hM with ⟨h108, hM⟩ | ⟨h108, hM⟩
          · obtain ⟨Ym109, hYm109, hM⟩ := zl_x hM
            have hR110 : zRx [] 0 Z Ym109 := zRx_o hRb hYm109 rfl
            have hV111 : zV Ym109 := zV_o hV hYm109 rfl
            have hG112 := yFr_o hG hYm109 rfl (.inr rfl) rfl
            have th9 := (zu_at hYm109)
            obtain rfl : C = _ := hC
            obtain rfl : M = _ := hM
            exact ⟨zRx_1 hR110, hV111, ⟨Z, _, .inl ⟨rfl, yFr_w hG112 (by decide)⟩, zFc_r, yFr_r⟩, zThr_e th9 (by decide), (zNi_f hNi hV hG112.1 ⟨rfl, rfl⟩)⟩
          · obtain ⟨Ym113, hYm113, hM⟩ := zl_x hM
            have hR114 : zRx [] 0 Z Ym113 := zRx_o hRb hYm113 rfl
            have hV115 : zV Ym113 := zV_o hV hYm113 rfl
            have hG116 := yFr_o hG hYm113 rfl (.inr rfl) rfl
            have q117 := zhd (zVr_11_9 (a := 3500) hV (by omega))
            have q118 := zhd ((zu_ne (k' := 2) (b' := 0) (i' := 0) (j' := 3500) hYm113 (fun q => absurd q.1 (by decide))))
            rcases zE_c hM with ⟨h119, hM⟩ | ⟨h119, hM⟩
            · obtain ⟨Ym120, hYm120, hM⟩ := zl_x hM
              have hR121 : zRx [] 0 Z Ym120 := zRx_o hR114 hYm120 rfl
              have hV122 : zV Ym120 := zV_o hV115 hYm120 rfl
              have hG123 := yFr_o hG116 hYm120 rfl (.inr rfl) rfl
              exact False.elim (by have q117 := zhx q117; have q118 := zhx q118; first | omega | grind)
            · obtain ⟨Ym124, hYm124, hM⟩ := zl_x hM
              have hR125 : zRx [] 0 Z Ym124 := zRx_o hR114 hYm124 rfl
              have hV126 : zV Ym124 := zV_o hV115 hYm124 rfl
              have hG127 := yFr_o hG116 hYm124 rfl (.inr rfl) rfl
              exact False.elim (by have q117 := zhx q117; have q118 := zhx q118; first | omega | grind)

/- face room -/
theorem rf_room {Z Y : qz_Z} {dm : qz_Z → Int → Int → Int → Int → Int → Int → Int → qz_Z} {a1 a2 a3 : Int} (hRa : zR 0 Z Y) (hV : zV Y) (hI : zI none Z) (hd : zDf dm) (hNr : zNr Y) (hDs : zDs 0 Z Y)  {C : qz_Z × Int × Int} {M : qz_Z × Int} (hC : zE C (zx_236 Z a1 a2 a3)) (hM : zE M (zy_495 Y dm a1 a2 a3)) : zR 0 C.1 M.1 ∧ zV M.1 ∧ zDd [1102, 4300, 4301, 4302, 4303, 4305, 4310] [1102, 4300, 4301, 4302, 4303, 4305, 99999] Z Y dm C.1 M.1 ∧ zThr [(13, 1), (15, 2)] C.2 (M.1 1 0 0 2) M.2 ∧ zNr M.1 ∧ zDs 0 C.1 M.1 := by
  have hRb := zRx_0 hRa
  have hF : zFc [] 0 Z Z := zFc_r
  have hG : yFr [99999] Y Y := yFr_r
  unfold zx_236 at hC
  unfold zy_495 at hM
  rcases zE_c hC with ⟨h1, hC⟩ | ⟨h1, hC⟩
  · rcases zE_c hC with ⟨h2, hC⟩ | ⟨h2, hC⟩
    · rcases zE_c hC with ⟨h3, hC⟩ | ⟨h3, hC⟩
      · have q4 := zhd (zVr_11_2 (a := 1200) hV (by omega))
        have q5 := zhd ((zRl_11_2 (a := 1200) hRa (by omega)))
        rcases zE_c hC with ⟨h6, hC⟩ | ⟨h6, hC⟩
        · replace hM := zE_n hM (by first | (have q4 := zhx q4; have q5 := zhx q5; omega) | (simp only [zhx q4, zhx q5] at h1 h2 h3 h6 ⊢ <;> omega))
          replace hM := zE_n hM (by first | (have q4 := zhx q4; have q5 := zhx q5; omega) | (simp only [zhx q4, zhx q5] at h1 h2 h3 h6 ⊢ <;> omega))
          replace hM := zE_n hM (by first | (have q4 := zhx q4; have q5 := zhx q5; omega) | (simp only [zhx q4, zhx q5] at h1 h2 h3 h6 ⊢ <;> omega))
          replace hM := zE_n hM (by first | (have q4 := zhx q4; have q5 := zhx q5; omega) | (simp only [zhx q4, zhx q5] at h1 h2 h3 h6 ⊢ <;> omega))
          replace hM := zE_n hM (by first | (have q4 := zhx q4; have q5 := zhx q5; omega) | (simp only [zhx q4, zhx q5] at h1 h2 h3 h6 ⊢ <;> omega))
          replace hM := zE_n hM (by first | (have q4 := zhx q4; have q5 := zhx q5; omega) | (simp only [zhx q4, zhx q5] at h1 h2 h3 h6 ⊢ <;> omega))
          obtain ⟨Ym7, hYm7, hM⟩ := zl_x hM
          have hR8 : zRx [] 0 Z Ym7 := zRx_o hRb hYm7 rfl
          have hV9 : zV Ym7 := zV_o hV hYm7 rfl
          have hG10 := yFr_o hG hYm7 rfl (.inr rfl) rfl
          have q11 := zhd ((zu_ne (k' := 2) (b' := 0) (i' := 0) (j' := 1200) hYm7 (fun q => absurd q.1 (by decide))))
          replace hM := zE_p hM (by first | (have q4 := zhx q4; have q5 := zhx q5; have q11 := zhx q11; omega) | (simp only [zhx q4, zhx q5, zhx q11] at h1 h2 h3 h6 ⊢ <;> omega))
          obtain ⟨Ym12, hYm12, hM⟩ := zl_x hM
          have hR13 : zRx [] 0 Z Ym12 := zRx_o hR8 hYm12 rfl
          have hV14 : zV Ym12 := zV_o hV9 hYm12 rfl
          have hG15 := yFr_o hG10 hYm12 rfl (.inr rfl) rfl
          have th9 := (zu_at hYm12)
          obtain rfl : C = _ := hC
          obtain rfl : M = _ := hM
          exact ⟨zRx_1 hR13, hV14, ⟨Z, _, .inl ⟨rfl, yFr_w hG15 (by decide)⟩, zFc_r, yFr_r⟩, zThr_e th9 (by decide), (zNr_f hNr hV hG15.1 ⟨rfl, rfl, rfl⟩), (zDs_f hDs hF.1 hG15.1 ⟨rfl, rfl⟩)⟩
        · replace hM := zE_n hM (by first | (have q4 := zhx q4; have q5 := zhx q5; omega) | (simp only [zhx q4, zhx q5] at h1 h2 h3 h6 ⊢ <;> omega))
          replace hM := zE_n hM (by first | (have q4 := zhx q4; have q5 := zhx q5; omega) | (simp only [zhx q4, zhx q5] at h1 h2 h3 h6 ⊢ <;> omega))
          replace hM := zE_n hM (by first | (have q4 := zhx q4; have q5 := zhx q5; omega) | (simp only [zhx q4, zhx q5] at h1 h2 h3 h6 ⊢ <;> omega))
          replace hM := zE_n hM (by first | (have q4 := zhx q4; have q5 := zhx q5; omega) | (simp only [zhx q4, zhx q5] at h1 h2 h3 h6 ⊢ <;> omega))
          replace hM := zE_n hM (by first | (have q4 := zhx q4; have q5 := zhx q5; omega) | (simp only [zhx q4, zhx q5] at h1 h2 h3 h6 ⊢ <;> omega))
          replace hM := zE_n hM (by first | (have q4 := zhx q4; have q5 := zhx q5; omega) | (simp only [zhx q4, zhx q5] at h1 h2 h3 h6 ⊢ <;> omega))
          obtain ⟨Ym16, hYm16, hM⟩ := zl_x hM
          have hR17 : zRx [] 0 Z Ym16 := zRx_o hRb hYm16 rfl
          have hV18 : zV Ym16 := zV_o hV hYm16 rfl
          have hG19 := yFr_o hG hYm16 rfl (.inr rfl) rfl
          have q20 := zhd ((zu_ne (k' := 2) (b' := 0) (i' := 0) (j' := 1200) hYm16 (fun q => absurd q.1 (by decide))))
          replace hM := zE_n hM (by first | (have q4 := zhx q4; have q5 := zhx q5; have q20 := zhx q20; omega) | (simp only [zhx q4, zhx q5, zhx q20] at h1 h2 h3 h6 ⊢ <;> omega))
          obtain ⟨Ym21, hYm21, hM⟩ := zl_x hM
          have hR22 : zRx [] 0 Z Ym21 := zRx_o hR17 hYm21 rfl
          have hV23 : zV Ym21 := zV_o hV18 hYm21 rfl
          have hG24 := yFr_o hG19 hYm21 rfl (.inr rfl) rfl
          obtain ⟨Zc25, hZc25, hC⟩ := zl_x hC
          obtain ⟨Ym26, hYm26, hM⟩ := zl_x hM
          have hR27 : zRx [] 0 Zc25 Ym26 := zRx_dd hR22 hI hd hZc25 hYm26
          have hV28 : zV Ym26 := zV_dm hV23 hd hYm26
          have hNr_29 : zNr Ym26 := (zNr_f (zNr_f hNr hV hG24.1 ⟨rfl, rfl, rfl⟩) hV23 (yFa_dm hd hYm26) ⟨rfl, rfl, rfl⟩)
          have hDs_30 : zDs 0 Zc25 Ym26 := (zDs_f (zDs_f hDs hF.1 hG24.1 ⟨rfl, rfl⟩) (zFa_dd hI hZc25) (yFa_dm hd hYm26) ⟨rfl, rfl⟩)
          have hF31 : zFc [1102, 4300, 4301, 4302, 4303, 4305, 4310] 0 Zc25 Zc25 := zFc_r
          have hG32 : yFr [1102, 4300, 4301, 4302, 4303, 4305] Ym26 Ym26 := yFr_r
          have q33 := zhd ((((yFa_dm hd hYm26 (1200) rfl).trans (zu_ne (k' := 2) (b' := 0) (i' := 0) (j' := 1200) hYm21 (fun q => absurd q.1 (by decide)))).trans (zhx q20)))
          have q34 := zhd (((zRl_11_2 (a := 1200) (zRx_1 hR27) (by omega)).trans (zhx q33)))
          obtain ⟨Yr36, v37, g35, hM⟩ := zl_x2 hM
          replace g35 : zE _ _ := g35
          unfold zf_485 at g35
          have q38 := zhd (zVr_11_13 (a := 0) hV (by omega))
          have q39 := zhd ((((yFa_dm hd hYm26 (0) rfl).trans (zu_ne (k' := 2) (b' := 0) (i' := 0) (j' := 0) hYm21 (fun q => absurd q.1 (by decide)))).trans (zu_ne (k' := 2) (b' := 0) (i' := 0) (j' := 0) hYm16 (fun q => absurd q.1 (by decide)))))
          have q40 := zhd (congrArg (Ym26 2 0 0) (show (1300 + (Ym26 2 0 0 0) / 24) = 1300 + (((Y 2 0 0 0)) / 24) from (by first | (have q38 := zhx q38; have q39 := zhx q39; omega) | (have q4 := zhx q4; have q5 := zhx q5; have q38 := zhx q38; have q39 := zhx q39; omega))))
          have q41 := zhd ((((yFa_dm hd hYm26 (1300 + (((Y 2 0 0 0)) / 24)) rfl).trans (zu_ne (k' := 2) (b' := 0) (i' := 0) (j' := 1300 + (((Y 2 0 0 0)) / 24)) hYm21 (fun q => absurd q.1 (by decide)))).trans (zu_ne (k' := 2) (b' := 0) (i' := 0) (j' := 1300 + (((Y 2 0 0 0)) / 24)) hYm16 (fun q => absurd q.1 (by decide)))))
          obtain ⟨Yi42, v43, g44, g35⟩ := zl_x2 g35
          have d45 : Ym26 = Yi42 := ((show Yi42 = _ from congrArg (fun x9 => x9.1) (show _ = _ from g44)).trans (congrArg (fun x9 => x9.1) (z485_i (x5 := (Ym26 2 0 0 1200)) (Y := Ym26) (fun a g1 g2 => hNr_29.1 a g1 (by have q4 := zhx q4; have q5 := zhx q5; have q33 := zhx q33; omega)) 13 0 (by omega) (by omega) (by decide)))).symm
          subst d45
          obtain ⟨Zc46, hZc46, hC⟩ := zl_x hC
          obtain ⟨Ym47, hYm47, g35⟩ := zl_x g35
          have hV48 : zV Ym47 := zV_n hV28 hYm47 (zvn_43_0 (x := (Y 2 0 0 1200)) (by have q4 := zhx q4; have q5 := zhx q5; have q33 := zhx q33; omega) (by have q4 := zhx q4; have q5 := zhx q5; have q33 := zhx q33; omega) (by have q4 := zhx q4; have q5 := zhx q5; have q33 := zhx q33; omega))
          have hR49 : zRx [] 0 Zc46 Ym47 := zRx_w hR27 (ac_43_0 (by have q4 := zhx q4; have q5 := zhx q5; have q33 := zhx q33; have q34 := zhx q34; omega) (by have q4 := zhx q4; have q5 := zhx q5; have q33 := zhx q33; have q34 := zhx q34; omega) (by have q4 := zhx q4; have q5 := zhx q5; have q33 := zhx q33; have q34 := zhx q34; omega)) hZc46 hYm47 (by first | rfl | (omega) | (simp only [] <;> omega) | (have q4 := zhx q4; have q5 := zhx q5; omega))
          have hF50 := zFc_u hF31 hZc46 rfl rfl
          have hG51 := yFr_u hG32 hYm47 (zcm_s (ac_43_0 (a := 1210 + 12 * (Ym26 2 0 0 1200)) (x := (Y 2 0 0 1200)) (by have q4 := zhx q4; have q5 := zhx q5; have q33 := zhx q33; omega) (by have q4 := zhx q4; have q5 := zhx q5; have q33 := zhx q33; omega) (by have q4 := zhx q4; have q5 := zhx q5; have q33 := zhx q33; omega))) rfl
          obtain ⟨Zc52, hZc52, hC⟩ := zl_x hC
          obtain ⟨Ym53, hYm53, g35⟩ := zl_x g35
          have hV54 : zV Ym53 := zV_n hV48 hYm53 (zvn_43_1 (x := (Y 2 0 0 1200)) (by have q4 := zhx q4; have q5 := zhx q5; have q33 := zhx q33; omega) (by have q4 := zhx q4; have q5 := zhx q5; have q33 := zhx q33; omega) (by have q4 := zhx q4; have q5 := zhx q5; have q33 := zhx q33; omega))
          have hR55 : zRx [] 0 Zc52 Ym53 := zRx_w hR49 (ac_43_1 (by have q4 := zhx q4; have q5 := zhx q5; have q33 := zhx q33; have q34 := zhx q34; omega) (by have q4 := zhx q4; have q5 := zhx q5; have q33 := zhx q33; have q34 := zhx q34; omega) (by have q4 := zhx q4; have q5 := zhx q5; have q33 := zhx q33; have q34 := zhx q34; omega)) hZc52 hYm53 (by first | rfl | (omega) | (simp only [] <;> omega) | (have q4 := zhx q4; have q5 := zhx q5; omega))
          have hF56 := zFc_u hF50 hZc52 rfl rfl
          have hG57 := yFr_u hG51 hYm53 (zcm_s (ac_43_1 (a := 1211 + 12 * (Ym26 2 0 0 1200)) (x := (Y 2 0 0 1200)) (by have q4 := zhx q4; have q5 := zhx q5; have q33 := zhx q33; omega) (by have q4 := zhx q4; have q5 := zhx q5; have q33 := zhx q33; omega) (by have q4 := zhx q4; have q5 := zhx q5; have q33 := zhx q33; omega))) rfl
          obtain ⟨Zc58, hZc58, hC⟩ := zl_x hC
          obtain ⟨Ym59, hYm59, g35⟩ := zl_x g35
          have hV60 : zV Ym59 := zV_n hV54 hYm59 (zvn_43_2 (x := (Y 2 0 0 1200)) (by have q4 := zhx q4; have q5 := zhx q5; have q33 := zhx q33; omega) (by have q4 := zhx q4; have q5 := zhx q5; have q33 := zhx q33; omega) (by have q4 := zhx q4; have q5 := zhx q5; have q33 := zhx q33; omega))
          have hR61 : zRx [] 0 Zc58 Ym59 := zRx_w hR55 (ac_43_2 (by have q4 := zhx q4; have q5 := zhx q5; have q33 := zhx q33; have q34 := zhx q34; omega) (by have q4 := zhx q4; have q5 := zhx q5; have q33 := zhx q33; have q34 := zhx q34; omega) (by have q4 := zhx q4; have q5 := zhx q5; have q33 := zhx q33; have q34 := zhx q34; omega)) hZc58 hYm59 (by first | rfl | (omega) | (simp only [] <;> omega) | (have q4 := zhx q4; have q5 := zhx q5; omega))
          have hF62 := zFc_u hF56 hZc58 rfl rfl
          have hG63 := yFr_u hG57 hYm59 (zcm_s (ac_43_2 (a := 1212 + 12 * (Ym26 2 0 0 1200)) (x := (Y 2 0 0 1200)) (by have q4 := zhx q4; have q5 := zhx q5; have q33 := zhx q33; omega) (by have q4 := zhx q4; have q5 := zhx q5; have q33 := zhx q33; omega) (by have q4 := zhx q4; have q5 := zhx q5; have q33 := zhx q33; omega))) rfl
          obtain ⟨Zc64, hZc64, hC⟩ := zl_x hC
          obtain ⟨Ym65, hYm65, g35⟩ := zl_x g35
          have hV66 : zV Ym65 := zV_n hV60 hYm65 (zvn_43_3 (x := (Y 2 0 0 1200)) (by have q4 := zhx q4; have q5 := zhx q5; have q33 := zhx q33; omega) (by have q4 := zhx q4; have q5 := zhx q5; have q33 := zhx q33; omega) (by have q4 := zhx q4; have q5 := zhx q5; have q33 := zhx q33; omega))
          have hR67 : zRx [] 0 Zc64 Ym65 := zRx_w hR61 (ac_43_3 (by have q4 := zhx q4; have q5 := zhx q5; have q33 := zhx q33; have q34 := zhx q34; omega) (by have q4 := zhx q4; have q5 := zhx q5; have q33 := zhx q33; have q34 := zhx q34; omega) (by have q4 := zhx q4; have q5 := zhx q5; have q33 := zhx q33; have q34 := zhx q34; omega)) hZc64 hYm65 (by first | rfl | (omega) | (simp only [] <;> omega) | (have q4 := zhx q4; have q5 := zhx q5; omega))
          have hF68 := zFc_u hF62 hZc64 rfl rfl
          have hG69 := yFr_u hG63 hYm65 (zcm_s (ac_43_3 (a := 1213 + 12 * (Ym26 2 0 0 1200)) (x := (Y 2 0 0 1200)) (by have q4 := zhx q4; have q5 := zhx q5; have q33 := zhx q33; omega) (by have q4 := zhx q4; have q5 := zhx q5; have q33 := zhx q33; omega) (by have q4 := zhx q4; have q5 := zhx q5; have q33 := zhx q33; omega))) rfl
          have q70 := zhd ((((((zu_ne (k' := 2) (b' := 0) (i' := 0) (j' := 0) hYm65 (fun q => absurd q.2.2.2 (by have q4 := zhx q4; have q5 := zhx q5; have q33 := zhx q33; omega))).trans (zu_ne (k' := 2) (b' := 0) (i' := 0) (j' := 0) hYm59 (fun q => absurd q.2.2.2 (by have q4 := zhx q4; have q5 := zhx q5; have q33 := zhx q33; omega)))).trans (zu_ne (k' := 2) (b' := 0) (i' := 0) (j' := 0) hYm53 (fun q => absurd q.2.2.2 (by have q4 := zhx q4; have q5 := zhx q5; have q33 := zhx q33; omega)))).trans (zu_ne (k' := 2) (b' := 0) (i' := 0) (j' := 0) hYm47 (fun q => absurd q.2.2.2 (by have q4 := zhx q4; have q5 := zhx q5; have q33 := zhx q33; omega)))).trans (zhx q39)))
          have q71 := zhd (((zRl_11_13 (a := 0) (zRx_1 hR67) (by omega)).trans (zhx q70)))
          have q72 := zhd ((((((zu_ne (k' := 2) (b' := 0) (i' := 0) (j' := 1300 + (((Y 2 0 0 0)) / 24)) hYm65 (fun q => absurd q.2.2.2 (by have q4 := zhx q4; have q5 := zhx q5; have q33 := zhx q33; have q38 := zhx q38; omega))).trans (zu_ne (k' := 2) (b' := 0) (i' := 0) (j' := 1300 + (((Y 2 0 0 0)) / 24)) hYm59 (fun q => absurd q.2.2.2 (by have q4 := zhx q4; have q5 := zhx q5; have q33 := zhx q33; have q38 := zhx q38; omega)))).trans (zu_ne (k' := 2) (b' := 0) (i' := 0) (j' := 1300 + (((Y 2 0 0 0)) / 24)) hYm53 (fun q => absurd q.2.2.2 (by have q4 := zhx q4; have q5 := zhx q5; have q33 := zhx q33; have q38 := zhx q38; omega)))).trans (zu_ne (k' := 2) (b' := 0) (i' := 0) (j' := 1300 + (((Y 2 0 0 0)) / 24)) hYm47 (fun q => absurd q.2.2.2 (by have q4 := zhx q4; have q5 := zhx q5; have q33 := zhx q33; have q38 := zhx q38; omega)))).trans (zhx q41)))
          have q73 := zhd (((zRl_12_s (x := ((Zc64 11 0 0 13) / 24)) (a := 1300 + (((Y 2 0 0 0)) / 24)) (zRx_1 hR67) (by first | (have q38 := zhx q38; have q71 := zhx q71; omega) | (have q4 := zhx q4; have q5 := zhx q5; have q38 := zhx q38; have q71 := zhx q71; omega)) (by first | (have q38 := zhx q38; have q71 := zhx q71; omega) | (have q4 := zhx q4; have q5 := zhx q5; have q38 := zhx q38; have q71 := zhx q71; omega)) (by first | (have q38 := zhx q38; have q71 := zhx q71; omega) | (have q4 := zhx q4; have q5 := zhx q5; have q38 := zhx q38; have q71 := zhx q71; omega))).trans (zhx q72)))
          have q74 := zhd ((congrArg (fun x => Zc64 12 0 0 x) (show (((Y 2 0 0 0)) / 24) = ((Zc64 11 0 0 13) / 24) from (by first | (have q38 := zhx q38; have q71 := zhx q71; omega) | (have q4 := zhx q4; have q5 := zhx q5; have q38 := zhx q38; have q71 := zhx q71; omega)))).trans (zhx q73))
          obtain ⟨Zc75, hZc75, hC⟩ := zl_x hC
          obtain ⟨Ym76, hYm76, g35⟩ := zl_x g35
          have hV77 : zV Ym76 := zV_n hV66 hYm76 (zvn_43_5 (x := (Y 2 0 0 1200)) (by have q4 := zhx q4; have q5 := zhx q5; have q33 := zhx q33; omega) (by have q4 := zhx q4; have q5 := zhx q5; have q33 := zhx q33; omega) (by have q4 := zhx q4; have q5 := zhx q5; have q33 := zhx q33; omega))
          have hR78 : zRx [] 0 Zc75 Ym76 := zRx_w hR67 (ac_43_5 (by have q4 := zhx q4; have q5 := zhx q5; have q33 := zhx q33; have q34 := zhx q34; omega) (by have q4 := zhx q4; have q5 := zhx q5; have q33 := zhx q33; have q34 := zhx q34; omega) (by have q4 := zhx q4; have q5 := zhx q5; have q33 := zhx q33; have q34 := zhx q34; omega)) hZc75 hYm76 (by first | (simp only [zhx q38, zhx q39, zhx q40, zhx q41, zhx q71, zhx q73, zhx q74] <;> omega) | rfl | (have q38 := zhx q38; have q39 := zhx q39; have q40 := zhx q40; have q41 := zhx q41; have q71 := zhx q71; have q73 := zhx q73; have q74 := zhx q74; omega) | (have q4 := zhx q4; have q5 := zhx q5; have q38 := zhx q38; have q39 := zhx q39; have q40 := zhx q40; have q41 := zhx q41; have q71 := zhx q71; have q73 := zhx q73; have q74 := zhx q74; omega))
          have hF79 := zFc_u hF68 hZc75 rfl rfl
          have hG80 := yFr_u hG69 hYm76 (zcm_s (ac_43_5 (a := 1215 + 12 * (Ym26 2 0 0 1200)) (x := (Y 2 0 0 1200)) (by have q4 := zhx q4; have q5 := zhx q5; have q33 := zhx q33; omega) (by have q4 := zhx q4; have q5 := zhx q5; have q33 := zhx q33; omega) (by have q4 := zhx q4; have q5 := zhx q5; have q33 := zhx q33; omega))) rfl
          obtain ⟨Zc81, hZc81, hC⟩ := zl_x hC
          have hR82 : zRx [] 0 Zc81 Ym76 := zRx_n hR78 hZc81 (adn_43_10)
          have hF83 := zFc_u hF79 hZc81 rfl rfl
          have q84 := zhd (((((((zu_ne (k' := 2) (b' := 0) (i' := 0) (j' := 1200) hYm76 (fun q => absurd q.2.2.2 (by have q4 := zhx q4; have q5 := zhx q5; have q33 := zhx q33; omega))).trans (zu_ne (k' := 2) (b' := 0) (i' := 0) (j' := 1200) hYm65 (fun q => absurd q.2.2.2 (by have q4 := zhx q4; have q5 := zhx q5; have q33 := zhx q33; omega)))).trans (zu_ne (k' := 2) (b' := 0) (i' := 0) (j' := 1200) hYm59 (fun q => absurd q.2.2.2 (by have q4 := zhx q4; have q5 := zhx q5; have q33 := zhx q33; omega)))).trans (zu_ne (k' := 2) (b' := 0) (i' := 0) (j' := 1200) hYm53 (fun q => absurd q.2.2.2 (by have q4 := zhx q4; have q5 := zhx q5; have q33 := zhx q33; omega)))).trans (zu_ne (k' := 2) (b' := 0) (i' := 0) (j' := 1200) hYm47 (fun q => absurd q.2.2.2 (by have q4 := zhx q4; have q5 := zhx q5; have q33 := zhx q33; omega)))).trans (zhx q33)))
          have q85 := zhd (((zRl_11_2 (a := 1200) (zRx_1 hR82) (by omega)).trans (zhx q84)))
          obtain ⟨Zc86, hZc86, hC⟩ := zl_x hC
          obtain ⟨Ym87, hYm87, g35⟩ := zl_x g35
          have hV88 : zV Ym87 := zV_i hV77 hYm87 (zvi_11_2 (by have q4 := zhx q4; have q5 := zhx q5; omega)) (by have q4 := zhx q4; have q5 := zhx q5; have q84 := zhx q84; first | omega | exact w3_r _)
          have hR89 : zRx [] 0 Zc86 Ym87 := zRx_w hR82 (ac_11_2 (by have q4 := zhx q4; have q5 := zhx q5; omega)) hZc86 hYm87 (by first | rfl | (have q4 := zhx q4; have q84 := zhx q84; have q85 := zhx q85; omega) | (simp only [zhx q4, zhx q84, zhx q85] <;> omega) | (have q4 := zhx q4; have q5 := zhx q5; have q84 := zhx q84; have q85 := zhx q85; omega))
          have hF90 := zFc_u hF83 hZc86 rfl rfl
          have hG91 := yFr_u hG80 hYm87 (zcm_s (ac_11_2 (a := 1200) (by have q4 := zhx q4; have q5 := zhx q5; omega))) rfl
          have e9 : Ym87 = Yr36 := Eq.symm (show Yr36 = _ from congrArg (fun x9 => x9.1) (show _ = _ from g35))
          subst e9
          have e9 : (Ym26 2 0 0 1200) = v37 := Eq.symm (show v37 = _ from congrArg (fun x9 => x9.2) (show _ = _ from g35))
          subst e9
          have th9 := ((((((((zu_ne (k' := 1) (b' := 0) (i' := 0) (j' := 2) hYm87 (fun q => absurd q.1 (by decide))).trans (zu_ne (k' := 1) (b' := 0) (i' := 0) (j' := 2) hYm76 (fun q => absurd q.1 (by decide)))).trans (zu_ne (k' := 1) (b' := 0) (i' := 0) (j' := 2) hYm65 (fun q => absurd q.1 (by decide)))).trans (zu_ne (k' := 1) (b' := 0) (i' := 0) (j' := 2) hYm59 (fun q => absurd q.1 (by decide)))).trans (zu_ne (k' := 1) (b' := 0) (i' := 0) (j' := 2) hYm53 (fun q => absurd q.1 (by decide)))).trans (zu_ne (k' := 1) (b' := 0) (i' := 0) (j' := 2) hYm47 (fun q => absurd q.1 (by decide)))).trans (zTh_dm hd hYm26 (by decide))).trans (zu_at hYm21))
          have q92 := zhd ((((yFa_dm hd hYm26 (1200) rfl).trans (zu_ne (k' := 2) (b' := 0) (i' := 0) (j' := 1200) hYm21 (fun q => absurd q.1 (by decide)))).trans (zhx q20)))
          have q93 := zhd ((zu_at hYm87))
          have q94 := zhd ((((yFa_dm hd hYm26 (1200) rfl).trans (zu_ne (k' := 2) (b' := 0) (i' := 0) (j' := 1200) hYm21 (fun q => absurd q.1 (by decide)))).trans (zhx q20)))
          have q95 := zhd ((zu_at hYm87))
          obtain rfl : C = _ := hC
          obtain rfl : M = _ := hM
          exact ⟨zRx_1 hR89, hV88, ⟨Zc25, Ym26, .inr ⟨4, a1, a2, a3, 0, 0, 0, 5, Ym21, hZc25, yFr_w hG24 (by decide), hYm26, (by unfold zcode; omega)⟩, zFc_w hF90 (by decide), yFr_w hG91 (by decide)⟩, zThr_a th9 (by first | rfl | (have q4 := zhx q4; have q5 := zhx q5; have q33 := zhx q33; have q85 := zhx q85; omega) | (simp only [zhx q4, zhx q5, zhx q33, zhx q85] <;> omega) | (have q4 := zhx q4; have q5 := zhx q5; have q33 := zhx q33; have q85 := zhx q85; refine w3z ?_ ?_ ?_ <;> omega) | (have q4 := zhx q4; have q5 := zhx q5; have q33 := zhx q33; have q85 := zhx q85; refine w3y ?_ ?_ ?_ <;> omega) | (have q4 := zhx q4; have q5 := zhx q5; have q33 := zhx q33; have q85 := zhx q85; refine z2o ?_ ?_ ?_ <;> omega)), (zNr_put (Y := Ym26) (M := Ym87) (c := (Y 2 0 0 1200)) hNr_29 (by have q4 := zhx q4; have q5 := zhx q5; omega) (by have q4 := zhx q4; have q5 := zhx q5; have q33 := zhx q33; have q92 := zhx q92; omega) (fun a g1 => ((((((zu_ne (k' := 2) (b' := 0) (i' := 0) (j' := a) hYm87 (fun x => absurd x.2.2.2 (by have q4 := zhx q4; have q5 := zhx q5; omega))).trans (zu_ne (k' := 2) (b' := 0) (i' := 0) (j' := a) hYm76 (fun x => absurd x.2.2.2 (by have q4 := zhx q4; have q5 := zhx q5; have q33 := zhx q33; have q92 := zhx q92; omega)))).trans (zu_ne (k' := 2) (b' := 0) (i' := 0) (j' := a) hYm65 (fun x => absurd x.2.2.2 (by have q4 := zhx q4; have q5 := zhx q5; have q33 := zhx q33; have q92 := zhx q92; omega)))).trans (zu_ne (k' := 2) (b' := 0) (i' := 0) (j' := a) hYm59 (fun x => absurd x.2.2.2 (by have q4 := zhx q4; have q5 := zhx q5; have q33 := zhx q33; have q92 := zhx q92; omega)))).trans (zu_ne (k' := 2) (b' := 0) (i' := 0) (j' := a) hYm53 (fun x => absurd x.2.2.2 (by have q4 := zhx q4; have q5 := zhx q5; have q33 := zhx q33; have q92 := zhx q92; omega)))).trans (zu_ne (k' := 2) (b' := 0) (i' := 0) (j' := a) hYm47 (fun x => absurd x.2.2.2 (by have q4 := zhx q4; have q5 := zhx q5; have q33 := zhx q33; have q92 := zhx q92; omega))))) (by have q4 := zhx q4; have q5 := zhx q5; have q33 := zhx q33; have q84 := zhx q84; have q92 := zhx q92; have q93 := zhx q93; omega)), (zDs_put (Z := Zc25) (Y := Ym26) (C := Zc86) (M := Ym87) (c := (Y 2 0 0 1200)) hDs_30 hNr_29 (by have q4 := zhx q4; have q5 := zhx q5; have q33 := zhx q33; have q92 := zhx q92; have q94 := zhx q94; omega) (fun r n1 => (((((((zu_ne (k' := 43) (b' := 0) (i' := r) (j' := 10) hZc86 (fun x => absurd x.1 (by decide))).trans (zu_ne (k' := 43) (b' := 0) (i' := r) (j' := 10) hZc81 (fun x => absurd x.2.2.1 (by have q4 := zhx q4; have q5 := zhx q5; have q34 := zhx q34; omega)))).trans (zu_ne (k' := 43) (b' := 0) (i' := r) (j' := 10) hZc75 (fun x => absurd x.2.2.2 (by decide)))).trans (zu_ne (k' := 43) (b' := 0) (i' := r) (j' := 10) hZc64 (fun x => absurd x.2.2.2 (by decide)))).trans (zu_ne (k' := 43) (b' := 0) (i' := r) (j' := 10) hZc58 (fun x => absurd x.2.2.2 (by decide)))).trans (zu_ne (k' := 43) (b' := 0) (i' := r) (j' := 10) hZc52 (fun x => absurd x.2.2.2 (by decide)))).trans (zu_ne (k' := 43) (b' := 0) (i' := r) (j' := 10) hZc46 (fun x => absurd x.2.2.2 (by decide))))) ((congrArg (fun x => Zc86 43 0 x 10) (show (Y 2 0 0 1200) = (Zc25 11 0 0 2) from (by have q4 := zhx q4; have q5 := zhx q5; have q34 := zhx q34; omega))).trans (((zu_ne (k' := 43) (b' := 0) (i' := (Zc25 11 0 0 2)) (j' := 10) hZc86 (fun x => absurd x.1 (by decide))).trans (zu_at hZc81)))) (fun r g1 g2 => ((((((zu_ne (k' := 2) (b' := 0) (i' := 0) (j' := 3510 + r) hYm87 (fun x => absurd x.2.2.2 (by have q4 := zhx q4; have q5 := zhx q5; omega))).trans (zu_ne (k' := 2) (b' := 0) (i' := 0) (j' := 3510 + r) hYm76 (fun x => absurd x.2.2.2 (by have q4 := zhx q4; have q5 := zhx q5; have q33 := zhx q33; have q92 := zhx q92; have q94 := zhx q94; omega)))).trans (zu_ne (k' := 2) (b' := 0) (i' := 0) (j' := 3510 + r) hYm65 (fun x => absurd x.2.2.2 (by have q4 := zhx q4; have q5 := zhx q5; have q33 := zhx q33; have q92 := zhx q92; have q94 := zhx q94; omega)))).trans (zu_ne (k' := 2) (b' := 0) (i' := 0) (j' := 3510 + r) hYm59 (fun x => absurd x.2.2.2 (by have q4 := zhx q4; have q5 := zhx q5; have q33 := zhx q33; have q92 := zhx q92; have q94 := zhx q94; omega)))).trans (zu_ne (k' := 2) (b' := 0) (i' := 0) (j' := 3510 + r) hYm53 (fun x => absurd x.2.2.2 (by have q4 := zhx q4; have q5 := zhx q5; have q33 := zhx q33; have q92 := zhx q92; have q94 := zhx q94; omega)))).trans (zu_ne (k' := 2) (b' := 0) (i' := 0) (j' := 3510 + r) hYm47 (fun x => absurd x.2.2.2 (by have q4 := zhx q4; have q5 := zhx q5; have q33 := zhx q33; have q92 := zhx q92; have q94 := zhx q94; omega))))))⟩
      · replace hM := zE_n hM (by omega)
        replace hM := zE_n hM (by omega)
        replace hM := zE_n hM (by omega)
        replace hM := zE_n hM (by omega)
        rcases zE_c hM with ⟨h96, hM⟩ | ⟨h96, hM⟩
        · obtain ⟨Ym97, hYm97, hM⟩ := zl_x hM
          have hR98 : zRx [] 0 Z Ym97 := zRx_o hRb hYm97 rfl
          have hV99 : zV Ym97 := zV_o hV hYm97 rfl
          have hG100 := yFr_o hG hYm97 rfl (.inr rfl) rfl
          have th9 := (zu_at hYm97)
          obtain rfl : C = _ := hC
          obtain rfl : M = _ := hM
          exact ⟨zRx_1 hR98, hV99, ⟨Z, _, .inl ⟨rfl, yFr_w hG100 (by decide)⟩, zFc_r, yFr_r⟩, zThr_e th9 (by decide), (zNr_f hNr hV hG100.1 ⟨rfl, rfl, rfl⟩), (zDs_f hDs hF.1 hG100.1 ⟨rfl, rfl⟩)⟩
        · rcases zE_c hM with ⟨h101, hM⟩ | ⟨h101, hM⟩
          · obtain ⟨Ym102, hYm102, hM⟩ := zl_x hM
            have hR103 : zRx [] 0 Z Ym102 := zRx_o hRb hYm102 rfl
            have hV104 : zV Ym102 := zV_o hV hYm102 rfl
            have hG105 := yFr_o hG hYm102 rfl (.inr rfl) rfl
            have th9 := (zu_at hYm102)
            obtain rfl : C = _ := hC
            obtain rfl : M = _ := hM
            exact ⟨zRx_1 hR103, hV104, ⟨Z, _, .inl ⟨rfl, yFr_w hG105 (by decide)⟩, zFc_r, yFr_r⟩, zThr_e th9 (by decide), (zNr_f hNr hV hG105.1 ⟨rfl, rfl, rfl⟩), (zDs_f hDs hF.1 hG105.1 ⟨rfl, rfl⟩)⟩
          · obtain ⟨Ym106, hYm106, hM⟩ := zl_x hM
            have hR107 : zRx [] 0 Z Ym106 := zRx_o hRb hYm106 rfl
            have hV108 : zV Ym106 := zV_o hV hYm106 rfl
            have hG109 := yFr_o hG hYm106 rfl (.inr rfl) rfl
            have q110 := zhd (zVr_11_2 (a := 1200) hV (by omega))
            have q111 := zhd ((zu_ne (k' := 2) (b' := 0) (i' := 0) (j' := 1200) hYm106 (fun q => absurd q.1 (by decide))))
            rcases zE_c hM with ⟨h112, hM⟩ | ⟨h112, hM⟩
            · obtain ⟨Ym113, hYm113, hM⟩ := zl_x hM
              have hR114 : zRx [] 0 Z Ym113 := zRx_o hR107 hYm113 rfl
              have hV115 : zV Ym113 := zV_o hV108 hYm113 rfl
              have hG116 := yFr_o hG109 hYm113 rfl (.inr rfl) rfl
              exact False.elim (by have q110 := zhx q110; have q111 := zhx q111; first | omega | grind)
            · obtain ⟨Ym117, hYm117, hM⟩ := zl_x hM
              have hR118 : zRx [] 0 Z Ym117 := zRx_o hR107 hYm117 rfl
              have hV119 : zV Ym117 := zV_o hV108 hYm117 rfl
              have hG120 := yFr_o hG109 hYm117 rfl (.inr rfl) rfl
              exact False.elim (by have q110 := zhx q110; have q111 := zhx q111; first | omega | grind)
    · replace hM := zE_n hM (by omega)
      replace hM := zE_n hM (by omega)
      rcases zE_c hM with ⟨h121, hM⟩ | ⟨h121, hM⟩
      · obtain ⟨Ym122, hYm122, hM⟩ := zl_x hM
        have hR123 : zRx [] 0 Z Ym122 := zRx_o hRb hYm122 rfl
        have hV124 : zV Ym122 := zV_o hV hYm122 rfl
        have hG125 := yFr_o hG hYm122 rfl (.inr rfl) rfl
        have th9 := (zu_at hYm122)
        obtain rfl : C = _ := hC
        obtain rfl : M = _ := hM
        exact ⟨zRx_1 hR123, hV124, ⟨Z, _, .inl ⟨rfl, yFr_w hG125 (by decide)⟩, zFc_r, yFr_r⟩, zThr_e th9 (by decide), (zNr_f hNr hV hG125.1 ⟨rfl, rfl, rfl⟩), (zDs_f hDs hF.1 hG125.1 ⟨rfl, rfl⟩)⟩
      · rcases zE_c hM with ⟨h126, hM⟩ | ⟨h126, hM⟩
        · obtain ⟨Ym127, hYm127, hM⟩ := zl_x hM
          have hR128 : zRx [] 0 Z Ym127 := zRx_o hRb hYm127 rfl
          have hV129 : zV Ym127 := zV_o hV hYm127 rfl
          have hG130 := yFr_o hG hYm127 rfl (.inr rfl) rfl
          have th9 := (zu_at hYm127)
          obtain rfl : C = _ := hC
          obtain rfl : M = _ := hM
          exact ⟨zRx_1 hR128, hV129, ⟨Z, _, .inl ⟨rfl, yFr_w hG130 (by decide)⟩, zFc_r, yFr_r⟩, zThr_e th9 (by decide), (zNr_f hNr hV hG130.1 ⟨rfl, rfl, rfl⟩), (zDs_f hDs hF.1 hG130.1 ⟨rfl, rfl⟩)⟩
        · rcases zE_c hM with ⟨h131, hM⟩ | ⟨h131, hM⟩
          · obtain ⟨Ym132, hYm132, hM⟩ := zl_x hM
            have hR133 : zRx [] 0 Z Ym132 := zRx_o hRb hYm132 rfl
            have hV134 : zV Ym132 := zV_o hV hYm132 rfl
            have hG135 := yFr_o hG hYm132 rfl (.inr rfl) rfl
            have th9 := (zu_at hYm132)
            obtain rfl : C = _ := hC
            obtain rfl : M = _ := hM
            exact ⟨zRx_1 hR133, hV134, ⟨Z, _, .inl ⟨rfl, yFr_w hG135 (by decide)⟩, zFc_r, yFr_r⟩, zThr_e th9 (by decide), (zNr_f hNr hV hG135.1 ⟨rfl, rfl, rfl⟩), (zDs_f hDs hF.1 hG135.1 ⟨rfl, rfl⟩)⟩
          · rcases zE_c hM with ⟨h136, hM⟩ | ⟨h136, hM⟩
            · obtain ⟨Ym137, hYm137, hM⟩ := zl_x hM
              have hR138 : zRx [] 0 Z Ym137 := zRx_o hRb hYm137 rfl
              have hV139 : zV Ym137 := zV_o hV hYm137 rfl
              have hG140 := yFr_o hG hYm137 rfl (.inr rfl) rfl
              have th9 := (zu_at hYm137)
              obtain rfl : C = _ := hC
              obtain rfl : M = _ := hM
              exact ⟨zRx_1 hR138, hV139, ⟨Z, _, .inl ⟨rfl, yFr_w hG140 (by decide)⟩, zFc_r, yFr_r⟩, zThr_e th9 (by decide), (zNr_f hNr hV hG140.1 ⟨rfl, rfl, rfl⟩), (zDs_f hDs hF.1 hG140.1 ⟨rfl, rfl⟩)⟩
            · obtain ⟨Ym141, hYm141, hM⟩ := zl_x hM
              have hR142 : zRx [] 0 Z Ym141 := zRx_o hRb hYm141 rfl
              have hV143 : zV Ym141 := zV_o hV hYm141 rfl
              have hG144 := yFr_o hG hYm141 rfl (.inr rfl) rfl
              have q145 := zhd (zVr_11_2 (a := 1200) hV (by omega))
              have q146 := zhd ((zu_ne (k' := 2) (b' := 0) (i' := 0) (j' := 1200) hYm141 (fun q => absurd q.1 (by decide))))
              rcases zE_c hM with ⟨h147, hM⟩ | ⟨h147, hM⟩
              · obtain ⟨Ym148, hYm148, hM⟩ := zl_x hM
                have hR149 : zRx [] 0 Z Ym148 := zRx_o hR142 hYm148 rfl
                have hV150 : zV Ym148 := zV_o hV143 hYm148 rfl
                have hG151 := yFr_o hG144 hYm148 rfl (.inr rfl) rfl
                exact False.elim (by have q145 := zhx q145; have q146 := zhx q146; first | omega | grind)
              · obtain ⟨Ym152, hYm152, hM⟩ := zl_x hM
                have hR153 : zRx [] 0 Z Ym152 := zRx_o hR142 hYm152 rfl
                have hV154 : zV Ym152 := zV_o hV143 hYm152 rfl
                have hG155 := yFr_o hG144 hYm152 rfl (.inr rfl) rfl
                exact False.elim (by have q145 := zhx q145; have q146 := zhx q146; first | omega | grind)
  · rcases zE_c hM with ⟨h156, hM⟩ | ⟨h156, hM⟩
    · obtain ⟨Ym157, hYm157, hM⟩ := zl_x hM
      have hR158 : zRx [] 0 Z Ym157 := zRx_o hRb hYm157 rfl
      have hV159 : zV Ym157 := zV_o hV hYm157 rfl
      have hG160 := yFr_o hG hYm157 rfl (.inr rfl) rfl
      have th9 := (zu_at hYm157)
      obtain rfl : C = _ := hC
      obtain rfl : M = _ := hM
      exact ⟨zRx_1 hR158, hV159, ⟨Z, _, .inl ⟨rfl, yFr_w hG160 (by decide)⟩, zFc_r, yFr_r⟩, zThr_e th9 (by decide), (zNr_f hNr hV hG160.1 ⟨rfl, rfl, rfl⟩), (zDs_f hDs hF.1 hG160.1 ⟨rfl, rfl⟩)⟩
    · rcases zE_c hM with ⟨h161, hM⟩ | ⟨h161, hM⟩
      · obtain ⟨Ym162, hYm162, hM⟩ := zl_x hM
        have hR163 : zRx [] 0 Z Ym162 := zRx_o hRb hYm162 rfl
        have hV164 : zV Ym162 := zV_o hV hYm162 rfl
        have hG165 := yFr_o hG hYm162 rfl (.inr rfl) rfl
        have th9 := (zu_at hYm162)
        obtain rfl : C = _ := hC
        obtain rfl : M = _ := hM
        exact ⟨zRx_1 hR163, hV164, ⟨Z, _, .inl ⟨rfl, yFr_w hG165 (by decide)⟩, zFc_r, yFr_r⟩, zThr_e th9 (by decide), (zNr_f hNr hV hG165.1 ⟨rfl, rfl, rfl⟩), (zDs_f hDs hF.1 hG165.1 ⟨rfl, rfl⟩)⟩
      · rcases zE_c hM with ⟨h166, hM⟩ | ⟨h166, hM⟩
        · obtain ⟨Ym167, hYm167, hM⟩ := zl_x hM
          have hR168 : zRx [] 0 Z Ym167 := zRx_o hRb hYm167 rfl
          have hV169 : zV Ym167 := zV_o hV hYm167 rfl
          have hG170 := yFr_o hG hYm167 rfl (.inr rfl) rfl
          have th9 := (zu_at hYm167)
          obtain rfl : C = _ := hC
          obtain rfl : M = _ := hM
          exact ⟨zRx_1 hR168, hV169, ⟨Z, _, .inl ⟨rfl, yFr_w hG170 (by decide)⟩, zFc_r, yFr_r⟩, zThr_e th9 (by decide), (zNr_f hNr hV hG170.1 ⟨rfl, rfl, rfl⟩), (zDs_f hDs hF.1 hG170.1 ⟨rfl, rfl⟩)⟩
        · rcases zE_c hM with ⟨h171, hM⟩ | ⟨h171, hM⟩
          · obtain ⟨Ym172, hYm172, hM⟩ := zl_x hM
            have hR173 : zRx [] 0 Z Ym172 := zRx_o hRb hYm172 rfl
            have hV174 : zV Ym172 := zV_o hV hYm172 rfl
            have hG175 := yFr_o hG hYm172 rfl (.inr rfl) rfl
            have th9 := (zu_at hYm172)
            obtain rfl : C = _ := hC
            obtain rfl : M = _ := hM
            exact ⟨zRx_1 hR173, hV174, ⟨Z, _, .inl ⟨rfl, yFr_w hG175 (by decide)⟩, zFc_r, yFr_r⟩, zThr_e th9 (by decide), (zNr_f hNr hV hG175.1 ⟨rfl, rfl, rfl⟩), (zDs_f hDs hF.1 hG175.1 ⟨rfl, rfl⟩)⟩
          · rcases zE_c hM with ⟨h176, hM⟩ | ⟨h176, hM⟩
            · obtain ⟨Ym177, hYm177, hM⟩ := zl_x hM
              have hR178 : zRx [] 0 Z Ym177 := zRx_o hRb hYm177 rfl
              have hV179 : zV Ym177 := zV_o hV hYm177 rfl
              have hG180 := yFr_o hG hYm177 rfl (.inr rfl) rfl
              have th9 := (zu_at hYm177)
              obtain rfl : C = _ := hC
              obtain rfl : M = _ := hM
              exact ⟨zRx_1 hR178, hV179, ⟨Z, _, .inl ⟨rfl, yFr_w hG180 (by decide)⟩, zFc_r, yFr_r⟩, zThr_e th9 (by decide), (zNr_f hNr hV hG180.1 ⟨rfl, rfl, rfl⟩), (zDs_f hDs hF.1 hG180.1 ⟨rfl, rfl⟩)⟩
            · rcases zE_c hM with ⟨h181, hM⟩ | ⟨h181, hM⟩
              · obtain ⟨Ym182, hYm182, hM⟩ := zl_x hM
                have hR183 : zRx [] 0 Z Ym182 := zRx_o hRb hYm182 rfl
                have hV184 : zV Ym182 := zV_o hV hYm182 rfl
                have hG185 := yFr_o hG hYm182 rfl (.inr rfl) rfl
                have th9 := (zu_at hYm182)
                obtain rfl : C = _ := hC
                obtain rfl : M = _ := hM
                exact ⟨zRx_1 hR183, hV184, ⟨Z, _, .inl ⟨rfl, yFr_w hG185 (by decide)⟩, zFc_r, yFr_r⟩, zThr_e th9 (by decide), (zNr_f hNr hV hG185.1 ⟨rfl, rfl, rfl⟩), (zDs_f hDs hF.1 hG185.1 ⟨rfl, rfl⟩)⟩
              · obtain ⟨Ym186, hYm186, hM⟩ := zl_x hM
                have hR187 : zRx [] 0 Z Ym186 := zRx_o hRb hYm186 rfl
                have hV188 : zV Ym186 := zV_o hV hYm186 rfl
                have hG189 := yFr_o hG hYm186 rfl (.inr rfl) rfl
                have q190 := zhd (zVr_11_2 (a := 1200) hV (by omega))
                have q191 := zhd ((zu_ne (k' := 2) (b' := 0) (i' := 0) (j' := 1200) hYm186 (fun q => absurd q.1 (by decide))))
                rcases zE_c hM with ⟨h192, hM⟩ | ⟨h192, hM⟩
                · obtain ⟨Ym193, hYm193, hM⟩ := zl_x hM
                  have hR194 : zRx [] 0 Z Ym193 := zRx_o hR187 hYm193 rfl
                  have hV195 : zV Ym193 := zV_o hV188 hYm193 rfl
                  have hG196 := yFr_o hG189 hYm193 rfl (.inr rfl) rfl
                  exact False.elim (by have q190 := zhx q190; have q191 := zhx q191; first | omega | grind)
                · obtain ⟨Ym197, hYm197, hM⟩ := zl_x hM
                  have hR198 : zRx [] 0 Z Ym197 := zRx_o hR187 hYm197 rfl
                  have hV199 : zV Ym197 := zV_o hV188 hYm197 rfl
                  have hG200 := yFr_o hG189 hYm197 rfl (.inr rfl) rfl
                  exact False.elim (by have q190 := zhx q190; have q191 := zhx q191; first | omega | grind)
