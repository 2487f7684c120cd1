/- face outside -/
theorem rf_outside {Z Y : qz_Z} {dm : qz_Z → Int → Int → Int → Int → Int → Int → Int → qz_Z} {a1 a2 : Int} (hRa : zR 0 Z Y) (hV : zV Y) (hI : zI none Z) (hd : zDf dm) (hD1 : zD1 0 Z Y) (hD4 : zD4 0 Z Y) (hN1 : zN1 Y) (hN4 : zN4 Y) (hDs : zDs 0 Z Y) (hDw : zDw 0 Z Y) (hDl : zDl 0 Z Y)  {C : qz_Z × Int × Int} {M : qz_Z × Int} (hC : zE C (zx_222 Z a1 a2)) (hM : zE M (zy_443 Y dm a1 a2)) : zR 0 C.1 M.1 ∧ zV M.1 ∧ zDd [1200] [1200, 99999] Z Y dm C.1 M.1 ∧ zThr [(13, 1), (15, 2)] C.2 (M.1 1 0 0 2) M.2 := by
  have hRb := zRx_0 hRa
  have hF : zFc [] 0 Z Z := zFc_r
  have hG : yFr [99999] Y Y := yFr_r
  unfold zx_222 at hC
  unfold zy_443 at hM
  rcases zE_c hC with ⟨h1, hC⟩ | ⟨h1, hC⟩
  · rcases zE_c hC with ⟨h2, hC⟩ | ⟨h2, hC⟩
    · have q3 := zhd (zVr_11_13 (a := 0) hV (by omega))
      have q4 := zhd ((zRl_11_13 (a := 0) hRa (by omega)))
      rcases zE_c hC with ⟨h5, hC⟩ | ⟨h5, hC⟩
      · replace hM := zE_n hM (by first | (have q3 := zhx q3; have q4 := zhx q4; omega) | (simp only [zhx q3, zhx q4] at h1 h2 h5 ⊢ <;> omega))
        replace hM := zE_n hM (by first | (have q3 := zhx q3; have q4 := zhx q4; omega) | (simp only [zhx q3, zhx q4] at h1 h2 h5 ⊢ <;> omega))
        replace hM := zE_n hM (by first | (have q3 := zhx q3; have q4 := zhx q4; omega) | (simp only [zhx q3, zhx q4] at h1 h2 h5 ⊢ <;> omega))
        replace hM := zE_n hM (by first | (have q3 := zhx q3; have q4 := zhx q4; omega) | (simp only [zhx q3, zhx q4] at h1 h2 h5 ⊢ <;> omega))
        obtain ⟨Ym6, hYm6, hM⟩ := zl_x hM
        have hR7 : zRx [] 0 Z Ym6 := zRx_o hRb hYm6 rfl
        have hV8 : zV Ym6 := zV_o hV hYm6 rfl
        have hG9 := yFr_o hG hYm6 rfl (.inr rfl) rfl
        have q10 := zhd ((zu_ne (k' := 2) (b' := 0) (i' := 0) (j' := 0) hYm6 (fun q => absurd q.1 (by decide))))
        replace hM := zE_p hM (by first | (have q3 := zhx q3; have q4 := zhx q4; have q10 := zhx q10; omega) | (simp only [zhx q3, zhx q4, zhx q10] at h1 h2 h5 ⊢ <;> omega))
        obtain ⟨Ym11, hYm11, hM⟩ := zl_x hM
        have hR12 : zRx [] 0 Z Ym11 := zRx_o hR7 hYm11 rfl
        have hV13 : zV Ym11 := zV_o hV8 hYm11 rfl
        have hG14 := yFr_o hG9 hYm11 rfl (.inr rfl) rfl
        have th9 := (zu_at hYm11)
        obtain rfl : C = _ := hC
        obtain rfl : M = _ := hM
        exact ⟨zRx_1 hR12, hV13, ⟨Z, _, .inl ⟨rfl, yFr_w hG14 (by decide)⟩, zFc_r, yFr_r⟩, zThr_e th9 (by decide)⟩
      · replace hM := zE_n hM (by first | (have q3 := zhx q3; have q4 := zhx q4; omega) | (simp only [zhx q3, zhx q4] at h1 h2 h5 ⊢ <;> omega))
        replace hM := zE_n hM (by first | (have q3 := zhx q3; have q4 := zhx q4; omega) | (simp only [zhx q3, zhx q4] at h1 h2 h5 ⊢ <;> omega))
        replace hM := zE_n hM (by first | (have q3 := zhx q3; have q4 := zhx q4; omega) | (simp only [zhx q3, zhx q4] at h1 h2 h5 ⊢ <;> omega))
        replace hM := zE_n hM (by first | (have q3 := zhx q3; have q4 := zhx q4; omega) | (simp only [zhx q3, zhx q4] at h1 h2 h5 ⊢ <;> omega))
        obtain ⟨Ym15, hYm15, hM⟩ := zl_x hM
        have hR16 : zRx [] 0 Z Ym15 := zRx_o hRb hYm15 rfl
        have hV17 : zV Ym15 := zV_o hV hYm15 rfl
        have hG18 := yFr_o hG hYm15 rfl (.inr rfl) rfl
        have q19 := zhd ((zu_ne (k' := 2) (b' := 0) (i' := 0) (j' := 0) hYm15 (fun q => absurd q.1 (by decide))))
        replace hM := zE_n hM (by first | (have q3 := zhx q3; have q4 := zhx q4; have q19 := zhx q19; omega) | (simp only [zhx q3, zhx q4, zhx q19] at h1 h2 h5 ⊢ <;> omega))
        obtain ⟨Ym20, hYm20, hM⟩ := zl_x hM
        have hR21 : zRx [] 0 Z Ym20 := zRx_o hR16 hYm20 rfl
        have hV22 : zV Ym20 := zV_o hV17 hYm20 rfl
        have hG23 := yFr_o hG18 hYm20 rfl (.inr rfl) rfl
        obtain ⟨Zc24, hZc24, hC⟩ := zl_x hC
        obtain ⟨Ym25, hYm25, hM⟩ := zl_x hM
        have hR26 : zRx [] 0 Zc24 Ym25 := zRx_dd hR21 hI hd hZc24 hYm25
        have hV27 : zV Ym25 := zV_dm hV22 hd hYm25
        have hD1_28 : zD1 0 Zc24 Ym25 := (zD1_f (zD1_f hD1 hF.1 hG23.1 ⟨rfl, rfl, rfl⟩) (zFa_dd hI hZc24) (yFa_dm hd hYm25) ⟨rfl, rfl, rfl⟩)
        have hD4_29 : zD4 0 Zc24 Ym25 := (zD4_f (zD4_f hD4 hF.1 hG23.1 ⟨⟨rfl, rfl⟩, rfl, rfl, rfl⟩) (zFa_dd hI hZc24) (yFa_dm hd hYm25) ⟨⟨rfl, rfl⟩, rfl, rfl, rfl⟩)
        have hN1_30 : zN1 Ym25 := (zN1_f (zN1_f hN1 hG23.1 ⟨rfl, rfl, rfl, rfl⟩) (yFa_dm hd hYm25) ⟨rfl, rfl, rfl, rfl⟩)
        have hN4_31 : zN4 Ym25 := (zN4_f (zN4_f hN4 hG23.1 ⟨rfl, rfl, rfl⟩) (yFa_dm hd hYm25) ⟨rfl, rfl, rfl⟩)
        have hDs_32 : zDs 0 Zc24 Ym25 := (zDs_f (zDs_f hDs hF.1 hG23.1 ⟨rfl, rfl⟩) (zFa_dd hI hZc24) (yFa_dm hd hYm25) ⟨rfl, rfl⟩)
        have hDw_33 : zDw 0 Zc24 Ym25 := (zDw_f (zDw_f hDw hF.1 hG23.1 ⟨rfl, rfl⟩) (zFa_dd hI hZc24) (yFa_dm hd hYm25) ⟨rfl, rfl⟩)
        have hDl_34 : zDl 0 Zc24 Ym25 := (zDl_f (zDl_f hDl hF.1 hG23.1 ⟨rfl, rfl, rfl, rfl, rfl⟩) (zFa_dd hI hZc24) (yFa_dm hd hYm25) ⟨rfl, rfl, rfl, rfl, rfl⟩)
        have hF35 : zFc [1200] 0 Zc24 Zc24 := zFc_r
        have hG36 : yFr [1200] Ym25 Ym25 := yFr_r
        obtain ⟨Zc37, hZc37, hC⟩ := zl_x hC
        obtain ⟨Ym38, hYm38, hM⟩ := zl_x hM
        have hV39 : zV Ym38 := zV_n hV27 hYm38 (zvn_12_s (x := a1) (by have q3 := zhx q3; have q4 := zhx q4; omega) (by have q3 := zhx q3; have q4 := zhx q4; omega) (by have q3 := zhx q3; have q4 := zhx q4; omega))
        have hR40 : zRx [] 0 Zc37 Ym38 := zRx_w hR26 (ac_12_s (by have q3 := zhx q3; have q4 := zhx q4; omega) (by have q3 := zhx q3; have q4 := zhx q4; omega) (by have q3 := zhx q3; have q4 := zhx q4; omega)) hZc37 hYm38 (by first | rfl | (omega) | (simp only [] <;> omega))
        have hF41 := zFc_u hF35 hZc37 rfl rfl
        have hG42 := yFr_u hG36 hYm38 (zcm_s (ac_12_s (a := 1300 + a1) (x := a1) (by have q3 := zhx q3; have q4 := zhx q4; omega) (by have q3 := zhx q3; have q4 := zhx q4; omega) (by have q3 := zhx q3; have q4 := zhx q4; omega))) rfl
        have th9 := (((zu_ne (k' := 1) (b' := 0) (i' := 0) (j' := 2) hYm38 (fun q => absurd q.1 (by decide))).trans (zTh_dm hd hYm25 (by decide))).trans (zu_at hYm20))
        have q43 := zhd ((((yFa_dm hd hYm25 (1300 + a1) rfl).trans (zu_ne (k' := 2) (b' := 0) (i' := 0) (j' := 1300 + a1) hYm20 (fun q => absurd q.1 (by decide)))).trans (zu_ne (k' := 2) (b' := 0) (i' := 0) (j' := 1300 + a1) hYm15 (fun q => absurd q.1 (by decide)))))
        have q44 := zhd (((zRl_12_s (x := a1) (a := 1300 + a1) (zRx_1 hR26) (by have q3 := zhx q3; have q4 := zhx q4; omega) (by have q3 := zhx q3; have q4 := zhx q4; omega) (by have q3 := zhx q3; have q4 := zhx q4; omega)).trans (zhx q43)))
        obtain rfl : C = _ := hC
        obtain rfl : M = _ := hM
        exact ⟨zRx_1 hR40, hV39, ⟨Zc24, Ym25, .inr ⟨7, a1, a2, 0, 0, 0, 0, 8, Ym20, hZc24, yFr_w hG23 (by decide), hYm25, (by unfold zcode; omega)⟩, zFc_w hF41 (by decide), yFr_w hG42 (by decide)⟩, zThr_a th9 (by first | (simp only [zhx q3, zhx q4, zhx q43, zhx q44] <;> omega) | rfl | (have q3 := zhx q3; have q4 := zhx q4; have q43 := zhx q43; have q44 := zhx q44; omega) | (have q3 := zhx q3; have q4 := zhx q4; have q43 := zhx q43; have q44 := zhx q44; refine w3z ?_ ?_ ?_ <;> omega) | (have q3 := zhx q3; have q4 := zhx q4; have q43 := zhx q43; have q44 := zhx q44; refine w3y ?_ ?_ ?_ <;> omega) | (have q3 := zhx q3; have q4 := zhx q4; have q43 := zhx q43; have q44 := zhx q44; refine z2o ?_ ?_ ?_ <;> omega) | (have q3 := zhx q3; have q4 := zhx q4; have q43 := zhx q43; have q44 := zhx q44; simp only [zhx q3, zhx q4, zhx q43, zhx q44] at h1 h2 h5 ⊢; refine w3z ?_ ?_ ?_ <;> omega))⟩
    · replace hM := zE_n hM (by omega)
      replace hM := zE_n hM (by omega)
      rcases zE_c hM with ⟨h45, hM⟩ | ⟨h45, hM⟩
      · obtain ⟨Ym46, hYm46, hM⟩ := zl_x hM
        have hR47 : zRx [] 0 Z Ym46 := zRx_o hRb hYm46 rfl
        have hV48 : zV Ym46 := zV_o hV hYm46 rfl
        have hG49 := yFr_o hG hYm46 rfl (.inr rfl) rfl
        have th9 := (zu_at hYm46)
        obtain rfl : C = _ := hC
        obtain rfl : M = _ := hM
        exact ⟨zRx_1 hR47, hV48, ⟨Z, _, .inl ⟨rfl, yFr_w hG49 (by decide)⟩, zFc_r, yFr_r⟩, zThr_e th9 (by decide)⟩
      · rcases zE_c hM with ⟨h50, hM⟩ | ⟨h50, hM⟩
        · obtain ⟨Ym51, hYm51, hM⟩ := zl_x hM
          have hR52 : zRx [] 0 Z Ym51 := zRx_o hRb hYm51 rfl
          have hV53 : zV Ym51 := zV_o hV hYm51 rfl
          have hG54 := yFr_o hG hYm51 rfl (.inr rfl) rfl
          have th9 := (zu_at hYm51)
          obtain rfl : C = _ := hC
          obtain rfl : M = _ := hM
          exact ⟨zRx_1 hR52, hV53, ⟨Z, _, .inl ⟨rfl, yFr_w hG54 (by decide)⟩, zFc_r, yFr_r⟩, zThr_e th9 (by decide)⟩
        · obtain ⟨Ym55, hYm55, hM⟩ := zl_x hM
          have hR56 : zRx [] 0 Z Ym55 := zRx_o hRb hYm55 rfl
          have hV57 : zV Ym55 := zV_o hV hYm55 rfl
          have hG58 := yFr_o hG hYm55 rfl (.inr rfl) rfl
          have q59 := zhd (zVr_11_13 (a := 0) hV (by omega))
          have q60 := zhd ((zu_ne (k' := 2) (b' := 0) (i' := 0) (j' := 0) hYm55 (fun q => absurd q.1 (by decide))))
          rcases zE_c hM with ⟨h61, hM⟩ | ⟨h61, hM⟩
          · obtain ⟨Ym62, hYm62, hM⟩ := zl_x hM
            have hR63 : zRx [] 0 Z Ym62 := zRx_o hR56 hYm62 rfl
            have hV64 : zV Ym62 := zV_o hV57 hYm62 rfl
            have hG65 := yFr_o hG58 hYm62 rfl (.inr rfl) rfl
            exact False.elim (by have q59 := zhx q59; have q60 := zhx q60; first | omega | grind)
          · obtain ⟨Ym66, hYm66, hM⟩ := zl_x hM
            have hR67 : zRx [] 0 Z Ym66 := zRx_o hR56 hYm66 rfl
            have hV68 : zV Ym66 := zV_o hV57 hYm66 rfl
            have hG69 := yFr_o hG58 hYm66 rfl (.inr rfl) rfl
            exact False.elim (by have q59 := zhx q59; have q60 := zhx q60; first | omega | grind)
  · rcases zE_c hM with ⟨h70, hM⟩ | ⟨h70, hM⟩
    · obtain ⟨Ym71, hYm71, hM⟩ := zl_x hM
      have hR72 : zRx [] 0 Z Ym71 := zRx_o hRb hYm71 rfl
      have hV73 : zV Ym71 := zV_o hV hYm71 rfl
      have hG74 := yFr_o hG hYm71 rfl (.inr rfl) rfl
      have th9 := (zu_at hYm71)
      obtain rfl : C = _ := hC
      obtain rfl : M = _ := hM
      exact ⟨zRx_1 hR72, hV73, ⟨Z, _, .inl ⟨rfl, yFr_w hG74 (by decide)⟩, zFc_r, yFr_r⟩, zThr_e th9 (by decide)⟩
    · rcases zE_c hM with ⟨h75, hM⟩ | ⟨h75, hM⟩
      · obtain ⟨Ym76, hYm76, hM⟩ := zl_x hM
        have hR77 : zRx [] 0 Z Ym76 := zRx_o hRb hYm76 rfl
        have hV78 : zV Ym76 := zV_o hV hYm76 rfl
        have hG79 := yFr_o hG hYm76 rfl (.inr rfl) rfl
        have th9 := (zu_at hYm76)
        obtain rfl : C = _ := hC
        obtain rfl : M = _ := hM
        exact ⟨zRx_1 hR77, hV78, ⟨Z, _, .inl ⟨rfl, yFr_w hG79 (by decide)⟩, zFc_r, yFr_r⟩, zThr_e th9 (by decide)⟩
      · rcases zE_c hM with ⟨h80, hM⟩ | ⟨h80, hM⟩
        · obtain ⟨Ym81, hYm81, hM⟩ := zl_x hM
          have hR82 : zRx [] 0 Z Ym81 := zRx_o hRb hYm81 rfl
          have hV83 : zV Ym81 := zV_o hV hYm81 rfl
          have hG84 := yFr_o hG hYm81 rfl (.inr rfl) rfl
          have th9 := (zu_at hYm81)
          obtain rfl : C = _ := hC
          obtain rfl : M = _ := hM
          exact ⟨zRx_1 hR82, hV83, ⟨Z, _, .inl ⟨rfl, yFr_w hG84 (by decide)⟩, zFc_r, yFr_r⟩, zThr_e th9 (by decide)⟩
        · rcases zE_c hM with ⟨h85, hM⟩ | ⟨h85, hM⟩
          · obtain ⟨Ym86, hYm86, hM⟩ := zl_x hM
            have hR87 : zRx [] 0 Z Ym86 := zRx_o hRb hYm86 rfl
            have hV88 : zV Ym86 := zV_o hV hYm86 rfl
            have hG89 := yFr_o hG hYm86 rfl (.inr rfl) rfl
            have th9 := (zu_at hYm86)
            obtain rfl : C = _ := hC
            obtain rfl : M = _ := hM
            exact ⟨zRx_1 hR87, hV88, ⟨Z, _, .inl ⟨rfl, yFr_w hG89 (by decide)⟩, zFc_r, yFr_r⟩, zThr_e th9 (by decide)⟩
          · obtain ⟨Ym90, hYm90, hM⟩ := zl_x hM
            have hR91 : zRx [] 0 Z Ym90 := zRx_o hRb hYm90 rfl
            have hV92 : zV Ym90 := zV_o hV hYm90 rfl
            have hG93 := yFr_o hG hYm90 rfl (.inr rfl) rfl
            have q94 := zhd (zVr_11_13 (a := 0) hV (by omega))
            have q95 := zhd ((zu_ne (k' := 2) (b' := 0) (i' := 0) (j' := 0) hYm90 (fun q => absurd q.1 (by decide))))
            rcases zE_c hM with ⟨h96, hM⟩ | ⟨h96, hM⟩
            · obtain ⟨Ym97, hYm97, hM⟩ := zl_x hM
              have hR98 : zRx [] 0 Z Ym97 := zRx_o hR91 hYm97 rfl
              have hV99 : zV Ym97 := zV_o hV92 hYm97 rfl
              have hG100 := yFr_o hG93 hYm97 rfl (.inr rfl) rfl
              exact False.elim (by have q94 := zhx q94; have q95 := zhx q95; first | omega | grind)
            · obtain ⟨Ym101, hYm101, hM⟩ := zl_x hM
              have hR102 : zRx [] 0 Z Ym101 := zRx_o hR91 hYm101 rfl
              have hV103 : zV Ym101 := zV_o hV92 hYm101 rfl
              have hG104 := yFr_o hG93 hYm101 rfl (.inr rfl) rfl
              exact False.elim (by have q94 := zhx q94; have q95 := zhx q95; first | omega | grind)

/- face order -/
theorem rf_order {Z Y : qz_Z} {dm : qz_Z → Int → Int → Int → Int → Int → Int → Int → qz_Z} {a1 a2 a3 a4 a5 a6 : Int} (hRa : zR 0 Z Y) (hV : zV Y) (hI : zI none Z) (hd : zDf dm) (hD1 : zD1 0 Z Y) (hD4 : zD4 0 Z Y) (hN1 : zN1 Y) (hN4 : zN4 Y) (hDs : zDs 0 Z Y) (hDw : zDw 0 Z Y) (hDl : zDl 0 Z Y)  {C : qz_Z × Int × Int} {M : qz_Z × Int} (hC : zE C (zx_220 Z a1 a2 a3 a4 a5 a6)) (hM : zE M (zy_441 Y dm a1 a2 a3 a4 a5 a6)) : zR 0 C.1 M.1 ∧ zV M.1 ∧ zDd [1105, 4514, 4600, 4601, 4602, 4603, 4604, 4605, 4606] [1105, 4600, 4601, 4602, 4603, 4604, 4605, 4606, 99999] Z Y dm C.1 M.1 ∧ zThr [(24, 1), (13, 2), (15, 3)] C.2 (M.1 1 0 0 2) M.2 := by
  have hRb := zRx_0 hRa
  have hF : zFc [] 0 Z Z := zFc_r
  have hG : yFr [99999] Y Y := yFr_r
  unfold zx_220 at hC
  unfold zy_441 at hM
  have q1 := zhd (zVr_11_4 (a := 1400) hV (by omega))
  have q2 := zhd ((zRl_11_4 (a := 1400) hRa (by omega)))
  rcases zE_c hC with ⟨h3, hC⟩ | ⟨h3, hC⟩
  · have q4 := zhd (zVr_11_0 (a := 100) hV (by omega))
    have q5 := zhd ((zRl_11_0 (a := 100) hRa (by omega)))
    rcases zE_c hC with ⟨h6, hC⟩ | ⟨h6, hC⟩
    · rcases zE_c hC with ⟨h7, hC⟩ | ⟨h7, hC⟩
      · rcases zE_c hC with ⟨h8, hC⟩ | ⟨h8, hC⟩
        · rcases zE_c hC with ⟨h9, hC⟩ | ⟨h9, hC⟩
          · rcases zE_c hC with ⟨h10, hC⟩ | ⟨h10, hC⟩
            · have q11 := zhd (zVr_11_5 (a := 1401) hV (by omega))
              have q12 := zhd ((zRl_11_5 (a := 1401) hRa (by omega)))
              rcases zE_c hC with ⟨h13, hC⟩ | ⟨h13, hC⟩
              · replace hM := zE_n hM (by first | (have q1 := zhx q1; have q2 := zhx q2; have q4 := zhx q4; have q5 := zhx q5; have q11 := zhx q11; have q12 := zhx q12; omega) | (simp only [zhx q1, zhx q2, zhx q4, zhx q5, zhx q11, zhx q12] at h3 h6 h7 h8 h9 h10 h13 ⊢ <;> omega))
                replace hM := zE_n hM (by first | (have q1 := zhx q1; have q2 := zhx q2; have q4 := zhx q4; have q5 := zhx q5; have q11 := zhx q11; have q12 := zhx q12; omega) | (simp only [zhx q1, zhx q2, zhx q4, zhx q5, zhx q11, zhx q12] at h3 h6 h7 h8 h9 h10 h13 ⊢ <;> omega))
                replace hM := zE_n hM (by first | (have q1 := zhx q1; have q2 := zhx q2; have q4 := zhx q4; have q5 := zhx q5; have q11 := zhx q11; have q12 := zhx q12; omega) | (simp only [zhx q1, zhx q2, zhx q4, zhx q5, zhx q11, zhx q12] at h3 h6 h7 h8 h9 h10 h13 ⊢ <;> omega))
                replace hM := zE_n hM (by first | (have q1 := zhx q1; have q2 := zhx q2; have q4 := zhx q4; have q5 := zhx q5; have q11 := zhx q11; have q12 := zhx q12; omega) | (simp only [zhx q1, zhx q2, zhx q4, zhx q5, zhx q11, zhx q12] at h3 h6 h7 h8 h9 h10 h13 ⊢ <;> omega))
                replace hM := zE_n hM (by first | (have q1 := zhx q1; have q2 := zhx q2; have q4 := zhx q4; have q5 := zhx q5; have q11 := zhx q11; have q12 := zhx q12; omega) | (simp only [zhx q1, zhx q2, zhx q4, zhx q5, zhx q11, zhx q12] at h3 h6 h7 h8 h9 h10 h13 ⊢ <;> omega))
                replace hM := zE_n hM (by first | (have q1 := zhx q1; have q2 := zhx q2; have q4 := zhx q4; have q5 := zhx q5; have q11 := zhx q11; have q12 := zhx q12; omega) | (simp only [zhx q1, zhx q2, zhx q4, zhx q5, zhx q11, zhx q12] at h3 h6 h7 h8 h9 h10 h13 ⊢ <;> omega))
                replace hM := zE_n hM (by first | (have q1 := zhx q1; have q2 := zhx q2; have q4 := zhx q4; have q5 := zhx q5; have q11 := zhx q11; have q12 := zhx q12; omega) | (simp only [zhx q1, zhx q2, zhx q4, zhx q5, zhx q11, zhx q12] at h3 h6 h7 h8 h9 h10 h13 ⊢ <;> omega))
                replace hM := zE_n hM (by first | (have q1 := zhx q1; have q2 := zhx q2; have q4 := zhx q4; have q5 := zhx q5; have q11 := zhx q11; have q12 := zhx q12; omega) | (simp only [zhx q1, zhx q2, zhx q4, zhx q5, zhx q11, zhx q12] at h3 h6 h7 h8 h9 h10 h13 ⊢ <;> omega))
                replace hM := zE_n hM (by first | (have q1 := zhx q1; have q2 := zhx q2; have q4 := zhx q4; have q5 := zhx q5; have q11 := zhx q11; have q12 := zhx q12; omega) | (simp only [zhx q1, zhx q2, zhx q4, zhx q5, zhx q11, zhx q12] at h3 h6 h7 h8 h9 h10 h13 ⊢ <;> omega))
                replace hM := zE_n hM (by first | (have q1 := zhx q1; have q2 := zhx q2; have q4 := zhx q4; have q5 := zhx q5; have q11 := zhx q11; have q12 := zhx q12; omega) | (simp only [zhx q1, zhx q2, zhx q4, zhx q5, zhx q11, zhx q12] at h3 h6 h7 h8 h9 h10 h13 ⊢ <;> omega))
                replace hM := zE_n hM (by first | (have q1 := zhx q1; have q2 := zhx q2; have q4 := zhx q4; have q5 := zhx q5; have q11 := zhx q11; have q12 := zhx q12; omega) | (simp only [zhx q1, zhx q2, zhx q4, zhx q5, zhx q11, zhx q12] at h3 h6 h7 h8 h9 h10 h13 ⊢ <;> omega))
                replace hM := zE_n hM (by first | (have q1 := zhx q1; have q2 := zhx q2; have q4 := zhx q4; have q5 := zhx q5; have q11 := zhx q11; have q12 := zhx q12; omega) | (simp only [zhx q1, zhx q2, zhx q4, zhx q5, zhx q11, zhx q12] at h3 h6 h7 h8 h9 h10 h13 ⊢ <;> omega))
                obtain ⟨Ym14, hYm14, hM⟩ := zl_x hM
                have hR15 : zRx [] 0 Z Ym14 := zRx_o hRb hYm14 rfl
                have hV16 : zV Ym14 := zV_o hV hYm14 rfl
                have hG17 := yFr_o hG hYm14 rfl (.inr rfl) rfl
                obtain ⟨Ym18, hYm18, hM⟩ := zl_x hM
                have hR19 : zRx [] 0 Z Ym18 := zRx_o hR15 hYm18 rfl
                have hV20 : zV Ym18 := zV_o hV16 hYm18 rfl
                have hG21 := yFr_o hG17 hYm18 rfl (.inr rfl) rfl
                have q22 := zhd (((zu_ne (k' := 2) (b' := 0) (i' := 0) (j' := 1401) hYm18 (fun q => absurd q.1 (by decide))).trans (zu_ne (k' := 2) (b' := 0) (i' := 0) (j' := 1401) hYm14 (fun q => absurd q.1 (by decide)))))
                replace hM := zE_p hM (by first | (have q1 := zhx q1; have q2 := zhx q2; have q4 := zhx q4; have q5 := zhx q5; have q11 := zhx q11; have q12 := zhx q12; have q22 := zhx q22; omega) | (simp only [zhx q1, zhx q2, zhx q4, zhx q5, zhx q11, zhx q12, zhx q22] at h3 h6 h7 h8 h9 h10 h13 ⊢ <;> omega))
                obtain ⟨Ym23, hYm23, hM⟩ := zl_x hM
                have hR24 : zRx [] 0 Z Ym23 := zRx_o hR19 hYm23 rfl
                have hV25 : zV Ym23 := zV_o hV20 hYm23 rfl
                have hG26 := yFr_o hG21 hYm23 rfl (.inr rfl) rfl
                have th9 := (zu_at hYm23)
                obtain rfl : C = _ := hC
                obtain rfl : M = _ := hM
                exact ⟨zRx_1 hR24, hV25, ⟨Z, _, .inl ⟨rfl, yFr_w hG26 (by decide)⟩, zFc_r, yFr_r⟩, zThr_e th9 (by decide)⟩
              · replace hM := zE_n hM (by first | (have q1 := zhx q1; have q2 := zhx q2; have q4 := zhx q4; have q5 := zhx q5; have q11 := zhx q11; have q12 := zhx q12; omega) | (simp only [zhx q1, zhx q2, zhx q4, zhx q5, zhx q11, zhx q12] at h3 h6 h7 h8 h9 h10 h13 ⊢ <;> omega))
                replace hM := zE_n hM (by first | (have q1 := zhx q1; have q2 := zhx q2; have q4 := zhx q4; have q5 := zhx q5; have q11 := zhx q11; have q12 := zhx q12; omega) | (simp only [zhx q1, zhx q2, zhx q4, zhx q5, zhx q11, zhx q12] at h3 h6 h7 h8 h9 h10 h13 ⊢ <;> omega))
                replace hM := zE_n hM (by first | (have q1 := zhx q1; have q2 := zhx q2; have q4 := zhx q4; have q5 := zhx q5; have q11 := zhx q11; have q12 := zhx q12; omega) | (simp only [zhx q1, zhx q2, zhx q4, zhx q5, zhx q11, zhx q12] at h3 h6 h7 h8 h9 h10 h13 ⊢ <;> omega))
                replace hM := zE_n hM (by first | (have q1 := zhx q1; have q2 := zhx q2; have q4 := zhx q4; have q5 := zhx q5; have q11 := zhx q11; have q12 := zhx q12; omega) | (simp only [zhx q1, zhx q2, zhx q4, zhx q5, zhx q11, zhx q12] at h3 h6 h7 h8 h9 h10 h13 ⊢ <;> omega))
                replace hM := zE_n hM (by first | (have q1 := zhx q1; have q2 := zhx q2; have q4 := zhx q4; have q5 := zhx q5; have q11 := zhx q11; have q12 := zhx q12; omega) | (simp only [zhx q1, zhx q2, zhx q4, zhx q5, zhx q11, zhx q12] at h3 h6 h7 h8 h9 h10 h13 ⊢ <;> omega))
                replace hM := zE_n hM (by first | (have q1 := zhx q1; have q2 := zhx q2; have q4 := zhx q4; have q5 := zhx q5; have q11 := zhx q11; have q12 := zhx q12; omega) | (simp only [zhx q1, zhx q2, zhx q4, zhx q5, zhx q11, zhx q12] at h3 h6 h7 h8 h9 h10 h13 ⊢ <;> omega))
                replace hM := zE_n hM (by first | (have q1 := zhx q1; have q2 := zhx q2; have q4 := zhx q4; have q5 := zhx q5; have q11 := zhx q11; have q12 := zhx q12; omega) | (simp only [zhx q1, zhx q2, zhx q4, zhx q5, zhx q11, zhx q12] at h3 h6 h7 h8 h9 h10 h13 ⊢ <;> omega))
                replace hM := zE_n hM (by first | (have q1 := zhx q1; have q2 := zhx q2; have q4 := zhx q4; have q5 := zhx q5; have q11 := zhx q11; have q12 := zhx q12; omega) | (simp only [zhx q1, zhx q2, zhx q4, zhx q5, zhx q11, zhx q12] at h3 h6 h7 h8 h9 h10 h13 ⊢ <;> omega))
                replace hM := zE_n hM (by first | (have q1 := zhx q1; have q2 := zhx q2; have q4 := zhx q4; have q5 := zhx q5; have q11 := zhx q11; have q12 := zhx q12; omega) | (simp only [zhx q1, zhx q2, zhx q4, zhx q5, zhx q11, zhx q12] at h3 h6 h7 h8 h9 h10 h13 ⊢ <;> omega))
                replace hM := zE_n hM (by first | (have q1 := zhx q1; have q2 := zhx q2; have q4 := zhx q4; have q5 := zhx q5; have q11 := zhx q11; have q12 := zhx q12; omega) | (simp only [zhx q1, zhx q2, zhx q4, zhx q5, zhx q11, zhx q12] at h3 h6 h7 h8 h9 h10 h13 ⊢ <;> omega))
                replace hM := zE_n hM (by first | (have q1 := zhx q1; have q2 := zhx q2; have q4 := zhx q4; have q5 := zhx q5; have q11 := zhx q11; have q12 := zhx q12; omega) | (simp only [zhx q1, zhx q2, zhx q4, zhx q5, zhx q11, zhx q12] at h3 h6 h7 h8 h9 h10 h13 ⊢ <;> omega))
                replace hM := zE_n hM (by first | (have q1 := zhx q1; have q2 := zhx q2; have q4 := zhx q4; have q5 := zhx q5; have q11 := zhx q11; have q12 := zhx q12; omega) | (simp only [zhx q1, zhx q2, zhx q4, zhx q5, zhx q11, zhx q12] at h3 h6 h7 h8 h9 h10 h13 ⊢ <;> omega))
                obtain ⟨Ym27, hYm27, hM⟩ := zl_x hM
                have hR28 : zRx [] 0 Z Ym27 := zRx_o hRb hYm27 rfl
                have hV29 : zV Ym27 := zV_o hV hYm27 rfl
                have hG30 := yFr_o hG hYm27 rfl (.inr rfl) rfl
                obtain ⟨Ym31, hYm31, hM⟩ := zl_x hM
                have hR32 : zRx [] 0 Z Ym31 := zRx_o hR28 hYm31 rfl
                have hV33 : zV Ym31 := zV_o hV29 hYm31 rfl
                have hG34 := yFr_o hG30 hYm31 rfl (.inr rfl) rfl
                have q35 := zhd (((zu_ne (k' := 2) (b' := 0) (i' := 0) (j' := 1401) hYm31 (fun q => absurd q.1 (by decide))).trans (zu_ne (k' := 2) (b' := 0) (i' := 0) (j' := 1401) hYm27 (fun q => absurd q.1 (by decide)))))
                replace hM := zE_n hM (by first | (have q1 := zhx q1; have q2 := zhx q2; have q4 := zhx q4; have q5 := zhx q5; have q11 := zhx q11; have q12 := zhx q12; have q35 := zhx q35; omega) | (simp only [zhx q1, zhx q2, zhx q4, zhx q5, zhx q11, zhx q12, zhx q35] at h3 h6 h7 h8 h9 h10 h13 ⊢ <;> omega))
                obtain ⟨Ym36, hYm36, hM⟩ := zl_x hM
                have hR37 : zRx [] 0 Z Ym36 := zRx_o hR32 hYm36 rfl
                have hV38 : zV Ym36 := zV_o hV33 hYm36 rfl
                have hG39 := yFr_o hG34 hYm36 rfl (.inr rfl) rfl
                obtain ⟨Zc40, hZc40, hC⟩ := zl_x hC
                obtain ⟨Ym41, hYm41, hM⟩ := zl_x hM
                have hR42 : zRx [] 0 Zc40 Ym41 := zRx_dd hR37 hI hd hZc40 hYm41
                have hV43 : zV Ym41 := zV_dm hV38 hd hYm41
                have hD1_44 : zD1 0 Zc40 Ym41 := (zD1_f (zD1_f hD1 hF.1 hG39.1 ⟨rfl, rfl, rfl⟩) (zFa_dd hI hZc40) (yFa_dm hd hYm41) ⟨rfl, rfl, rfl⟩)
                have hD4_45 : zD4 0 Zc40 Ym41 := (zD4_f (zD4_f hD4 hF.1 hG39.1 ⟨⟨rfl, rfl⟩, rfl, rfl, rfl⟩) (zFa_dd hI hZc40) (yFa_dm hd hYm41) ⟨⟨rfl, rfl⟩, rfl, rfl, rfl⟩)
                have hN1_46 : zN1 Ym41 := (zN1_f (zN1_f hN1 hG39.1 ⟨rfl, rfl, rfl, rfl⟩) (yFa_dm hd hYm41) ⟨rfl, rfl, rfl, rfl⟩)
                have hN4_47 : zN4 Ym41 := (zN4_f (zN4_f hN4 hG39.1 ⟨rfl, rfl, rfl⟩) (yFa_dm hd hYm41) ⟨rfl, rfl, rfl⟩)
                have hDs_48 : zDs 0 Zc40 Ym41 := (zDs_f (zDs_f hDs hF.1 hG39.1 ⟨rfl, rfl⟩) (zFa_dd hI hZc40) (yFa_dm hd hYm41) ⟨rfl, rfl⟩)
                have hDw_49 : zDw 0 Zc40 Ym41 := (zDw_f (zDw_f hDw hF.1 hG39.1 ⟨rfl, rfl⟩) (zFa_dd hI hZc40) (yFa_dm hd hYm41) ⟨rfl, rfl⟩)
                have hDl_50 : zDl 0 Zc40 Ym41 := (zDl_f (zDl_f hDl hF.1 hG39.1 ⟨rfl, rfl, rfl, rfl, rfl⟩) (zFa_dd hI hZc40) (yFa_dm hd hYm41) ⟨rfl, rfl, rfl, rfl, rfl⟩)
                have hF51 : zFc [1105, 4514, 4600, 4601, 4602, 4603, 4604, 4605, 4606] 0 Zc40 Zc40 := zFc_r
                have hG52 : yFr [1105, 4600, 4601, 4602, 4603, 4604, 4605, 4606] Ym41 Ym41 := yFr_r
                have q53 := zhd ((((yFa_dm hd hYm41 (1401) rfl).trans (zu_ne (k' := 2) (b' := 0) (i' := 0) (j' := 1401) hYm36 (fun q => absurd q.1 (by decide)))).trans (zhx q35)))
                have q54 := zhd (((zRl_11_5 (a := 1401) (zRx_1 hR42) (by omega)).trans (zhx q53)))
                obtain ⟨Zc55, hZc55, hC⟩ := zl_x hC
                obtain ⟨Ym56, hYm56, hM⟩ := zl_x hM
                have hV57 : zV Ym56 := zV_i hV43 hYm56 (zvi_46_0 (x := (Y 2 0 0 1401)) (by first | (have q11 := zhx q11; have q53 := zhx q53; omega) | (have q1 := zhx q1; have q2 := zhx q2; have q4 := zhx q4; have q5 := zhx q5; have q11 := zhx q11; have q12 := zhx q12; have q53 := zhx q53; omega)) (by first | (have q11 := zhx q11; have q53 := zhx q53; omega) | (have q1 := zhx q1; have q2 := zhx q2; have q4 := zhx q4; have q5 := zhx q5; have q11 := zhx q11; have q12 := zhx q12; have q53 := zhx q53; omega)) (by first | (have q11 := zhx q11; have q53 := zhx q53; omega) | (have q1 := zhx q1; have q2 := zhx q2; have q4 := zhx q4; have q5 := zhx q5; have q11 := zhx q11; have q12 := zhx q12; have q53 := zhx q53; omega))) (by have q1 := zhx q1; have q2 := zhx q2; have q4 := zhx q4; have q5 := zhx q5; have q11 := zhx q11; have q12 := zhx q12; first | omega | exact w3_r _)
                have hR58 : zRx [] 0 Zc55 Ym56 := zRx_w hR42 (ac_46_0 (by first | (have q11 := zhx q11; have q53 := zhx q53; have q54 := zhx q54; omega) | (have q1 := zhx q1; have q2 := zhx q2; have q4 := zhx q4; have q5 := zhx q5; have q11 := zhx q11; have q12 := zhx q12; have q53 := zhx q53; have q54 := zhx q54; omega)) (by first | (have q11 := zhx q11; have q53 := zhx q53; have q54 := zhx q54; omega) | (have q1 := zhx q1; have q2 := zhx q2; have q4 := zhx q4; have q5 := zhx q5; have q11 := zhx q11; have q12 := zhx q12; have q53 := zhx q53; have q54 := zhx q54; omega)) (by first | (have q11 := zhx q11; have q53 := zhx q53; have q54 := zhx q54; omega) | (have q1 := zhx q1; have q2 := zhx q2; have q4 := zhx q4; have q5 := zhx q5; have q11 := zhx q11; have q12 := zhx q12; have q53 := zhx q53; have q54 := zhx q54; omega))) hZc55 hYm56 (by first | rfl | (omega) | (simp only [] <;> omega))
                have hF59 := zFc_u hF51 hZc55 rfl rfl
                have hG60 := yFr_u hG52 hYm56 (zcm_s (ac_46_0 (a := 1510 + 12 * (Ym41 2 0 0 1401)) (x := (Y 2 0 0 1401)) (by first | (have q11 := zhx q11; have q53 := zhx q53; omega) | (have q1 := zhx q1; have q2 := zhx q2; have q4 := zhx q4; have q5 := zhx q5; have q11 := zhx q11; have q12 := zhx q12; have q53 := zhx q53; omega)) (by first | (have q11 := zhx q11; have q53 := zhx q53; omega) | (have q1 := zhx q1; have q2 := zhx q2; have q4 := zhx q4; have q5 := zhx q5; have q11 := zhx q11; have q12 := zhx q12; have q53 := zhx q53; omega)) (by first | (have q11 := zhx q11; have q53 := zhx q53; omega) | (have q1 := zhx q1; have q2 := zhx q2; have q4 := zhx q4; have q5 := zhx q5; have q11 := zhx q11; have q12 := zhx q12; have q53 := zhx q53; omega)))) rfl
                obtain ⟨Zc61, hZc61, hC⟩ := zl_x hC
                obtain ⟨Ym62, hYm62, hM⟩ := zl_x hM
                have hV63 : zV Ym62 := zV_i hV57 hYm62 (zvi_46_1 (x := (Y 2 0 0 1401)) (by first | (have q11 := zhx q11; have q53 := zhx q53; omega) | (have q1 := zhx q1; have q2 := zhx q2; have q4 := zhx q4; have q5 := zhx q5; have q11 := zhx q11; have q12 := zhx q12; have q53 := zhx q53; omega)) (by first | (have q11 := zhx q11; have q53 := zhx q53; omega) | (have q1 := zhx q1; have q2 := zhx q2; have q4 := zhx q4; have q5 := zhx q5; have q11 := zhx q11; have q12 := zhx q12; have q53 := zhx q53; omega)) (by first | (have q11 := zhx q11; have q53 := zhx q53; omega) | (have q1 := zhx q1; have q2 := zhx q2; have q4 := zhx q4; have q5 := zhx q5; have q11 := zhx q11; have q12 := zhx q12; have q53 := zhx q53; omega))) (by have q1 := zhx q1; have q2 := zhx q2; have q4 := zhx q4; have q5 := zhx q5; have q11 := zhx q11; have q12 := zhx q12; first | omega | exact w3_r _)
                have hR64 : zRx [] 0 Zc61 Ym62 := zRx_w hR58 (ac_46_1 (by first | (have q11 := zhx q11; have q53 := zhx q53; have q54 := zhx q54; omega) | (have q1 := zhx q1; have q2 := zhx q2; have q4 := zhx q4; have q5 := zhx q5; have q11 := zhx q11; have q12 := zhx q12; have q53 := zhx q53; have q54 := zhx q54; omega)) (by first | (have q11 := zhx q11; have q53 := zhx q53; have q54 := zhx q54; omega) | (have q1 := zhx q1; have q2 := zhx q2; have q4 := zhx q4; have q5 := zhx q5; have q11 := zhx q11; have q12 := zhx q12; have q53 := zhx q53; have q54 := zhx q54; omega)) (by first | (have q11 := zhx q11; have q53 := zhx q53; have q54 := zhx q54; omega) | (have q1 := zhx q1; have q2 := zhx q2; have q4 := zhx q4; have q5 := zhx q5; have q11 := zhx q11; have q12 := zhx q12; have q53 := zhx q53; have q54 := zhx q54; omega))) hZc61 hYm62 (by first | rfl | (omega) | (simp only [] <;> omega))
                have hF65 := zFc_u hF59 hZc61 rfl rfl
                have hG66 := yFr_u hG60 hYm62 (zcm_s (ac_46_1 (a := 1511 + 12 * (Ym41 2 0 0 1401)) (x := (Y 2 0 0 1401)) (by first | (have q11 := zhx q11; have q53 := zhx q53; omega) | (have q1 := zhx q1; have q2 := zhx q2; have q4 := zhx q4; have q5 := zhx q5; have q11 := zhx q11; have q12 := zhx q12; have q53 := zhx q53; omega)) (by first | (have q11 := zhx q11; have q53 := zhx q53; omega) | (have q1 := zhx q1; have q2 := zhx q2; have q4 := zhx q4; have q5 := zhx q5; have q11 := zhx q11; have q12 := zhx q12; have q53 := zhx q53; omega)) (by first | (have q11 := zhx q11; have q53 := zhx q53; omega) | (have q1 := zhx q1; have q2 := zhx q2; have q4 := zhx q4; have q5 := zhx q5; have q11 := zhx q11; have q12 := zhx q12; have q53 := zhx q53; omega)))) rfl
                obtain ⟨Zc67, hZc67, hC⟩ := zl_x hC
                obtain ⟨Ym68, hYm68, hM⟩ := zl_x hM
                have hV69 : zV Ym68 := zV_n hV63 hYm68 (zvn_46_2 (x := (Y 2 0 0 1401)) (by first | (have q11 := zhx q11; have q53 := zhx q53; omega) | (have q1 := zhx q1; have q2 := zhx q2; have q4 := zhx q4; have q5 := zhx q5; have q11 := zhx q11; have q12 := zhx q12; have q53 := zhx q53; omega)) (by first | (have q11 := zhx q11; have q53 := zhx q53; omega) | (have q1 := zhx q1; have q2 := zhx q2; have q4 := zhx q4; have q5 := zhx q5; have q11 := zhx q11; have q12 := zhx q12; have q53 := zhx q53; omega)) (by first | (have q11 := zhx q11; have q53 := zhx q53; omega) | (have q1 := zhx q1; have q2 := zhx q2; have q4 := zhx q4; have q5 := zhx q5; have q11 := zhx q11; have q12 := zhx q12; have q53 := zhx q53; omega)))
                have hR70 : zRx [] 0 Zc67 Ym68 := zRx_w hR64 (ac_46_2 (by first | (have q11 := zhx q11; have q53 := zhx q53; have q54 := zhx q54; omega) | (have q1 := zhx q1; have q2 := zhx q2; have q4 := zhx q4; have q5 := zhx q5; have q11 := zhx q11; have q12 := zhx q12; have q53 := zhx q53; have q54 := zhx q54; omega)) (by first | (have q11 := zhx q11; have q53 := zhx q53; have q54 := zhx q54; omega) | (have q1 := zhx q1; have q2 := zhx q2; have q4 := zhx q4; have q5 := zhx q5; have q11 := zhx q11; have q12 := zhx q12; have q53 := zhx q53; have q54 := zhx q54; omega)) (by first | (have q11 := zhx q11; have q53 := zhx q53; have q54 := zhx q54; omega) | (have q1 := zhx q1; have q2 := zhx q2; have q4 := zhx q4; have q5 := zhx q5; have q11 := zhx q11; have q12 := zhx q12; have q53 := zhx q53; have q54 := zhx q54; omega))) hZc67 hYm68 (by first | rfl | (omega) | (simp only [] <;> omega))
                have hF71 := zFc_u hF65 hZc67 rfl rfl
                have hG72 := yFr_u hG66 hYm68 (zcm_s (ac_46_2 (a := 1512 + 12 * (Ym41 2 0 0 1401)) (x := (Y 2 0 0 1401)) (by first | (have q11 := zhx q11; have q53 := zhx q53; omega) | (have q1 := zhx q1; have q2 := zhx q2; have q4 := zhx q4; have q5 := zhx q5; have q11 := zhx q11; have q12 := zhx q12; have q53 := zhx q53; omega)) (by first | (have q11 := zhx q11; have q53 := zhx q53; omega) | (have q1 := zhx q1; have q2 := zhx q2; have q4 := zhx q4; have q5 := zhx q5; have q11 := zhx q11; have q12 := zhx q12; have q53 := zhx q53; omega)) (by first | (have q11 := zhx q11; have q53 := zhx q53; omega) | (have q1 := zhx q1; have q2 := zhx q2; have q4 := zhx q4; have q5 := zhx q5; have q11 := zhx q11; have q12 := zhx q12; have q53 := zhx q53; omega)))) rfl
                obtain ⟨Zc73, hZc73, hC⟩ := zl_x hC
                obtain ⟨Ym74, hYm74, hM⟩ := zl_x hM
                have hV75 : zV Ym74 := zV_n hV69 hYm74 (zvn_46_3 (x := (Y 2 0 0 1401)) (by first | (have q11 := zhx q11; have q53 := zhx q53; omega) | (have q1 := zhx q1; have q2 := zhx q2; have q4 := zhx q4; have q5 := zhx q5; have q11 := zhx q11; have q12 := zhx q12; have q53 := zhx q53; omega)) (by first | (have q11 := zhx q11; have q53 := zhx q53; omega) | (have q1 := zhx q1; have q2 := zhx q2; have q4 := zhx q4; have q5 := zhx q5; have q11 := zhx q11; have q12 := zhx q12; have q53 := zhx q53; omega)) (by first | (have q11 := zhx q11; have q53 := zhx q53; omega) | (have q1 := zhx q1; have q2 := zhx q2; have q4 := zhx q4; have q5 := zhx q5; have q11 := zhx q11; have q12 := zhx q12; have q53 := zhx q53; omega)))
                have hR76 : zRx [] 0 Zc73 Ym74 := zRx_w hR70 (ac_46_3 (by first | (have q11 := zhx q11; have q53 := zhx q53; have q54 := zhx q54; omega) | (have q1 := zhx q1; have q2 := zhx q2; have q4 := zhx q4; have q5 := zhx q5; have q11 := zhx q11; have q12 := zhx q12; have q53 := zhx q53; have q54 := zhx q54; omega)) (by first | (have q11 := zhx q11; have q53 := zhx q53; have q54 := zhx q54; omega) | (have q1 := zhx q1; have q2 := zhx q2; have q4 := zhx q4; have q5 := zhx q5; have q11 := zhx q11; have q12 := zhx q12; have q53 := zhx q53; have q54 := zhx q54; omega)) (by first | (have q11 := zhx q11; have q53 := zhx q53; have q54 := zhx q54; omega) | (have q1 := zhx q1; have q2 := zhx q2; have q4 := zhx q4; have q5 := zhx q5; have q11 := zhx q11; have q12 := zhx q12; have q53 := zhx q53; have q54 := zhx q54; omega))) hZc73 hYm74 (by first | rfl | (omega) | (simp only [] <;> omega))
                have hF77 := zFc_u hF71 hZc73 rfl rfl
                have hG78 := yFr_u hG72 hYm74 (zcm_s (ac_46_3 (a := 1513 + 12 * (Ym41 2 0 0 1401)) (x := (Y 2 0 0 1401)) (by first | (have q11 := zhx q11; have q53 := zhx q53; omega) | (have q1 := zhx q1; have q2 := zhx q2; have q4 := zhx q4; have q5 := zhx q5; have q11 := zhx q11; have q12 := zhx q12; have q53 := zhx q53; omega)) (by first | (have q11 := zhx q11; have q53 := zhx q53; omega) | (have q1 := zhx q1; have q2 := zhx q2; have q4 := zhx q4; have q5 := zhx q5; have q11 := zhx q11; have q12 := zhx q12; have q53 := zhx q53; omega)) (by first | (have q11 := zhx q11; have q53 := zhx q53; omega) | (have q1 := zhx q1; have q2 := zhx q2; have q4 := zhx q4; have q5 := zhx q5; have q11 := zhx q11; have q12 := zhx q12; have q53 := zhx q53; omega)))) rfl
                obtain ⟨Zc79, hZc79, hC⟩ := zl_x hC
                obtain ⟨Ym80, hYm80, hM⟩ := zl_x hM
                have hV81 : zV Ym80 := zV_n hV75 hYm80 (zvn_46_4 (x := (Y 2 0 0 1401)) (by first | (have q11 := zhx q11; have q53 := zhx q53; omega) | (have q1 := zhx q1; have q2 := zhx q2; have q4 := zhx q4; have q5 := zhx q5; have q11 := zhx q11; have q12 := zhx q12; have q53 := zhx q53; omega)) (by first | (have q11 := zhx q11; have q53 := zhx q53; omega) | (have q1 := zhx q1; have q2 := zhx q2; have q4 := zhx q4; have q5 := zhx q5; have q11 := zhx q11; have q12 := zhx q12; have q53 := zhx q53; omega)) (by first | (have q11 := zhx q11; have q53 := zhx q53; omega) | (have q1 := zhx q1; have q2 := zhx q2; have q4 := zhx q4; have q5 := zhx q5; have q11 := zhx q11; have q12 := zhx q12; have q53 := zhx q53; omega)))
                have hR82 : zRx [] 0 Zc79 Ym80 := zRx_w hR76 (ac_46_4 (by first | (have q11 := zhx q11; have q53 := zhx q53; have q54 := zhx q54; omega) | (have q1 := zhx q1; have q2 := zhx q2; have q4 := zhx q4; have q5 := zhx q5; have q11 := zhx q11; have q12 := zhx q12; have q53 := zhx q53; have q54 := zhx q54; omega)) (by first | (have q11 := zhx q11; have q53 := zhx q53; have q54 := zhx q54; omega) | (have q1 := zhx q1; have q2 := zhx q2; have q4 := zhx q4; have q5 := zhx q5; have q11 := zhx q11; have q12 := zhx q12; have q53 := zhx q53; have q54 := zhx q54; omega)) (by first | (have q11 := zhx q11; have q53 := zhx q53; have q54 := zhx q54; omega) | (have q1 := zhx q1; have q2 := zhx q2; have q4 := zhx q4; have q5 := zhx q5; have q11 := zhx q11; have q12 := zhx q12; have q53 := zhx q53; have q54 := zhx q54; omega))) hZc79 hYm80 (by first | rfl | (omega) | (simp only [] <;> omega))
                have hF83 := zFc_u hF77 hZc79 rfl rfl
                have hG84 := yFr_u hG78 hYm80 (zcm_s (ac_46_4 (a := 1514 + 12 * (Ym41 2 0 0 1401)) (x := (Y 2 0 0 1401)) (by first | (have q11 := zhx q11; have q53 := zhx q53; omega) | (have q1 := zhx q1; have q2 := zhx q2; have q4 := zhx q4; have q5 := zhx q5; have q11 := zhx q11; have q12 := zhx q12; have q53 := zhx q53; omega)) (by first | (have q11 := zhx q11; have q53 := zhx q53; omega) | (have q1 := zhx q1; have q2 := zhx q2; have q4 := zhx q4; have q5 := zhx q5; have q11 := zhx q11; have q12 := zhx q12; have q53 := zhx q53; omega)) (by first | (have q11 := zhx q11; have q53 := zhx q53; omega) | (have q1 := zhx q1; have q2 := zhx q2; have q4 := zhx q4; have q5 := zhx q5; have q11 := zhx q11; have q12 := zhx q12; have q53 := zhx q53; omega)))) rfl
                obtain ⟨Zc85, hZc85, hC⟩ := zl_x hC
                obtain ⟨Ym86, hYm86, hM⟩ := zl_x hM
                have hV87 : zV Ym86 := zV_n hV81 hYm86 (zvn_46_5 (x := (Y 2 0 0 1401)) (by first | (have q11 := zhx q11; have q53 := zhx q53; omega) | (have q1 := zhx q1; have q2 := zhx q2; have q4 := zhx q4; have q5 := zhx q5; have q11 := zhx q11; have q12 := zhx q12; have q53 := zhx q53; omega)) (by first | (have q11 := zhx q11; have q53 := zhx q53; omega) | (have q1 := zhx q1; have q2 := zhx q2; have q4 := zhx q4; have q5 := zhx q5; have q11 := zhx q11; have q12 := zhx q12; have q53 := zhx q53; omega)) (by first | (have q11 := zhx q11; have q53 := zhx q53; omega) | (have q1 := zhx q1; have q2 := zhx q2; have q4 := zhx q4; have q5 := zhx q5; have q11 := zhx q11; have q12 := zhx q12; have q53 := zhx q53; omega)))
                have hR88 : zRx [] 0 Zc85 Ym86 := zRx_w hR82 (ac_46_5 (by first | (have q11 := zhx q11; have q53 := zhx q53; have q54 := zhx q54; omega) | (have q1 := zhx q1; have q2 := zhx q2; have q4 := zhx q4; have q5 := zhx q5; have q11 := zhx q11; have q12 := zhx q12; have q53 := zhx q53; have q54 := zhx q54; omega)) (by first | (have q11 := zhx q11; have q53 := zhx q53; have q54 := zhx q54; omega) | (have q1 := zhx q1; have q2 := zhx q2; have q4 := zhx q4; have q5 := zhx q5; have q11 := zhx q11; have q12 := zhx q12; have q53 := zhx q53; have q54 := zhx q54; omega)) (by first | (have q11 := zhx q11; have q53 := zhx q53; have q54 := zhx q54; omega) | (have q1 := zhx q1; have q2 := zhx q2; have q4 := zhx q4; have q5 := zhx q5; have q11 := zhx q11; have q12 := zhx q12; have q53 := zhx q53; have q54 := zhx q54; omega))) hZc85 hYm86 (by first | rfl | (omega) | (simp only [] <;> omega))
                have hF89 := zFc_u hF83 hZc85 rfl rfl
                have hG90 := yFr_u hG84 hYm86 (zcm_s (ac_46_5 (a := 1515 + 12 * (Ym41 2 0 0 1401)) (x := (Y 2 0 0 1401)) (by first | (have q11 := zhx q11; have q53 := zhx q53; omega) | (have q1 := zhx q1; have q2 := zhx q2; have q4 := zhx q4; have q5 := zhx q5; have q11 := zhx q11; have q12 := zhx q12; have q53 := zhx q53; omega)) (by first | (have q11 := zhx q11; have q53 := zhx q53; omega) | (have q1 := zhx q1; have q2 := zhx q2; have q4 := zhx q4; have q5 := zhx q5; have q11 := zhx q11; have q12 := zhx q12; have q53 := zhx q53; omega)) (by first | (have q11 := zhx q11; have q53 := zhx q53; omega) | (have q1 := zhx q1; have q2 := zhx q2; have q4 := zhx q4; have q5 := zhx q5; have q11 := zhx q11; have q12 := zhx q12; have q53 := zhx q53; omega)))) rfl
                obtain ⟨Zc91, hZc91, hC⟩ := zl_x hC
                obtain ⟨Ym92, hYm92, hM⟩ := zl_x hM
                have hV93 : zV Ym92 := zV_n hV87 hYm92 (zvn_46_6 (x := (Y 2 0 0 1401)) (by first | (have q11 := zhx q11; have q53 := zhx q53; omega) | (have q1 := zhx q1; have q2 := zhx q2; have q4 := zhx q4; have q5 := zhx q5; have q11 := zhx q11; have q12 := zhx q12; have q53 := zhx q53; omega)) (by first | (have q11 := zhx q11; have q53 := zhx q53; omega) | (have q1 := zhx q1; have q2 := zhx q2; have q4 := zhx q4; have q5 := zhx q5; have q11 := zhx q11; have q12 := zhx q12; have q53 := zhx q53; omega)) (by first | (have q11 := zhx q11; have q53 := zhx q53; omega) | (have q1 := zhx q1; have q2 := zhx q2; have q4 := zhx q4; have q5 := zhx q5; have q11 := zhx q11; have q12 := zhx q12; have q53 := zhx q53; omega)))
                have hR94 : zRx [] 0 Zc91 Ym92 := zRx_w hR88 (ac_46_6 (by first | (have q11 := zhx q11; have q53 := zhx q53; have q54 := zhx q54; omega) | (have q1 := zhx q1; have q2 := zhx q2; have q4 := zhx q4; have q5 := zhx q5; have q11 := zhx q11; have q12 := zhx q12; have q53 := zhx q53; have q54 := zhx q54; omega)) (by first | (have q11 := zhx q11; have q53 := zhx q53; have q54 := zhx q54; omega) | (have q1 := zhx q1; have q2 := zhx q2; have q4 := zhx q4; have q5 := zhx q5; have q11 := zhx q11; have q12 := zhx q12; have q53 := zhx q53; have q54 := zhx q54; omega)) (by first | (have q11 := zhx q11; have q53 := zhx q53; have q54 := zhx q54; omega) | (have q1 := zhx q1; have q2 := zhx q2; have q4 := zhx q4; have q5 := zhx q5; have q11 := zhx q11; have q12 := zhx q12; have q53 := zhx q53; have q54 := zhx q54; omega))) hZc91 hYm92 (by first | rfl | (omega) | (simp only [] <;> omega))
                have hF95 := zFc_u hF89 hZc91 rfl rfl
                have hG96 := yFr_u hG90 hYm92 (zcm_s (ac_46_6 (a := 1516 + 12 * (Ym41 2 0 0 1401)) (x := (Y 2 0 0 1401)) (by first | (have q11 := zhx q11; have q53 := zhx q53; omega) | (have q1 := zhx q1; have q2 := zhx q2; have q4 := zhx q4; have q5 := zhx q5; have q11 := zhx q11; have q12 := zhx q12; have q53 := zhx q53; omega)) (by first | (have q11 := zhx q11; have q53 := zhx q53; omega) | (have q1 := zhx q1; have q2 := zhx q2; have q4 := zhx q4; have q5 := zhx q5; have q11 := zhx q11; have q12 := zhx q12; have q53 := zhx q53; omega)) (by first | (have q11 := zhx q11; have q53 := zhx q53; omega) | (have q1 := zhx q1; have q2 := zhx q2; have q4 := zhx q4; have q5 := zhx q5; have q11 := zhx q11; have q12 := zhx q12; have q53 := zhx q53; omega)))) rfl
                have q97 := zhd (((((((((zu_ne (k' := 45) (b' := 0) (i' := a1) (j' := 14) hZc91 (fun q => absurd q.1 (by decide))).trans (zu_ne (k' := 45) (b' := 0) (i' := a1) (j' := 14) hZc85 (fun q => absurd q.1 (by decide)))).trans (zu_ne (k' := 45) (b' := 0) (i' := a1) (j' := 14) hZc79 (fun q => absurd q.1 (by decide)))).trans (zu_ne (k' := 45) (b' := 0) (i' := a1) (j' := 14) hZc73 (fun q => absurd q.1 (by decide)))).trans (zu_ne (k' := 45) (b' := 0) (i' := a1) (j' := 14) hZc67 (fun q => absurd q.1 (by decide)))).trans (zu_ne (k' := 45) (b' := 0) (i' := a1) (j' := 14) hZc61 (fun q => absurd q.1 (by decide)))).trans (zu_ne (k' := 45) (b' := 0) (i' := a1) (j' := 14) hZc55 (fun q => absurd q.1 (by decide)))).trans (zFa_dd hI hZc40 45 a1 14 rfl rfl)))
                obtain ⟨Zc98, hZc98, hC⟩ := zl_x hC
                have hR99 : zRx [] 0 Zc98 Ym92 := zRx_n hR94 hZc98 (adn_45_14)
                have hF100 := zFc_u hF95 hZc98 rfl rfl
                have q101 := zhd (((((((((zu_ne (k' := 2) (b' := 0) (i' := 0) (j' := 1401) hYm92 (fun q => absurd q.2.2.2 (by first | (have q11 := zhx q11; have q53 := zhx q53; omega) | (have q1 := zhx q1; have q2 := zhx q2; have q4 := zhx q4; have q5 := zhx q5; have q11 := zhx q11; have q12 := zhx q12; have q53 := zhx q53; omega)))).trans (zu_ne (k' := 2) (b' := 0) (i' := 0) (j' := 1401) hYm86 (fun q => absurd q.2.2.2 (by first | (have q11 := zhx q11; have q53 := zhx q53; omega) | (have q1 := zhx q1; have q2 := zhx q2; have q4 := zhx q4; have q5 := zhx q5; have q11 := zhx q11; have q12 := zhx q12; have q53 := zhx q53; omega))))).trans (zu_ne (k' := 2) (b' := 0) (i' := 0) (j' := 1401) hYm80 (fun q => absurd q.2.2.2 (by first | (have q11 := zhx q11; have q53 := zhx q53; omega) | (have q1 := zhx q1; have q2 := zhx q2; have q4 := zhx q4; have q5 := zhx q5; have q11 := zhx q11; have q12 := zhx q12; have q53 := zhx q53; omega))))).trans (zu_ne (k' := 2) (b' := 0) (i' := 0) (j' := 1401) hYm74 (fun q => absurd q.2.2.2 (by first | (have q11 := zhx q11; have q53 := zhx q53; omega) | (have q1 := zhx q1; have q2 := zhx q2; have q4 := zhx q4; have q5 := zhx q5; have q11 := zhx q11; have q12 := zhx q12; have q53 := zhx q53; omega))))).trans (zu_ne (k' := 2) (b' := 0) (i' := 0) (j' := 1401) hYm68 (fun q => absurd q.2.2.2 (by first | (have q11 := zhx q11; have q53 := zhx q53; omega) | (have q1 := zhx q1; have q2 := zhx q2; have q4 := zhx q4; have q5 := zhx q5; have q11 := zhx q11; have q12 := zhx q12; have q53 := zhx q53; omega))))).trans (zu_ne (k' := 2) (b' := 0) (i' := 0) (j' := 1401) hYm62 (fun q => absurd q.2.2.2 (by first | (have q11 := zhx q11; have q53 := zhx q53; omega) | (have q1 := zhx q1; have q2 := zhx q2; have q4 := zhx q4; have q5 := zhx q5; have q11 := zhx q11; have q12 := zhx q12; have q53 := zhx q53; omega))))).trans (zu_ne (k' := 2) (b' := 0) (i' := 0) (j' := 1401) hYm56 (fun q => absurd q.2.2.2 (by first | (have q11 := zhx q11; have q53 := zhx q53; omega) | (have q1 := zhx q1; have q2 := zhx q2; have q4 := zhx q4; have q5 := zhx q5; have q11 := zhx q11; have q12 := zhx q12; have q53 := zhx q53; omega))))).trans (zhx q53)))
                have q102 := zhd (((zRl_11_5 (a := 1401) (zRx_1 hR99) (by omega)).trans (zhx q101)))
                obtain ⟨Zc103, hZc103, hC⟩ := zl_x hC
                obtain ⟨Ym104, hYm104, hM⟩ := zl_x hM
                have hV105 : zV Ym104 := zV_i hV93 hYm104 (zvi_11_5 (by first | (omega) | (have q1 := zhx q1; have q2 := zhx q2; have q4 := zhx q4; have q5 := zhx q5; have q11 := zhx q11; have q12 := zhx q12; omega))) (by have q1 := zhx q1; have q2 := zhx q2; have q4 := zhx q4; have q5 := zhx q5; have q11 := zhx q11; have q12 := zhx q12; have q101 := zhx q101; first | omega | exact w3_r _)
                have hR106 : zRx [] 0 Zc103 Ym104 := zRx_w hR99 (ac_11_5 (by first | (omega) | (have q1 := zhx q1; have q2 := zhx q2; have q4 := zhx q4; have q5 := zhx q5; have q11 := zhx q11; have q12 := zhx q12; omega))) hZc103 hYm104 (by first | rfl | (have q11 := zhx q11; have q101 := zhx q101; have q102 := zhx q102; omega) | (simp only [zhx q11, zhx q101, zhx q102] <;> omega))
                have hF107 := zFc_u hF100 hZc103 rfl rfl
                have hG108 := yFr_u hG96 hYm104 (zcm_s (ac_11_5 (a := 1401) (by first | (omega) | (have q1 := zhx q1; have q2 := zhx q2; have q4 := zhx q4; have q5 := zhx q5; have q11 := zhx q11; have q12 := zhx q12; omega)))) rfl
                have th9 := ((((((((((zu_ne (k' := 1) (b' := 0) (i' := 0) (j' := 2) hYm104 (fun q => absurd q.1 (by decide))).trans (zu_ne (k' := 1) (b' := 0) (i' := 0) (j' := 2) hYm92 (fun q => absurd q.1 (by decide)))).trans (zu_ne (k' := 1) (b' := 0) (i' := 0) (j' := 2) hYm86 (fun q => absurd q.1 (by decide)))).trans (zu_ne (k' := 1) (b' := 0) (i' := 0) (j' := 2) hYm80 (fun q => absurd q.1 (by decide)))).trans (zu_ne (k' := 1) (b' := 0) (i' := 0) (j' := 2) hYm74 (fun q => absurd q.1 (by decide)))).trans (zu_ne (k' := 1) (b' := 0) (i' := 0) (j' := 2) hYm68 (fun q => absurd q.1 (by decide)))).trans (zu_ne (k' := 1) (b' := 0) (i' := 0) (j' := 2) hYm62 (fun q => absurd q.1 (by decide)))).trans (zu_ne (k' := 1) (b' := 0) (i' := 0) (j' := 2) hYm56 (fun q => absurd q.1 (by decide)))).trans (zTh_dm hd hYm41 (by decide))).trans (zu_at hYm36))
                obtain rfl : C = _ := hC
                obtain rfl : M = _ := hM
                exact ⟨zRx_1 hR106, hV105, ⟨Zc40, Ym41, .inr ⟨11, a1, a2, a3, a4, a5, a6, 12, Ym36, hZc40, yFr_w hG39 (by decide), hYm41, (by unfold zcode; omega)⟩, zFc_w hF107 (by decide), yFr_w hG108 (by decide)⟩, zThr_a th9 (by first | rfl | (have q1 := zhx q1; have q2 := zhx q2; have q4 := zhx q4; have q5 := zhx q5; have q11 := zhx q11; have q12 := zhx q12; have q53 := zhx q53; have q102 := zhx q102; omega) | (simp only [zhx q1, zhx q2, zhx q4, zhx q5, zhx q11, zhx q12, zhx q53, zhx q102] <;> omega) | (have q1 := zhx q1; have q2 := zhx q2; have q4 := zhx q4; have q5 := zhx q5; have q11 := zhx q11; have q12 := zhx q12; have q53 := zhx q53; have q102 := zhx q102; refine w3z ?_ ?_ ?_ <;> omega) | (have q1 := zhx q1; have q2 := zhx q2; have q4 := zhx q4; have q5 := zhx q5; have q11 := zhx q11; have q12 := zhx q12; have q53 := zhx q53; have q102 := zhx q102; refine w3y ?_ ?_ ?_ <;> omega) | (have q1 := zhx q1; have q2 := zhx q2; have q4 := zhx q4; have q5 := zhx q5; have q11 := zhx q11; have q12 := zhx q12; have q53 := zhx q53; have q102 := zhx q102; refine z2o ?_ ?_ ?_ <;> omega))⟩
            · replace hM := zE_n hM (by first | (have q1 := zhx q1; have q2 := zhx q2; have q4 := zhx q4; have q5 := zhx q5; omega) | (simp only [zhx q1, zhx q2, zhx q4, zhx q5] at h3 h6 h7 h8 h9 h10 ⊢ <;> omega))
              replace hM := zE_n hM (by first | (have q1 := zhx q1; have q2 := zhx q2; have q4 := zhx q4; have q5 := zhx q5; omega) | (simp only [zhx q1, zhx q2, zhx q4, zhx q5] at h3 h6 h7 h8 h9 h10 ⊢ <;> omega))
              replace hM := zE_n hM (by first | (have q1 := zhx q1; have q2 := zhx q2; have q4 := zhx q4; have q5 := zhx q5; omega) | (simp only [zhx q1, zhx q2, zhx q4, zhx q5] at h3 h6 h7 h8 h9 h10 ⊢ <;> omega))
              replace hM := zE_n hM (by first | (have q1 := zhx q1; have q2 := zhx q2; have q4 := zhx q4; have q5 := zhx q5; omega) | (simp only [zhx q1, zhx q2, zhx q4, zhx q5] at h3 h6 h7 h8 h9 h10 ⊢ <;> omega))
              replace hM := zE_n hM (by first | (have q1 := zhx q1; have q2 := zhx q2; have q4 := zhx q4; have q5 := zhx q5; omega) | (simp only [zhx q1, zhx q2, zhx q4, zhx q5] at h3 h6 h7 h8 h9 h10 ⊢ <;> omega))
              replace hM := zE_n hM (by first | (have q1 := zhx q1; have q2 := zhx q2; have q4 := zhx q4; have q5 := zhx q5; omega) | (simp only [zhx q1, zhx q2, zhx q4, zhx q5] at h3 h6 h7 h8 h9 h10 ⊢ <;> omega))
              rcases zE_c hM with ⟨h109, hM⟩ | ⟨h109, hM⟩
              · replace hM := zE_n hM (by first | (have q1 := zhx q1; have q2 := zhx q2; have q4 := zhx q4; have q5 := zhx q5; omega) | (simp only [zhx q1, zhx q2, zhx q4, zhx q5] at h3 h6 h7 h8 h9 h10 h109 ⊢ <;> omega))
                replace hM := zE_n hM (by first | (have q1 := zhx q1; have q2 := zhx q2; have q4 := zhx q4; have q5 := zhx q5; omega) | (simp only [zhx q1, zhx q2, zhx q4, zhx q5] at h3 h6 h7 h8 h9 h10 h109 ⊢ <;> omega))
                replace hM := zE_n hM (by first | (have q1 := zhx q1; have q2 := zhx q2; have q4 := zhx q4; have q5 := zhx q5; omega) | (simp only [zhx q1, zhx q2, zhx q4, zhx q5] at h3 h6 h7 h8 h9 h10 h109 ⊢ <;> omega))
                replace hM := zE_n hM (by first | (have q1 := zhx q1; have q2 := zhx q2; have q4 := zhx q4; have q5 := zhx q5; omega) | (simp only [zhx q1, zhx q2, zhx q4, zhx q5] at h3 h6 h7 h8 h9 h10 h109 ⊢ <;> omega))
                obtain ⟨Ym110, hYm110, hM⟩ := zl_x hM
                have hR111 : zRx [] 0 Z Ym110 := zRx_o hRb hYm110 rfl
                have hV112 : zV Ym110 := zV_o hV hYm110 rfl
                have hG113 := yFr_o hG hYm110 rfl (.inr rfl) rfl
                obtain ⟨Ym114, hYm114, hM⟩ := zl_x hM
                have hR115 : zRx [] 0 Z Ym114 := zRx_o hR111 hYm114 rfl
                have hV116 : zV Ym114 := zV_o hV112 hYm114 rfl
                have hG117 := yFr_o hG113 hYm114 rfl (.inr rfl) rfl
                have th9 := (zu_at hYm114)
                obtain rfl : C = _ := hC
                obtain rfl : M = _ := hM
                exact ⟨zRx_1 hR115, hV116, ⟨Z, _, .inl ⟨rfl, yFr_w hG117 (by decide)⟩, zFc_r, yFr_r⟩, zThr_e th9 (by decide)⟩
              · rcases zE_c hM with ⟨h118, hM⟩ | ⟨h118, hM⟩
                · replace hM := zE_n hM (by first | (have q1 := zhx q1; have q2 := zhx q2; have q4 := zhx q4; have q5 := zhx q5; omega) | (simp only [zhx q1, zhx q2, zhx q4, zhx q5] at h3 h6 h7 h8 h9 h10 h109 h118 ⊢ <;> omega))
                  replace hM := zE_n hM (by first | (have q1 := zhx q1; have q2 := zhx q2; have q4 := zhx q4; have q5 := zhx q5; omega) | (simp only [zhx q1, zhx q2, zhx q4, zhx q5] at h3 h6 h7 h8 h9 h10 h109 h118 ⊢ <;> omega))
                  replace hM := zE_n hM (by first | (have q1 := zhx q1; have q2 := zhx q2; have q4 := zhx q4; have q5 := zhx q5; omega) | (simp only [zhx q1, zhx q2, zhx q4, zhx q5] at h3 h6 h7 h8 h9 h10 h109 h118 ⊢ <;> omega))
                  replace hM := zE_n hM (by first | (have q1 := zhx q1; have q2 := zhx q2; have q4 := zhx q4; have q5 := zhx q5; omega) | (simp only [zhx q1, zhx q2, zhx q4, zhx q5] at h3 h6 h7 h8 h9 h10 h109 h118 ⊢ <;> omega))
                  obtain ⟨Ym119, hYm119, hM⟩ := zl_x hM
                  have hR120 : zRx [] 0 Z Ym119 := zRx_o hRb hYm119 rfl
                  have hV121 : zV Ym119 := zV_o hV hYm119 rfl
                  have hG122 := yFr_o hG hYm119 rfl (.inr rfl) rfl
                  obtain ⟨Ym123, hYm123, hM⟩ := zl_x hM
                  have hR124 : zRx [] 0 Z Ym123 := zRx_o hR120 hYm123 rfl
                  have hV125 : zV Ym123 := zV_o hV121 hYm123 rfl
                  have hG126 := yFr_o hG122 hYm123 rfl (.inr rfl) rfl
                  have th9 := (zu_at hYm123)
                  obtain rfl : C = _ := hC
                  obtain rfl : M = _ := hM
                  exact ⟨zRx_1 hR124, hV125, ⟨Z, _, .inl ⟨rfl, yFr_w hG126 (by decide)⟩, zFc_r, yFr_r⟩, zThr_e th9 (by decide)⟩
                · replace hM := zE_n hM (by first | (have q1 := zhx q1; have q2 := zhx q2; have q4 := zhx q4; have q5 := zhx q5; omega) | (simp only [zhx q1, zhx q2, zhx q4, zhx q5] at h3 h6 h7 h8 h9 h10 h109 h118 ⊢ <;> omega))
                  replace hM := zE_n hM (by first | (have q1 := zhx q1; have q2 := zhx q2; have q4 := zhx q4; have q5 := zhx q5; omega) | (simp only [zhx q1, zhx q2, zhx q4, zhx q5] at h3 h6 h7 h8 h9 h10 h109 h118 ⊢ <;> omega))
                  replace hM := zE_n hM (by first | (have q1 := zhx q1; have q2 := zhx q2; have q4 := zhx q4; have q5 := zhx q5; omega) | (simp only [zhx q1, zhx q2, zhx q4, zhx q5] at h3 h6 h7 h8 h9 h10 h109 h118 ⊢ <;> omega))
                  replace hM := zE_n hM (by first | (have q1 := zhx q1; have q2 := zhx q2; have q4 := zhx q4; have q5 := zhx q5; omega) | (simp only [zhx q1, zhx q2, zhx q4, zhx q5] at h3 h6 h7 h8 h9 h10 h109 h118 ⊢ <;> omega))
                  obtain ⟨Ym127, hYm127, hM⟩ := zl_x hM
                  have hR128 : zRx [] 0 Z Ym127 := zRx_o hRb hYm127 rfl
                  have hV129 : zV Ym127 := zV_o hV hYm127 rfl
                  have hG130 := yFr_o hG hYm127 rfl (.inr rfl) rfl
                  obtain ⟨Ym131, hYm131, hM⟩ := zl_x hM
                  have hR132 : zRx [] 0 Z Ym131 := zRx_o hR128 hYm131 rfl
                  have hV133 : zV Ym131 := zV_o hV129 hYm131 rfl
                  have hG134 := yFr_o hG130 hYm131 rfl (.inr rfl) rfl
                  have q135 := zhd (zVr_11_5 (a := 1401) hV (by omega))
                  have q136 := zhd (((zu_ne (k' := 2) (b' := 0) (i' := 0) (j' := 1401) hYm131 (fun q => absurd q.1 (by decide))).trans (zu_ne (k' := 2) (b' := 0) (i' := 0) (j' := 1401) hYm127 (fun q => absurd q.1 (by decide)))))
                  rcases zE_c hM with ⟨h137, hM⟩ | ⟨h137, hM⟩
                  · obtain ⟨Ym138, hYm138, hM⟩ := zl_x hM
                    have hR139 : zRx [] 0 Z Ym138 := zRx_o hR132 hYm138 rfl
                    have hV140 : zV Ym138 := zV_o hV133 hYm138 rfl
                    have hG141 := yFr_o hG134 hYm138 rfl (.inr rfl) rfl
                    exact False.elim (by have q1 := zhx q1; have q2 := zhx q2; have q4 := zhx q4; have q5 := zhx q5; have q135 := zhx q135; have q136 := zhx q136; first | omega | grind)
                  · obtain ⟨Ym142, hYm142, hM⟩ := zl_x hM
                    have hR143 : zRx [] 0 Z Ym142 := zRx_o hR132 hYm142 rfl
                    have hV144 : zV Ym142 := zV_o hV133 hYm142 rfl
                    have hG145 := yFr_o hG134 hYm142 rfl (.inr rfl) rfl
                    exact False.elim (by have q1 := zhx q1; have q2 := zhx q2; have q4 := zhx q4; have q5 := zhx q5; have q135 := zhx q135; have q136 := zhx q136; first | omega | grind)
          · replace hM := zE_n hM (by first | (have q1 := zhx q1; have q2 := zhx q2; have q4 := zhx q4; have q5 := zhx q5; omega) | (simp only [zhx q1, zhx q2, zhx q4, zhx q5] at h3 h6 h7 h8 h9 ⊢ <;> omega))
            replace hM := zE_n hM (by first | (have q1 := zhx q1; have q2 := zhx q2; have q4 := zhx q4; have q5 := zhx q5; omega) | (simp only [zhx q1, zhx q2, zhx q4, zhx q5] at h3 h6 h7 h8 h9 ⊢ <;> omega))
            replace hM := zE_n hM (by first | (have q1 := zhx q1; have q2 := zhx q2; have q4 := zhx q4; have q5 := zhx q5; omega) | (simp only [zhx q1, zhx q2, zhx q4, zhx q5] at h3 h6 h7 h8 h9 ⊢ <;> omega))
            replace hM := zE_n hM (by first | (have q1 := zhx q1; have q2 := zhx q2; have q4 := zhx q4; have q5 := zhx q5; omega) | (simp only [zhx q1, zhx q2, zhx q4, zhx q5] at h3 h6 h7 h8 h9 ⊢ <;> omega))
            rcases zE_c hM with ⟨h146, hM⟩ | ⟨h146, hM⟩
            · replace hM := zE_n hM (by first | (have q1 := zhx q1; have q2 := zhx q2; have q4 := zhx q4; have q5 := zhx q5; omega) | (simp only [zhx q1, zhx q2, zhx q4, zhx q5] at h3 h6 h7 h8 h9 h146 ⊢ <;> omega))
              replace hM := zE_n hM (by first | (have q1 := zhx q1; have q2 := zhx q2; have q4 := zhx q4; have q5 := zhx q5; omega) | (simp only [zhx q1, zhx q2, zhx q4, zhx q5] at h3 h6 h7 h8 h9 h146 ⊢ <;> omega))
              replace hM := zE_n hM (by first | (have q1 := zhx q1; have q2 := zhx q2; have q4 := zhx q4; have q5 := zhx q5; omega) | (simp only [zhx q1, zhx q2, zhx q4, zhx q5] at h3 h6 h7 h8 h9 h146 ⊢ <;> omega))
              replace hM := zE_n hM (by first | (have q1 := zhx q1; have q2 := zhx q2; have q4 := zhx q4; have q5 := zhx q5; omega) | (simp only [zhx q1, zhx q2, zhx q4, zhx q5] at h3 h6 h7 h8 h9 h146 ⊢ <;> omega))
              obtain ⟨Ym147, hYm147, hM⟩ := zl_x hM
              have hR148 : zRx [] 0 Z Ym147 := zRx_o hRb hYm147 rfl
              have hV149 : zV Ym147 := zV_o hV hYm147 rfl
              have hG150 := yFr_o hG hYm147 rfl (.inr rfl) rfl
              obtain ⟨Ym151, hYm151, hM⟩ := zl_x hM
              have hR152 : zRx [] 0 Z Ym151 := zRx_o hR148 hYm151 rfl
              have hV153 : zV Ym151 := zV_o hV149 hYm151 rfl
              have hG154 := yFr_o hG150 hYm151 rfl (.inr rfl) rfl
              have th9 := (zu_at hYm151)
              obtain rfl : C = _ := hC
              obtain rfl : M = _ := hM
              exact ⟨zRx_1 hR152, hV153, ⟨Z, _, .inl ⟨rfl, yFr_w hG154 (by decide)⟩, zFc_r, yFr_r⟩, zThr_e th9 (by decide)⟩
            · rcases zE_c hM with ⟨h155, hM⟩ | ⟨h155, hM⟩
              · replace hM := zE_n hM (by first | (have q1 := zhx q1; have q2 := zhx q2; have q4 := zhx q4; have q5 := zhx q5; omega) | (simp only [zhx q1, zhx q2, zhx q4, zhx q5] at h3 h6 h7 h8 h9 h146 h155 ⊢ <;> omega))
                replace hM := zE_n hM (by first | (have q1 := zhx q1; have q2 := zhx q2; have q4 := zhx q4; have q5 := zhx q5; omega) | (simp only [zhx q1, zhx q2, zhx q4, zhx q5] at h3 h6 h7 h8 h9 h146 h155 ⊢ <;> omega))
                replace hM := zE_n hM (by first | (have q1 := zhx q1; have q2 := zhx q2; have q4 := zhx q4; have q5 := zhx q5; omega) | (simp only [zhx q1, zhx q2, zhx q4, zhx q5] at h3 h6 h7 h8 h9 h146 h155 ⊢ <;> omega))
                replace hM := zE_n hM (by first | (have q1 := zhx q1; have q2 := zhx q2; have q4 := zhx q4; have q5 := zhx q5; omega) | (simp only [zhx q1, zhx q2, zhx q4, zhx q5] at h3 h6 h7 h8 h9 h146 h155 ⊢ <;> omega))
                obtain ⟨Ym156, hYm156, hM⟩ := zl_x hM
                have hR157 : zRx [] 0 Z Ym156 := zRx_o hRb hYm156 rfl
                have hV158 : zV Ym156 := zV_o hV hYm156 rfl
                have hG159 := yFr_o hG hYm156 rfl (.inr rfl) rfl
                obtain ⟨Ym160, hYm160, hM⟩ := zl_x hM
                have hR161 : zRx [] 0 Z Ym160 := zRx_o hR157 hYm160 rfl
                have hV162 : zV Ym160 := zV_o hV158 hYm160 rfl
                have hG163 := yFr_o hG159 hYm160 rfl (.inr rfl) rfl
                have th9 := (zu_at hYm160)
                obtain rfl : C = _ := hC
                obtain rfl : M = _ := hM
                exact ⟨zRx_1 hR161, hV162, ⟨Z, _, .inl ⟨rfl, yFr_w hG163 (by decide)⟩, zFc_r, yFr_r⟩, zThr_e th9 (by decide)⟩
              · rcases zE_c hM with ⟨h164, hM⟩ | ⟨h164, hM⟩
                · replace hM := zE_n hM (by first | (have q1 := zhx q1; have q2 := zhx q2; have q4 := zhx q4; have q5 := zhx q5; omega) | (simp only [zhx q1, zhx q2, zhx q4, zhx q5] at h3 h6 h7 h8 h9 h146 h155 h164 ⊢ <;> omega))
                  replace hM := zE_n hM (by first | (have q1 := zhx q1; have q2 := zhx q2; have q4 := zhx q4; have q5 := zhx q5; omega) | (simp only [zhx q1, zhx q2, zhx q4, zhx q5] at h3 h6 h7 h8 h9 h146 h155 h164 ⊢ <;> omega))
                  replace hM := zE_n hM (by first | (have q1 := zhx q1; have q2 := zhx q2; have q4 := zhx q4; have q5 := zhx q5; omega) | (simp only [zhx q1, zhx q2, zhx q4, zhx q5] at h3 h6 h7 h8 h9 h146 h155 h164 ⊢ <;> omega))
                  replace hM := zE_n hM (by first | (have q1 := zhx q1; have q2 := zhx q2; have q4 := zhx q4; have q5 := zhx q5; omega) | (simp only [zhx q1, zhx q2, zhx q4, zhx q5] at h3 h6 h7 h8 h9 h146 h155 h164 ⊢ <;> omega))
                  obtain ⟨Ym165, hYm165, hM⟩ := zl_x hM
                  have hR166 : zRx [] 0 Z Ym165 := zRx_o hRb hYm165 rfl
                  have hV167 : zV Ym165 := zV_o hV hYm165 rfl
                  have hG168 := yFr_o hG hYm165 rfl (.inr rfl) rfl
                  obtain ⟨Ym169, hYm169, hM⟩ := zl_x hM
                  have hR170 : zRx [] 0 Z Ym169 := zRx_o hR166 hYm169 rfl
                  have hV171 : zV Ym169 := zV_o hV167 hYm169 rfl
                  have hG172 := yFr_o hG168 hYm169 rfl (.inr rfl) rfl
                  have th9 := (zu_at hYm169)
                  obtain rfl : C = _ := hC
                  obtain rfl : M = _ := hM
                  exact ⟨zRx_1 hR170, hV171, ⟨Z, _, .inl ⟨rfl, yFr_w hG172 (by decide)⟩, zFc_r, yFr_r⟩, zThr_e th9 (by decide)⟩
                · rcases zE_c hM with ⟨h173, hM⟩ | ⟨h173, hM⟩
                  · replace hM := zE_n hM (by first | (have q1 := zhx q1; have q2 := zhx q2; have q4 := zhx q4; have q5 := zhx q5; omega) | (simp only [zhx q1, zhx q2, zhx q4, zhx q5] at h3 h6 h7 h8 h9 h146 h155 h164 h173 ⊢ <;> omega))
                    replace hM := zE_n hM (by first | (have q1 := zhx q1; have q2 := zhx q2; have q4 := zhx q4; have q5 := zhx q5; omega) | (simp only [zhx q1, zhx q2, zhx q4, zhx q5] at h3 h6 h7 h8 h9 h146 h155 h164 h173 ⊢ <;> omega))
                    replace hM := zE_n hM (by first | (have q1 := zhx q1; have q2 := zhx q2; have q4 := zhx q4; have q5 := zhx q5; omega) | (simp only [zhx q1, zhx q2, zhx q4, zhx q5] at h3 h6 h7 h8 h9 h146 h155 h164 h173 ⊢ <;> omega))
                    replace hM := zE_n hM (by first | (have q1 := zhx q1; have q2 := zhx q2; have q4 := zhx q4; have q5 := zhx q5; omega) | (simp only [zhx q1, zhx q2, zhx q4, zhx q5] at h3 h6 h7 h8 h9 h146 h155 h164 h173 ⊢ <;> omega))
                    obtain ⟨Ym174, hYm174, hM⟩ := zl_x hM
                    have hR175 : zRx [] 0 Z Ym174 := zRx_o hRb hYm174 rfl
                    have hV176 : zV Ym174 := zV_o hV hYm174 rfl
                    have hG177 := yFr_o hG hYm174 rfl (.inr rfl) rfl
                    obtain ⟨Ym178, hYm178, hM⟩ := zl_x hM
                    have hR179 : zRx [] 0 Z Ym178 := zRx_o hR175 hYm178 rfl
                    have hV180 : zV Ym178 := zV_o hV176 hYm178 rfl
                    have hG181 := yFr_o hG177 hYm178 rfl (.inr rfl) rfl
                    have th9 := (zu_at hYm178)
                    obtain rfl : C = _ := hC
                    obtain rfl : M = _ := hM
                    exact ⟨zRx_1 hR179, hV180, ⟨Z, _, .inl ⟨rfl, yFr_w hG181 (by decide)⟩, zFc_r, yFr_r⟩, zThr_e th9 (by decide)⟩
                  · replace hM := zE_n hM (by first | (have q1 := zhx q1; have q2 := zhx q2; have q4 := zhx q4; have q5 := zhx q5; omega) | (simp only [zhx q1, zhx q2, zhx q4, zhx q5] at h3 h6 h7 h8 h9 h146 h155 h164 h173 ⊢ <;> omega))
                    replace hM := zE_n hM (by first | (have q1 := zhx q1; have q2 := zhx q2; have q4 := zhx q4; have q5 := zhx q5; omega) | (simp only [zhx q1, zhx q2, zhx q4, zhx q5] at h3 h6 h7 h8 h9 h146 h155 h164 h173 ⊢ <;> omega))
                    replace hM := zE_n hM (by first | (have q1 := zhx q1; have q2 := zhx q2; have q4 := zhx q4; have q5 := zhx q5; omega) | (simp only [zhx q1, zhx q2, zhx q4, zhx q5] at h3 h6 h7 h8 h9 h146 h155 h164 h173 ⊢ <;> omega))
                    replace hM := zE_n hM (by first | (have q1 := zhx q1; have q2 := zhx q2; have q4 := zhx q4; have q5 := zhx q5; omega) | (simp only [zhx q1, zhx q2, zhx q4, zhx q5] at h3 h6 h7 h8 h9 h146 h155 h164 h173 ⊢ <;> omega))
                    obtain ⟨Ym182, hYm182, hM⟩ := zl_x hM
                    have hR183 : zRx [] 0 Z Ym182 := zRx_o hRb hYm182 rfl
                    have hV184 : zV Ym182 := zV_o hV hYm182 rfl
                    have hG185 := yFr_o hG hYm182 rfl (.inr rfl) rfl
                    obtain ⟨Ym186, hYm186, hM⟩ := zl_x hM
                    have hR187 : zRx [] 0 Z Ym186 := zRx_o hR183 hYm186 rfl
                    have hV188 : zV Ym186 := zV_o hV184 hYm186 rfl
                    have hG189 := yFr_o hG185 hYm186 rfl (.inr rfl) rfl
                    have q190 := zhd (zVr_11_5 (a := 1401) hV (by omega))
                    have q191 := zhd (((zu_ne (k' := 2) (b' := 0) (i' := 0) (j' := 1401) hYm186 (fun q => absurd q.1 (by decide))).trans (zu_ne (k' := 2) (b' := 0) (i' := 0) (j' := 1401) hYm182 (fun q => absurd q.1 (by decide)))))
                    rcases zE_c hM with ⟨h192, hM⟩ | ⟨h192, hM⟩
                    · obtain ⟨Ym193, hYm193, hM⟩ := zl_x hM
                      have hR194 : zRx [] 0 Z Ym193 := zRx_o hR187 hYm193 rfl
                      have hV195 : zV Ym193 := zV_o hV188 hYm193 rfl
                      have hG196 := yFr_o hG189 hYm193 rfl (.inr rfl) rfl
                      exact False.elim (by have q1 := zhx q1; have q2 := zhx q2; have q4 := zhx q4; have q5 := zhx q5; have q190 := zhx q190; have q191 := zhx q191; first | omega | grind)
                    · obtain ⟨Ym197, hYm197, hM⟩ := zl_x hM
                      have hR198 : zRx [] 0 Z Ym197 := zRx_o hR187 hYm197 rfl
                      have hV199 : zV Ym197 := zV_o hV188 hYm197 rfl
                      have hG200 := yFr_o hG189 hYm197 rfl (.inr rfl) rfl
                      exact False.elim (by have q1 := zhx q1; have q2 := zhx q2; have q4 := zhx q4; have q5 := zhx q5; have q190 := zhx q190; have q191 := zhx q191; first | omega | grind)
        · replace hM := zE_n hM (by first | (have q1 := zhx q1; have q2 := zhx q2; have q4 := zhx q4; have q5 := zhx q5; omega) | (simp only [zhx q1, zhx q2, zhx q4, zhx q5] at h3 h6 h7 h8 ⊢ <;> omega))
          replace hM := zE_n hM (by first | (have q1 := zhx q1; have q2 := zhx q2; have q4 := zhx q4; have q5 := zhx q5; omega) | (simp only [zhx q1, zhx q2, zhx q4, zhx q5] at h3 h6 h7 h8 ⊢ <;> omega))
          rcases zE_c hM with ⟨h201, hM⟩ | ⟨h201, hM⟩
          · replace hM := zE_n hM (by first | (have q1 := zhx q1; have q2 := zhx q2; have q4 := zhx q4; have q5 := zhx q5; omega) | (simp only [zhx q1, zhx q2, zhx q4, zhx q5] at h3 h6 h7 h8 h201 ⊢ <;> omega))
            replace hM := zE_n hM (by first | (have q1 := zhx q1; have q2 := zhx q2; have q4 := zhx q4; have q5 := zhx q5; omega) | (simp only [zhx q1, zhx q2, zhx q4, zhx q5] at h3 h6 h7 h8 h201 ⊢ <;> omega))
            replace hM := zE_n hM (by first | (have q1 := zhx q1; have q2 := zhx q2; have q4 := zhx q4; have q5 := zhx q5; omega) | (simp only [zhx q1, zhx q2, zhx q4, zhx q5] at h3 h6 h7 h8 h201 ⊢ <;> omega))
            replace hM := zE_n hM (by first | (have q1 := zhx q1; have q2 := zhx q2; have q4 := zhx q4; have q5 := zhx q5; omega) | (simp only [zhx q1, zhx q2, zhx q4, zhx q5] at h3 h6 h7 h8 h201 ⊢ <;> omega))
            obtain ⟨Ym202, hYm202, hM⟩ := zl_x hM
            have hR203 : zRx [] 0 Z Ym202 := zRx_o hRb hYm202 rfl
            have hV204 : zV Ym202 := zV_o hV hYm202 rfl
            have hG205 := yFr_o hG hYm202 rfl (.inr rfl) rfl
            obtain ⟨Ym206, hYm206, hM⟩ := zl_x hM
            have hR207 : zRx [] 0 Z Ym206 := zRx_o hR203 hYm206 rfl
            have hV208 : zV Ym206 := zV_o hV204 hYm206 rfl
            have hG209 := yFr_o hG205 hYm206 rfl (.inr rfl) rfl
            have th9 := (zu_at hYm206)
            obtain rfl : C = _ := hC
            obtain rfl : M = _ := hM
            exact ⟨zRx_1 hR207, hV208, ⟨Z, _, .inl ⟨rfl, yFr_w hG209 (by decide)⟩, zFc_r, yFr_r⟩, zThr_e th9 (by decide)⟩
          · rcases zE_c hM with ⟨h210, hM⟩ | ⟨h210, hM⟩
            · replace hM := zE_n hM (by first | (have q1 := zhx q1; have q2 := zhx q2; have q4 := zhx q4; have q5 := zhx q5; omega) | (simp only [zhx q1, zhx q2, zhx q4, zhx q5] at h3 h6 h7 h8 h201 h210 ⊢ <;> omega))
              replace hM := zE_n hM (by first | (have q1 := zhx q1; have q2 := zhx q2; have q4 := zhx q4; have q5 := zhx q5; omega) | (simp only [zhx q1, zhx q2, zhx q4, zhx q5] at h3 h6 h7 h8 h201 h210 ⊢ <;> omega))
              replace hM := zE_n hM (by first | (have q1 := zhx q1; have q2 := zhx q2; have q4 := zhx q4; have q5 := zhx q5; omega) | (simp only [zhx q1, zhx q2, zhx q4, zhx q5] at h3 h6 h7 h8 h201 h210 ⊢ <;> omega))
              replace hM := zE_n hM (by first | (have q1 := zhx q1; have q2 := zhx q2; have q4 := zhx q4; have q5 := zhx q5; omega) | (simp only [zhx q1, zhx q2, zhx q4, zhx q5] at h3 h6 h7 h8 h201 h210 ⊢ <;> omega))
              obtain ⟨Ym211, hYm211, hM⟩ := zl_x hM
              have hR212 : zRx [] 0 Z Ym211 := zRx_o hRb hYm211 rfl
              have hV213 : zV Ym211 := zV_o hV hYm211 rfl
              have hG214 := yFr_o hG hYm211 rfl (.inr rfl) rfl
              obtain ⟨Ym215, hYm215, hM⟩ := zl_x hM
              have hR216 : zRx [] 0 Z Ym215 := zRx_o hR212 hYm215 rfl
              have hV217 : zV Ym215 := zV_o hV213 hYm215 rfl
              have hG218 := yFr_o hG214 hYm215 rfl (.inr rfl) rfl
              have th9 := (zu_at hYm215)
              obtain rfl : C = _ := hC
              obtain rfl : M = _ := hM
              exact ⟨zRx_1 hR216, hV217, ⟨Z, _, .inl ⟨rfl, yFr_w hG218 (by decide)⟩, zFc_r, yFr_r⟩, zThr_e th9 (by decide)⟩
            · rcases zE_c hM with ⟨h219, hM⟩ | ⟨h219, hM⟩
              · replace hM := zE_n hM (by first | (have q1 := zhx q1; have q2 := zhx q2; have q4 := zhx q4; have q5 := zhx q5; omega) | (simp only [zhx q1, zhx q2, zhx q4, zhx q5] at h3 h6 h7 h8 h201 h210 h219 ⊢ <;> omega))
                replace hM := zE_n hM (by first | (have q1 := zhx q1; have q2 := zhx q2; have q4 := zhx q4; have q5 := zhx q5; omega) | (simp only [zhx q1, zhx q2, zhx q4, zhx q5] at h3 h6 h7 h8 h201 h210 h219 ⊢ <;> omega))
                replace hM := zE_n hM (by first | (have q1 := zhx q1; have q2 := zhx q2; have q4 := zhx q4; have q5 := zhx q5; omega) | (simp only [zhx q1, zhx q2, zhx q4, zhx q5] at h3 h6 h7 h8 h201 h210 h219 ⊢ <;> omega))
                replace hM := zE_n hM (by first | (have q1 := zhx q1; have q2 := zhx q2; have q4 := zhx q4; have q5 := zhx q5; omega) | (simp only [zhx q1, zhx q2, zhx q4, zhx q5] at h3 h6 h7 h8 h201 h210 h219 ⊢ <;> omega))
                obtain ⟨Ym220, hYm220, hM⟩ := zl_x hM
                have hR221 : zRx [] 0 Z Ym220 := zRx_o hRb hYm220 rfl
                have hV222 : zV Ym220 := zV_o hV hYm220 rfl
                have hG223 := yFr_o hG hYm220 rfl (.inr rfl) rfl
                obtain ⟨Ym224, hYm224, hM⟩ := zl_x hM
                have hR225 : zRx [] 0 Z Ym224 := zRx_o hR221 hYm224 rfl
                have hV226 : zV Ym224 := zV_o hV222 hYm224 rfl
                have hG227 := yFr_o hG223 hYm224 rfl (.inr rfl) rfl
                have th9 := (zu_at hYm224)
                obtain rfl : C = _ := hC
                obtain rfl : M = _ := hM
                exact ⟨zRx_1 hR225, hV226, ⟨Z, _, .inl ⟨rfl, yFr_w hG227 (by decide)⟩, zFc_r, yFr_r⟩, zThr_e th9 (by decide)⟩
              · rcases zE_c hM with ⟨h228, hM⟩ | ⟨h228, hM⟩
                · replace hM := zE_n hM (by first | (have q1 := zhx q1; have q2 := zhx q2; have q4 := zhx q4; have q5 := zhx q5; omega) | (simp only [zhx q1, zhx q2, zhx q4, zhx q5] at h3 h6 h7 h8 h201 h210 h219 h228 ⊢ <;> omega))
                  replace hM := zE_n hM (by first | (have q1 := zhx q1; have q2 := zhx q2; have q4 := zhx q4; have q5 := zhx q5; omega) | (simp only [zhx q1, zhx q2, zhx q4, zhx q5] at h3 h6 h7 h8 h201 h210 h219 h228 ⊢ <;> omega))
                  replace hM := zE_n hM (by first | (have q1 := zhx q1; have q2 := zhx q2; have q4 := zhx q4; have q5 := zhx q5; omega) | (simp only [zhx q1, zhx q2, zhx q4, zhx q5] at h3 h6 h7 h8 h201 h210 h219 h228 ⊢ <;> omega))
                  replace hM := zE_n hM (by first | (have q1 := zhx q1; have q2 := zhx q2; have q4 := zhx q4; have q5 := zhx q5; omega) | (simp only [zhx q1, zhx q2, zhx q4, zhx q5] at h3 h6 h7 h8 h201 h210 h219 h228 ⊢ <;> omega))
                  obtain ⟨Ym229, hYm229, hM⟩ := zl_x hM
                  have hR230 : zRx [] 0 Z Ym229 := zRx_o hRb hYm229 rfl
                  have hV231 : zV Ym229 := zV_o hV hYm229 rfl
                  have hG232 := yFr_o hG hYm229 rfl (.inr rfl) rfl
                  obtain ⟨Ym233, hYm233, hM⟩ := zl_x hM
                  have hR234 : zRx [] 0 Z Ym233 := zRx_o hR230 hYm233 rfl
                  have hV235 : zV Ym233 := zV_o hV231 hYm233 rfl
                  have hG236 := yFr_o hG232 hYm233 rfl (.inr rfl) rfl
                  have th9 := (zu_at hYm233)
                  obtain rfl : C = _ := hC
                  obtain rfl : M = _ := hM
                  exact ⟨zRx_1 hR234, hV235, ⟨Z, _, .inl ⟨rfl, yFr_w hG236 (by decide)⟩, zFc_r, yFr_r⟩, zThr_e th9 (by decide)⟩
                · rcases zE_c hM with ⟨h237, hM⟩ | ⟨h237, hM⟩
                  · replace hM := zE_n hM (by first | (have q1 := zhx q1; have q2 := zhx q2; have q4 := zhx q4; have q5 := zhx q5; omega) | (simp only [zhx q1, zhx q2, zhx q4, zhx q5] at h3 h6 h7 h8 h201 h210 h219 h228 h237 ⊢ <;> omega))
                    replace hM := zE_n hM (by first | (have q1 := zhx q1; have q2 := zhx q2; have q4 := zhx q4; have q5 := zhx q5; omega) | (simp only [zhx q1, zhx q2, zhx q4, zhx q5] at h3 h6 h7 h8 h201 h210 h219 h228 h237 ⊢ <;> omega))
                    replace hM := zE_n hM (by first | (have q1 := zhx q1; have q2 := zhx q2; have q4 := zhx q4; have q5 := zhx q5; omega) | (simp only [zhx q1, zhx q2, zhx q4, zhx q5] at h3 h6 h7 h8 h201 h210 h219 h228 h237 ⊢ <;> omega))
                    replace hM := zE_n hM (by first | (have q1 := zhx q1; have q2 := zhx q2; have q4 := zhx q4; have q5 := zhx q5; omega) | (simp only [zhx q1, zhx q2, zhx q4, zhx q5] at h3 h6 h7 h8 h201 h210 h219 h228 h237 ⊢ <;> omega))
                    obtain ⟨Ym238, hYm238, hM⟩ := zl_x hM
                    have hR239 : zRx [] 0 Z Ym238 := zRx_o hRb hYm238 rfl
                    have hV240 : zV Ym238 := zV_o hV hYm238 rfl
                    have hG241 := yFr_o hG hYm238 rfl (.inr rfl) rfl
                    obtain ⟨Ym242, hYm242, hM⟩ := zl_x hM
                    have hR243 : zRx [] 0 Z Ym242 := zRx_o hR239 hYm242 rfl
                    have hV244 : zV Ym242 := zV_o hV240 hYm242 rfl
                    have hG245 := yFr_o hG241 hYm242 rfl (.inr rfl) rfl
                    have th9 := (zu_at hYm242)
                    obtain rfl : C = _ := hC
                    obtain rfl : M = _ := hM
                    exact ⟨zRx_1 hR243, hV244, ⟨Z, _, .inl ⟨rfl, yFr_w hG245 (by decide)⟩, zFc_r, yFr_r⟩, zThr_e th9 (by decide)⟩
                  · rcases zE_c hM with ⟨h246, hM⟩ | ⟨h246, hM⟩
                    · replace hM := zE_n hM (by first | (have q1 := zhx q1; have q2 := zhx q2; have q4 := zhx q4; have q5 := zhx q5; omega) | (simp only [zhx q1, zhx q2, zhx q4, zhx q5] at h3 h6 h7 h8 h201 h210 h219 h228 h237 h246 ⊢ <;> omega))
                      replace hM := zE_n hM (by first | (have q1 := zhx q1; have q2 := zhx q2; have q4 := zhx q4; have q5 := zhx q5; omega) | (simp only [zhx q1, zhx q2, zhx q4, zhx q5] at h3 h6 h7 h8 h201 h210 h219 h228 h237 h246 ⊢ <;> omega))
                      replace hM := zE_n hM (by first | (have q1 := zhx q1; have q2 := zhx q2; have q4 := zhx q4; have q5 := zhx q5; omega) | (simp only [zhx q1, zhx q2, zhx q4, zhx q5] at h3 h6 h7 h8 h201 h210 h219 h228 h237 h246 ⊢ <;> omega))
                      replace hM := zE_n hM (by first | (have q1 := zhx q1; have q2 := zhx q2; have q4 := zhx q4; have q5 := zhx q5; omega) | (simp only [zhx q1, zhx q2, zhx q4, zhx q5] at h3 h6 h7 h8 h201 h210 h219 h228 h237 h246 ⊢ <;> omega))
                      obtain ⟨Ym247, hYm247, hM⟩ := zl_x hM
                      have hR248 : zRx [] 0 Z Ym247 := zRx_o hRb hYm247 rfl
                      have hV249 : zV Ym247 := zV_o hV hYm247 rfl
                      have hG250 := yFr_o hG hYm247 rfl (.inr rfl) rfl
                      obtain ⟨Ym251, hYm251, hM⟩ := zl_x hM
                      have hR252 : zRx [] 0 Z Ym251 := zRx_o hR248 hYm251 rfl
                      have hV253 : zV Ym251 := zV_o hV249 hYm251 rfl
                      have hG254 := yFr_o hG250 hYm251 rfl (.inr rfl) rfl
                      have th9 := (zu_at hYm251)
                      obtain rfl : C = _ := hC
                      obtain rfl : M = _ := hM
                      exact ⟨zRx_1 hR252, hV253, ⟨Z, _, .inl ⟨rfl, yFr_w hG254 (by decide)⟩, zFc_r, yFr_r⟩, zThr_e th9 (by decide)⟩
                    · replace hM := zE_n hM (by first | (have q1 := zhx q1; have q2 := zhx q2; have q4 := zhx q4; have q5 := zhx q5; omega) | (simp only [zhx q1, zhx q2, zhx q4, zhx q5] at h3 h6 h7 h8 h201 h210 h219 h228 h237 h246 ⊢ <;> omega))
                      replace hM := zE_n hM (by first | (have q1 := zhx q1; have q2 := zhx q2; have q4 := zhx q4; have q5 := zhx q5; omega) | (simp only [zhx q1, zhx q2, zhx q4, zhx q5] at h3 h6 h7 h8 h201 h210 h219 h228 h237 h246 ⊢ <;> omega))
                      replace hM := zE_n hM (by first | (have q1 := zhx q1; have q2 := zhx q2; have q4 := zhx q4; have q5 := zhx q5; omega) | (simp only [zhx q1, zhx q2, zhx q4, zhx q5] at h3 h6 h7 h8 h201 h210 h219 h228 h237 h246 ⊢ <;> omega))
                      replace hM := zE_n hM (by first | (have q1 := zhx q1; have q2 := zhx q2; have q4 := zhx q4; have q5 := zhx q5; omega) | (simp only [zhx q1, zhx q2, zhx q4, zhx q5] at h3 h6 h7 h8 h201 h210 h219 h228 h237 h246 ⊢ <;> omega))
                      obtain ⟨Ym255, hYm255, hM⟩ := zl_x hM
                      have hR256 : zRx [] 0 Z Ym255 := zRx_o hRb hYm255 rfl
                      have hV257 : zV Ym255 := zV_o hV hYm255 rfl
                      have hG258 := yFr_o hG hYm255 rfl (.inr rfl) rfl
                      obtain ⟨Ym259, hYm259, hM⟩ := zl_x hM
                      have hR260 : zRx [] 0 Z Ym259 := zRx_o hR256 hYm259 rfl
                      have hV261 : zV Ym259 := zV_o hV257 hYm259 rfl
                      have hG262 := yFr_o hG258 hYm259 rfl (.inr rfl) rfl
                      have q263 := zhd (zVr_11_5 (a := 1401) hV (by omega))
                      have q264 := zhd (((zu_ne (k' := 2) (b' := 0) (i' := 0) (j' := 1401) hYm259 (fun q => absurd q.1 (by decide))).trans (zu_ne (k' := 2) (b' := 0) (i' := 0) (j' := 1401) hYm255 (fun q => absurd q.1 (by decide)))))
                      rcases zE_c hM with ⟨h265, hM⟩ | ⟨h265, hM⟩
                      · obtain ⟨Ym266, hYm266, hM⟩ := zl_x hM
                        have hR267 : zRx [] 0 Z Ym266 := zRx_o hR260 hYm266 rfl
                        have hV268 : zV Ym266 := zV_o hV261 hYm266 rfl
                        have hG269 := yFr_o hG262 hYm266 rfl (.inr rfl) rfl
                        exact False.elim (by have q1 := zhx q1; have q2 := zhx q2; have q4 := zhx q4; have q5 := zhx q5; have q263 := zhx q263; have q264 := zhx q264; first | omega | grind)
                      · obtain ⟨Ym270, hYm270, hM⟩ := zl_x hM
                        have hR271 : zRx [] 0 Z Ym270 := zRx_o hR260 hYm270 rfl
                        have hV272 : zV Ym270 := zV_o hV261 hYm270 rfl
                        have hG273 := yFr_o hG262 hYm270 rfl (.inr rfl) rfl
                        exact False.elim (by have q1 := zhx q1; have q2 := zhx q2; have q4 := zhx q4; have q5 := zhx q5; have q263 := zhx q263; have q264 := zhx q264; first | omega | grind)
      · rcases zE_c hM with ⟨h274, hM⟩ | ⟨h274, hM⟩
        · replace hM := zE_n hM (by first | (have q1 := zhx q1; have q2 := zhx q2; have q4 := zhx q4; have q5 := zhx q5; omega) | (simp only [zhx q1, zhx q2, zhx q4, zhx q5] at h3 h6 h7 h274 ⊢ <;> omega))
          replace hM := zE_n hM (by first | (have q1 := zhx q1; have q2 := zhx q2; have q4 := zhx q4; have q5 := zhx q5; omega) | (simp only [zhx q1, zhx q2, zhx q4, zhx q5] at h3 h6 h7 h274 ⊢ <;> omega))
          replace hM := zE_n hM (by first | (have q1 := zhx q1; have q2 := zhx q2; have q4 := zhx q4; have q5 := zhx q5; omega) | (simp only [zhx q1, zhx q2, zhx q4, zhx q5] at h3 h6 h7 h274 ⊢ <;> omega))
          replace hM := zE_n hM (by first | (have q1 := zhx q1; have q2 := zhx q2; have q4 := zhx q4; have q5 := zhx q5; omega) | (simp only [zhx q1, zhx q2, zhx q4, zhx q5] at h3 h6 h7 h274 ⊢ <;> omega))
          obtain ⟨Ym275, hYm275, hM⟩ := zl_x hM
          have hR276 : zRx [] 0 Z Ym275 := zRx_o hRb hYm275 rfl
          have hV277 : zV Ym275 := zV_o hV hYm275 rfl
          have hG278 := yFr_o hG hYm275 rfl (.inr rfl) rfl
          obtain ⟨Ym279, hYm279, hM⟩ := zl_x hM
          have hR280 : zRx [] 0 Z Ym279 := zRx_o hR276 hYm279 rfl
          have hV281 : zV Ym279 := zV_o hV277 hYm279 rfl
          have hG282 := yFr_o hG278 hYm279 rfl (.inr rfl) rfl
          have th9 := (zu_at hYm279)
          obtain rfl : C = _ := hC
          obtain rfl : M = _ := hM
          exact ⟨zRx_1 hR280, hV281, ⟨Z, _, .inl ⟨rfl, yFr_w hG282 (by decide)⟩, zFc_r, yFr_r⟩, zThr_e th9 (by decide)⟩
        · rcases zE_c hM with ⟨h283, hM⟩ | ⟨h283, hM⟩
          · replace hM := zE_n hM (by first | (have q1 := zhx q1; have q2 := zhx q2; have q4 := zhx q4; have q5 := zhx q5; omega) | (simp only [zhx q1, zhx q2, zhx q4, zhx q5] at h3 h6 h7 h274 h283 ⊢ <;> omega))
            replace hM := zE_n hM (by first | (have q1 := zhx q1; have q2 := zhx q2; have q4 := zhx q4; have q5 := zhx q5; omega) | (simp only [zhx q1, zhx q2, zhx q4, zhx q5] at h3 h6 h7 h274 h283 ⊢ <;> omega))
            replace hM := zE_n hM (by first | (have q1 := zhx q1; have q2 := zhx q2; have q4 := zhx q4; have q5 := zhx q5; omega) | (simp only [zhx q1, zhx q2, zhx q4, zhx q5] at h3 h6 h7 h274 h283 ⊢ <;> omega))
            replace hM := zE_n hM (by first | (have q1 := zhx q1; have q2 := zhx q2; have q4 := zhx q4; have q5 := zhx q5; omega) | (simp only [zhx q1, zhx q2, zhx q4, zhx q5] at h3 h6 h7 h274 h283 ⊢ <;> omega))
            obtain ⟨Ym284, hYm284, hM⟩ := zl_x hM
            have hR285 : zRx [] 0 Z Ym284 := zRx_o hRb hYm284 rfl
            have hV286 : zV Ym284 := zV_o hV hYm284 rfl
            have hG287 := yFr_o hG hYm284 rfl (.inr rfl) rfl
            obtain ⟨Ym288, hYm288, hM⟩ := zl_x hM
            have hR289 : zRx [] 0 Z Ym288 := zRx_o hR285 hYm288 rfl
            have hV290 : zV Ym288 := zV_o hV286 hYm288 rfl
            have hG291 := yFr_o hG287 hYm288 rfl (.inr rfl) rfl
            have th9 := (zu_at hYm288)
            obtain rfl : C = _ := hC
            obtain rfl : M = _ := hM
            exact ⟨zRx_1 hR289, hV290, ⟨Z, _, .inl ⟨rfl, yFr_w hG291 (by decide)⟩, zFc_r, yFr_r⟩, zThr_e th9 (by decide)⟩
          · rcases zE_c hM with ⟨h292, hM⟩ | ⟨h292, hM⟩
            · replace hM := zE_n hM (by first | (have q1 := zhx q1; have q2 := zhx q2; have q4 := zhx q4; have q5 := zhx q5; omega) | (simp only [zhx q1, zhx q2, zhx q4, zhx q5] at h3 h6 h7 h274 h283 h292 ⊢ <;> omega))
              replace hM := zE_n hM (by first | (have q1 := zhx q1; have q2 := zhx q2; have q4 := zhx q4; have q5 := zhx q5; omega) | (simp only [zhx q1, zhx q2, zhx q4, zhx q5] at h3 h6 h7 h274 h283 h292 ⊢ <;> omega))
              replace hM := zE_n hM (by first | (have q1 := zhx q1; have q2 := zhx q2; have q4 := zhx q4; have q5 := zhx q5; omega) | (simp only [zhx q1, zhx q2, zhx q4, zhx q5] at h3 h6 h7 h274 h283 h292 ⊢ <;> omega))
              replace hM := zE_n hM (by first | (have q1 := zhx q1; have q2 := zhx q2; have q4 := zhx q4; have q5 := zhx q5; omega) | (simp only [zhx q1, zhx q2, zhx q4, zhx q5] at h3 h6 h7 h274 h283 h292 ⊢ <;> omega))
              obtain ⟨Ym293, hYm293, hM⟩ := zl_x hM
              have hR294 : zRx [] 0 Z Ym293 := zRx_o hRb hYm293 rfl
              have hV295 : zV Ym293 := zV_o hV hYm293 rfl
              have hG296 := yFr_o hG hYm293 rfl (.inr rfl) rfl
              obtain ⟨Ym297, hYm297, hM⟩ := zl_x hM
              have hR298 : zRx [] 0 Z Ym297 := zRx_o hR294 hYm297 rfl
              have hV299 : zV Ym297 := zV_o hV295 hYm297 rfl
              have hG300 := yFr_o hG296 hYm297 rfl (.inr rfl) rfl
              have th9 := (zu_at hYm297)
              obtain rfl : C = _ := hC
              obtain rfl : M = _ := hM
              exact ⟨zRx_1 hR298, hV299, ⟨Z, _, .inl ⟨rfl, yFr_w hG300 (by decide)⟩, zFc_r, yFr_r⟩, zThr_e th9 (by decide)⟩
            · rcases zE_c hM with ⟨h301, hM⟩ | ⟨h301, hM⟩
              · replace hM := zE_n hM (by first | (have q1 := zhx q1; have q2 := zhx q2; have q4 := zhx q4; have q5 := zhx q5; omega) | (simp only [zhx q1, zhx q2, zhx q4, zhx q5] at h3 h6 h7 h274 h283 h292 h301 ⊢ <;> omega))
                replace hM := zE_n hM (by first | (have q1 := zhx q1; have q2 := zhx q2; have q4 := zhx q4; have q5 := zhx q5; omega) | (simp only [zhx q1, zhx q2, zhx q4, zhx q5] at h3 h6 h7 h274 h283 h292 h301 ⊢ <;> omega))
                replace hM := zE_n hM (by first | (have q1 := zhx q1; have q2 := zhx q2; have q4 := zhx q4; have q5 := zhx q5; omega) | (simp only [zhx q1, zhx q2, zhx q4, zhx q5] at h3 h6 h7 h274 h283 h292 h301 ⊢ <;> omega))
                replace hM := zE_n hM (by first | (have q1 := zhx q1; have q2 := zhx q2; have q4 := zhx q4; have q5 := zhx q5; omega) | (simp only [zhx q1, zhx q2, zhx q4, zhx q5] at h3 h6 h7 h274 h283 h292 h301 ⊢ <;> omega))
                obtain ⟨Ym302, hYm302, hM⟩ := zl_x hM
                have hR303 : zRx [] 0 Z Ym302 := zRx_o hRb hYm302 rfl
                have hV304 : zV Ym302 := zV_o hV hYm302 rfl
                have hG305 := yFr_o hG hYm302 rfl (.inr rfl) rfl
                obtain ⟨Ym306, hYm306, hM⟩ := zl_x hM
                have hR307 : zRx [] 0 Z Ym306 := zRx_o hR303 hYm306 rfl
                have hV308 : zV Ym306 := zV_o hV304 hYm306 rfl
                have hG309 := yFr_o hG305 hYm306 rfl (.inr rfl) rfl
                have th9 := (zu_at hYm306)
                obtain rfl : C = _ := hC
                obtain rfl : M = _ := hM
                exact ⟨zRx_1 hR307, hV308, ⟨Z, _, .inl ⟨rfl, yFr_w hG309 (by decide)⟩, zFc_r, yFr_r⟩, zThr_e th9 (by decide)⟩
              · rcases zE_c hM with ⟨h310, hM⟩ | ⟨h310, hM⟩
                · replace hM := zE_n hM (by first | (have q1 := zhx q1; have q2 := zhx q2; have q4 := zhx q4; have q5 := zhx q5; omega) | (simp only [zhx q1, zhx q2, zhx q4, zhx q5] at h3 h6 h7 h274 h283 h292 h301 h310 ⊢ <;> omega))
                  replace hM := zE_n hM (by first | (have q1 := zhx q1; have q2 := zhx q2; have q4 := zhx q4; have q5 := zhx q5; omega) | (simp only [zhx q1, zhx q2, zhx q4, zhx q5] at h3 h6 h7 h274 h283 h292 h301 h310 ⊢ <;> omega))
                  replace hM := zE_n hM (by first | (have q1 := zhx q1; have q2 := zhx q2; have q4 := zhx q4; have q5 := zhx q5; omega) | (simp only [zhx q1, zhx q2, zhx q4, zhx q5] at h3 h6 h7 h274 h283 h292 h301 h310 ⊢ <;> omega))
                  replace hM := zE_n hM (by first | (have q1 := zhx q1; have q2 := zhx q2; have q4 := zhx q4; have q5 := zhx q5; omega) | (simp only [zhx q1, zhx q2, zhx q4, zhx q5] at h3 h6 h7 h274 h283 h292 h301 h310 ⊢ <;> omega))
                  obtain ⟨Ym311, hYm311, hM⟩ := zl_x hM
                  have hR312 : zRx [] 0 Z Ym311 := zRx_o hRb hYm311 rfl
                  have hV313 : zV Ym311 := zV_o hV hYm311 rfl
                  have hG314 := yFr_o hG hYm311 rfl (.inr rfl) rfl
                  obtain ⟨Ym315, hYm315, hM⟩ := zl_x hM
                  have hR316 : zRx [] 0 Z Ym315 := zRx_o hR312 hYm315 rfl
                  have hV317 : zV Ym315 := zV_o hV313 hYm315 rfl
                  have hG318 := yFr_o hG314 hYm315 rfl (.inr rfl) rfl
                  have th9 := (zu_at hYm315)
                  obtain rfl : C = _ := hC
                  obtain rfl : M = _ := hM
                  exact ⟨zRx_1 hR316, hV317, ⟨Z, _, .inl ⟨rfl, yFr_w hG318 (by decide)⟩, zFc_r, yFr_r⟩, zThr_e th9 (by decide)⟩
                · rcases zE_c hM with ⟨h319, hM⟩ | ⟨h319, hM⟩
                  · replace hM := zE_n hM (by first | (have q1 := zhx q1; have q2 := zhx q2; have q4 := zhx q4; have q5 := zhx q5; omega) | (simp only [zhx q1, zhx q2, zhx q4, zhx q5] at h3 h6 h7 h274 h283 h292 h301 h310 h319 ⊢ <;> omega))
                    replace hM := zE_n hM (by first | (have q1 := zhx q1; have q2 := zhx q2; have q4 := zhx q4; have q5 := zhx q5; omega) | (simp only [zhx q1, zhx q2, zhx q4, zhx q5] at h3 h6 h7 h274 h283 h292 h301 h310 h319 ⊢ <;> omega))
                    replace hM := zE_n hM (by first | (have q1 := zhx q1; have q2 := zhx q2; have q4 := zhx q4; have q5 := zhx q5; omega) | (simp only [zhx q1, zhx q2, zhx q4, zhx q5] at h3 h6 h7 h274 h283 h292 h301 h310 h319 ⊢ <;> omega))
                    replace hM := zE_n hM (by first | (have q1 := zhx q1; have q2 := zhx q2; have q4 := zhx q4; have q5 := zhx q5; omega) | (simp only [zhx q1, zhx q2, zhx q4, zhx q5] at h3 h6 h7 h274 h283 h292 h301 h310 h319 ⊢ <;> omega))
                    obtain ⟨Ym320, hYm320, hM⟩ := zl_x hM
                    have hR321 : zRx [] 0 Z Ym320 := zRx_o hRb hYm320 rfl
                    have hV322 : zV Ym320 := zV_o hV hYm320 rfl
                    have hG323 := yFr_o hG hYm320 rfl (.inr rfl) rfl
                    obtain ⟨Ym324, hYm324, hM⟩ := zl_x hM
                    have hR325 : zRx [] 0 Z Ym324 := zRx_o hR321 hYm324 rfl
                    have hV326 : zV Ym324 := zV_o hV322 hYm324 rfl
                    have hG327 := yFr_o hG323 hYm324 rfl (.inr rfl) rfl
                    have th9 := (zu_at hYm324)
                    obtain rfl : C = _ := hC
                    obtain rfl : M = _ := hM
                    exact ⟨zRx_1 hR325, hV326, ⟨Z, _, .inl ⟨rfl, yFr_w hG327 (by decide)⟩, zFc_r, yFr_r⟩, zThr_e th9 (by decide)⟩
                  · rcases zE_c hM with ⟨h328, hM⟩ | ⟨h328, hM⟩
                    · replace hM := zE_n hM (by first | (have q1 := zhx q1; have q2 := zhx q2; have q4 := zhx q4; have q5 := zhx q5; omega) | (simp only [zhx q1, zhx q2, zhx q4, zhx q5] at h3 h6 h7 h274 h283 h292 h301 h310 h319 h328 ⊢ <;> omega))
                      replace hM := zE_n hM (by first | (have q1 := zhx q1; have q2 := zhx q2; have q4 := zhx q4; have q5 := zhx q5; omega) | (simp only [zhx q1, zhx q2, zhx q4, zhx q5] at h3 h6 h7 h274 h283 h292 h301 h310 h319 h328 ⊢ <;> omega))
                      replace hM := zE_n hM (by first | (have q1 := zhx q1; have q2 := zhx q2; have q4 := zhx q4; have q5 := zhx q5; omega) | (simp only [zhx q1, zhx q2, zhx q4, zhx q5] at h3 h6 h7 h274 h283 h292 h301 h310 h319 h328 ⊢ <;> omega))
                      replace hM := zE_n hM (by first | (have q1 := zhx q1; have q2 := zhx q2; have q4 := zhx q4; have q5 := zhx q5; omega) | (simp only [zhx q1, zhx q2, zhx q4, zhx q5] at h3 h6 h7 h274 h283 h292 h301 h310 h319 h328 ⊢ <;> omega))
                      obtain ⟨Ym329, hYm329, hM⟩ := zl_x hM
                      have hR330 : zRx [] 0 Z Ym329 := zRx_o hRb hYm329 rfl
                      have hV331 : zV Ym329 := zV_o hV hYm329 rfl
                      have hG332 := yFr_o hG hYm329 rfl (.inr rfl) rfl
                      obtain ⟨Ym333, hYm333, hM⟩ := zl_x hM
                      have hR334 : zRx [] 0 Z Ym333 := zRx_o hR330 hYm333 rfl
                      have hV335 : zV Ym333 := zV_o hV331 hYm333 rfl
                      have hG336 := yFr_o hG332 hYm333 rfl (.inr rfl) rfl
                      have th9 := (zu_at hYm333)
                      obtain rfl : C = _ := hC
                      obtain rfl : M = _ := hM
                      exact ⟨zRx_1 hR334, hV335, ⟨Z, _, .inl ⟨rfl, yFr_w hG336 (by decide)⟩, zFc_r, yFr_r⟩, zThr_e th9 (by decide)⟩
                    · rcases zE_c hM with ⟨h337, hM⟩ | ⟨h337, hM⟩
                      · replace hM := zE_n hM (by first | (have q1 := zhx q1; have q2 := zhx q2; have q4 := zhx q4; have q5 := zhx q5; omega) | (simp only [zhx q1, zhx q2, zhx q4, zhx q5] at h3 h6 h7 h274 h283 h292 h301 h310 h319 h328 h337 ⊢ <;> omega))
                        replace hM := zE_n hM (by first | (have q1 := zhx q1; have q2 := zhx q2; have q4 := zhx q4; have q5 := zhx q5; omega) | (simp only [zhx q1, zhx q2, zhx q4, zhx q5] at h3 h6 h7 h274 h283 h292 h301 h310 h319 h328 h337 ⊢ <;> omega))
                        replace hM := zE_n hM (by first | (have q1 := zhx q1; have q2 := zhx q2; have q4 := zhx q4; have q5 := zhx q5; omega) | (simp only [zhx q1, zhx q2, zhx q4, zhx q5] at h3 h6 h7 h274 h283 h292 h301 h310 h319 h328 h337 ⊢ <;> omega))
                        replace hM := zE_n hM (by first | (have q1 := zhx q1; have q2 := zhx q2; have q4 := zhx q4; have q5 := zhx q5; omega) | (simp only [zhx q1, zhx q2, zhx q4, zhx q5] at h3 h6 h7 h274 h283 h292 h301 h310 h319 h328 h337 ⊢ <;> omega))
                        obtain ⟨Ym338, hYm338, hM⟩ := zl_x hM
                        have hR339 : zRx [] 0 Z Ym338 := zRx_o hRb hYm338 rfl
                        have hV340 : zV Ym338 := zV_o hV hYm338 rfl
                        have hG341 := yFr_o hG hYm338 rfl (.inr rfl) rfl
                        obtain ⟨Ym342, hYm342, hM⟩ := zl_x hM
                        have hR343 : zRx [] 0 Z Ym342 := zRx_o hR339 hYm342 rfl
                        have hV344 : zV Ym342 := zV_o hV340 hYm342 rfl
                        have hG345 := yFr_o hG341 hYm342 rfl (.inr rfl) rfl
                        have th9 := (zu_at hYm342)
                        obtain rfl : C = _ := hC
                        obtain rfl : M = _ := hM
                        exact ⟨zRx_1 hR343, hV344, ⟨Z, _, .inl ⟨rfl, yFr_w hG345 (by decide)⟩, zFc_r, yFr_r⟩, zThr_e th9 (by decide)⟩
                      · replace hM := zE_n hM (by first | (have q1 := zhx q1; have q2 := zhx q2; have q4 := zhx q4; have q5 := zhx q5; omega) | (simp only [zhx q1, zhx q2, zhx q4, zhx q5] at h3 h6 h7 h274 h283 h292 h301 h310 h319 h328 h337 ⊢ <;> omega))
                        replace hM := zE_n hM (by first | (have q1 := zhx q1; have q2 := zhx q2; have q4 := zhx q4; have q5 := zhx q5; omega) | (simp only [zhx q1, zhx q2, zhx q4, zhx q5] at h3 h6 h7 h274 h283 h292 h301 h310 h319 h328 h337 ⊢ <;> omega))
                        replace hM := zE_n hM (by first | (have q1 := zhx q1; have q2 := zhx q2; have q4 := zhx q4; have q5 := zhx q5; omega) | (simp only [zhx q1, zhx q2, zhx q4, zhx q5] at h3 h6 h7 h274 h283 h292 h301 h310 h319 h328 h337 ⊢ <;> omega))
                        replace hM := zE_n hM (by first | (have q1 := zhx q1; have q2 := zhx q2; have q4 := zhx q4; have q5 := zhx q5; omega) | (simp only [zhx q1, zhx q2, zhx q4, zhx q5] at h3 h6 h7 h274 h283 h292 h301 h310 h319 h328 h337 ⊢ <;> omega))
                        obtain ⟨Ym346, hYm346, hM⟩ := zl_x hM
                        have hR347 : zRx [] 0 Z Ym346 := zRx_o hRb hYm346 rfl
                        have hV348 : zV Ym346 := zV_o hV hYm346 rfl
                        have hG349 := yFr_o hG hYm346 rfl (.inr rfl) rfl
                        obtain ⟨Ym350, hYm350, hM⟩ := zl_x hM
                        have hR351 : zRx [] 0 Z Ym350 := zRx_o hR347 hYm350 rfl
                        have hV352 : zV Ym350 := zV_o hV348 hYm350 rfl
                        have hG353 := yFr_o hG349 hYm350 rfl (.inr rfl) rfl
                        have q354 := zhd (zVr_11_5 (a := 1401) hV (by omega))
                        have q355 := zhd (((zu_ne (k' := 2) (b' := 0) (i' := 0) (j' := 1401) hYm350 (fun q => absurd q.1 (by decide))).trans (zu_ne (k' := 2) (b' := 0) (i' := 0) (j' := 1401) hYm346 (fun q => absurd q.1 (by decide)))))
                        rcases zE_c hM with ⟨h356, hM⟩ | ⟨h356, hM⟩
                        · obtain ⟨Ym357, hYm357, hM⟩ := zl_x hM
                          have hR358 : zRx [] 0 Z Ym357 := zRx_o hR351 hYm357 rfl
                          have hV359 : zV Ym357 := zV_o hV352 hYm357 rfl
                          have hG360 := yFr_o hG353 hYm357 rfl (.inr rfl) rfl
                          exact False.elim (by have q1 := zhx q1; have q2 := zhx q2; have q4 := zhx q4; have q5 := zhx q5; have q354 := zhx q354; have q355 := zhx q355; first | omega | grind)
                        · obtain ⟨Ym361, hYm361, hM⟩ := zl_x hM
                          have hR362 : zRx [] 0 Z Ym361 := zRx_o hR351 hYm361 rfl
                          have hV363 : zV Ym361 := zV_o hV352 hYm361 rfl
                          have hG364 := yFr_o hG353 hYm361 rfl (.inr rfl) rfl
                          exact False.elim (by have q1 := zhx q1; have q2 := zhx q2; have q4 := zhx q4; have q5 := zhx q5; have q354 := zhx q354; have q355 := zhx q355; first | omega | grind)
    · rcases zE_c hM with ⟨h365, hM⟩ | ⟨h365, hM⟩
      · replace hM := zE_n hM (by first | (have q1 := zhx q1; have q2 := zhx q2; have q4 := zhx q4; have q5 := zhx q5; omega) | (simp only [zhx q1, zhx q2, zhx q4, zhx q5] at h3 h6 h365 ⊢ <;> omega))
        replace hM := zE_n hM (by first | (have q1 := zhx q1; have q2 := zhx q2; have q4 := zhx q4; have q5 := zhx q5; omega) | (simp only [zhx q1, zhx q2, zhx q4, zhx q5] at h3 h6 h365 ⊢ <;> omega))
        rcases zE_c hM with ⟨h366, hM⟩ | ⟨h366, hM⟩
        · obtain ⟨Ym367, hYm367, hM⟩ := zl_x hM
          have hR368 : zRx [] 0 Z Ym367 := zRx_o hRb hYm367 rfl
          have hV369 : zV Ym367 := zV_o hV hYm367 rfl
          have hG370 := yFr_o hG hYm367 rfl (.inr rfl) rfl
          have th9 := (zu_at hYm367)
          obtain rfl : C = _ := hC
          obtain rfl : M = _ := hM
          exact ⟨zRx_1 hR368, hV369, ⟨Z, _, .inl ⟨rfl, yFr_w hG370 (by decide)⟩, zFc_r, yFr_r⟩, zThr_e th9 (by decide)⟩
        · rcases zE_c hM with ⟨h371, hM⟩ | ⟨h371, hM⟩
          · obtain ⟨Ym372, hYm372, hM⟩ := zl_x hM
            have hR373 : zRx [] 0 Z Ym372 := zRx_o hRb hYm372 rfl
            have hV374 : zV Ym372 := zV_o hV hYm372 rfl
            have hG375 := yFr_o hG hYm372 rfl (.inr rfl) rfl
            have th9 := (zu_at hYm372)
            obtain rfl : C = _ := hC
            obtain rfl : M = _ := hM
            exact ⟨zRx_1 hR373, hV374, ⟨Z, _, .inl ⟨rfl, yFr_w hG375 (by decide)⟩, zFc_r, yFr_r⟩, zThr_e th9 (by decide)⟩
          · obtain ⟨Ym376, hYm376, hM⟩ := zl_x hM
            have hR377 : zRx [] 0 Z Ym376 := zRx_o hRb hYm376 rfl
            have hV378 : zV Ym376 := zV_o hV hYm376 rfl
            have hG379 := yFr_o hG hYm376 rfl (.inr rfl) rfl
            obtain ⟨Ym380, hYm380, hM⟩ := zl_x hM
            have hR381 : zRx [] 0 Z Ym380 := zRx_o hR377 hYm380 rfl
            have hV382 : zV Ym380 := zV_o hV378 hYm380 rfl
            have hG383 := yFr_o hG379 hYm380 rfl (.inr rfl) rfl
            exact False.elim (by have q1 := zhx q1; have q2 := zhx q2; have q4 := zhx q4; have q5 := zhx q5; first | omega | grind)
      · rcases zE_c hM with ⟨h384, hM⟩ | ⟨h384, hM⟩
        · replace hM := zE_n hM (by first | (have q1 := zhx q1; have q2 := zhx q2; have q4 := zhx q4; have q5 := zhx q5; omega) | (simp only [zhx q1, zhx q2, zhx q4, zhx q5] at h3 h6 h365 h384 ⊢ <;> omega))
          replace hM := zE_n hM (by first | (have q1 := zhx q1; have q2 := zhx q2; have q4 := zhx q4; have q5 := zhx q5; omega) | (simp only [zhx q1, zhx q2, zhx q4, zhx q5] at h3 h6 h365 h384 ⊢ <;> omega))
          rcases zE_c hM with ⟨h385, hM⟩ | ⟨h385, hM⟩
          · obtain ⟨Ym386, hYm386, hM⟩ := zl_x hM
            have hR387 : zRx [] 0 Z Ym386 := zRx_o hRb hYm386 rfl
            have hV388 : zV Ym386 := zV_o hV hYm386 rfl
            have hG389 := yFr_o hG hYm386 rfl (.inr rfl) rfl
            have th9 := (zu_at hYm386)
            obtain rfl : C = _ := hC
            obtain rfl : M = _ := hM
            exact ⟨zRx_1 hR387, hV388, ⟨Z, _, .inl ⟨rfl, yFr_w hG389 (by decide)⟩, zFc_r, yFr_r⟩, zThr_e th9 (by decide)⟩
          · rcases zE_c hM with ⟨h390, hM⟩ | ⟨h390, hM⟩
            · obtain ⟨Ym391, hYm391, hM⟩ := zl_x hM
              have hR392 : zRx [] 0 Z Ym391 := zRx_o hRb hYm391 rfl
              have hV393 : zV Ym391 := zV_o hV hYm391 rfl
              have hG394 := yFr_o hG hYm391 rfl (.inr rfl) rfl
              have th9 := (zu_at hYm391)
              obtain rfl : C = _ := hC
              obtain rfl : M = _ := hM
              exact ⟨zRx_1 hR392, hV393, ⟨Z, _, .inl ⟨rfl, yFr_w hG394 (by decide)⟩, zFc_r, yFr_r⟩, zThr_e th9 (by decide)⟩
            · obtain ⟨Ym395, hYm395, hM⟩ := zl_x hM
              have hR396 : zRx [] 0 Z Ym395 := zRx_o hRb hYm395 rfl
              have hV397 : zV Ym395 := zV_o hV hYm395 rfl
              have hG398 := yFr_o hG hYm395 rfl (.inr rfl) rfl
              obtain ⟨Ym399, hYm399, hM⟩ := zl_x hM
              have hR400 : zRx [] 0 Z Ym399 := zRx_o hR396 hYm399 rfl
              have hV401 : zV Ym399 := zV_o hV397 hYm399 rfl
              have hG402 := yFr_o hG398 hYm399 rfl (.inr rfl) rfl
              exact False.elim (by have q1 := zhx q1; have q2 := zhx q2; have q4 := zhx q4; have q5 := zhx q5; first | omega | grind)
        · rcases zE_c hM with ⟨h403, hM⟩ | ⟨h403, hM⟩
          · replace hM := zE_n hM (by first | (have q1 := zhx q1; have q2 := zhx q2; have q4 := zhx q4; have q5 := zhx q5; omega) | (simp only [zhx q1, zhx q2, zhx q4, zhx q5] at h3 h6 h365 h384 h403 ⊢ <;> omega))
            replace hM := zE_n hM (by first | (have q1 := zhx q1; have q2 := zhx q2; have q4 := zhx q4; have q5 := zhx q5; omega) | (simp only [zhx q1, zhx q2, zhx q4, zhx q5] at h3 h6 h365 h384 h403 ⊢ <;> omega))
            rcases zE_c hM with ⟨h404, hM⟩ | ⟨h404, hM⟩
            · obtain ⟨Ym405, hYm405, hM⟩ := zl_x hM
              have hR406 : zRx [] 0 Z Ym405 := zRx_o hRb hYm405 rfl
              have hV407 : zV Ym405 := zV_o hV hYm405 rfl
              have hG408 := yFr_o hG hYm405 rfl (.inr rfl) rfl
              have th9 := (zu_at hYm405)
              obtain rfl : C = _ := hC
              obtain rfl : M = _ := hM
              exact ⟨zRx_1 hR406, hV407, ⟨Z, _, .inl ⟨rfl, yFr_w hG408 (by decide)⟩, zFc_r, yFr_r⟩, zThr_e th9 (by decide)⟩
            · rcases zE_c hM with ⟨h409, hM⟩ | ⟨h409, hM⟩
              · obtain ⟨Ym410, hYm410, hM⟩ := zl_x hM
                have hR411 : zRx [] 0 Z Ym410 := zRx_o hRb hYm410 rfl
                have hV412 : zV Ym410 := zV_o hV hYm410 rfl
                have hG413 := yFr_o hG hYm410 rfl (.inr rfl) rfl
                have th9 := (zu_at hYm410)
                obtain rfl : C = _ := hC
                obtain rfl : M = _ := hM
                exact ⟨zRx_1 hR411, hV412, ⟨Z, _, .inl ⟨rfl, yFr_w hG413 (by decide)⟩, zFc_r, yFr_r⟩, zThr_e th9 (by decide)⟩
              · obtain ⟨Ym414, hYm414, hM⟩ := zl_x hM
                have hR415 : zRx [] 0 Z Ym414 := zRx_o hRb hYm414 rfl
                have hV416 : zV Ym414 := zV_o hV hYm414 rfl
                have hG417 := yFr_o hG hYm414 rfl (.inr rfl) rfl
                obtain ⟨Ym418, hYm418, hM⟩ := zl_x hM
                have hR419 : zRx [] 0 Z Ym418 := zRx_o hR415 hYm418 rfl
                have hV420 : zV Ym418 := zV_o hV416 hYm418 rfl
                have hG421 := yFr_o hG417 hYm418 rfl (.inr rfl) rfl
                exact False.elim (by have q1 := zhx q1; have q2 := zhx q2; have q4 := zhx q4; have q5 := zhx q5; first | omega | grind)
          · rcases zE_c hM with ⟨h422, hM⟩ | ⟨h422, hM⟩
            · replace hM := zE_n hM (by first | (have q1 := zhx q1; have q2 := zhx q2; have q4 := zhx q4; have q5 := zhx q5; omega) | (simp only [zhx q1, zhx q2, zhx q4, zhx q5] at h3 h6 h365 h384 h403 h422 ⊢ <;> omega))
              replace hM := zE_n hM (by first | (have q1 := zhx q1; have q2 := zhx q2; have q4 := zhx q4; have q5 := zhx q5; omega) | (simp only [zhx q1, zhx q2, zhx q4, zhx q5] at h3 h6 h365 h384 h403 h422 ⊢ <;> omega))
              rcases zE_c hM with ⟨h423, hM⟩ | ⟨h423, hM⟩
              · obtain ⟨Ym424, hYm424, hM⟩ := zl_x hM
                have hR425 : zRx [] 0 Z Ym424 := zRx_o hRb hYm424 rfl
                have hV426 : zV Ym424 := zV_o hV hYm424 rfl
                have hG427 := yFr_o hG hYm424 rfl (.inr rfl) rfl
                have th9 := (zu_at hYm424)
                obtain rfl : C = _ := hC
                obtain rfl : M = _ := hM
                exact ⟨zRx_1 hR425, hV426, ⟨Z, _, .inl ⟨rfl, yFr_w hG427 (by decide)⟩, zFc_r, yFr_r⟩, zThr_e th9 (by decide)⟩
              · rcases zE_c hM with ⟨h428, hM⟩ | ⟨h428, hM⟩
                · obtain ⟨Ym429, hYm429, hM⟩ := zl_x hM
                  have hR430 : zRx [] 0 Z Ym429 := zRx_o hRb hYm429 rfl
                  have hV431 : zV Ym429 := zV_o hV hYm429 rfl
                  have hG432 := yFr_o hG hYm429 rfl (.inr rfl) rfl
                  have th9 := (zu_at hYm429)
                  obtain rfl : C = _ := hC
                  obtain rfl : M = _ := hM
                  exact ⟨zRx_1 hR430, hV431, ⟨Z, _, .inl ⟨rfl, yFr_w hG432 (by decide)⟩, zFc_r, yFr_r⟩, zThr_e th9 (by decide)⟩
                · obtain ⟨Ym433, hYm433, hM⟩ := zl_x hM
                  have hR434 : zRx [] 0 Z Ym433 := zRx_o hRb hYm433 rfl
                  have hV435 : zV Ym433 := zV_o hV hYm433 rfl
                  have hG436 := yFr_o hG hYm433 rfl (.inr rfl) rfl
                  obtain ⟨Ym437, hYm437, hM⟩ := zl_x hM
                  have hR438 : zRx [] 0 Z Ym437 := zRx_o hR434 hYm437 rfl
                  have hV439 : zV Ym437 := zV_o hV435 hYm437 rfl
                  have hG440 := yFr_o hG436 hYm437 rfl (.inr rfl) rfl
                  exact False.elim (by have q1 := zhx q1; have q2 := zhx q2; have q4 := zhx q4; have q5 := zhx q5; first | omega | grind)
            · rcases zE_c hM with ⟨h441, hM⟩ | ⟨h441, hM⟩
              · replace hM := zE_n hM (by first | (have q1 := zhx q1; have q2 := zhx q2; have q4 := zhx q4; have q5 := zhx q5; omega) | (simp only [zhx q1, zhx q2, zhx q4, zhx q5] at h3 h6 h365 h384 h403 h422 h441 ⊢ <;> omega))
                replace hM := zE_n hM (by first | (have q1 := zhx q1; have q2 := zhx q2; have q4 := zhx q4; have q5 := zhx q5; omega) | (simp only [zhx q1, zhx q2, zhx q4, zhx q5] at h3 h6 h365 h384 h403 h422 h441 ⊢ <;> omega))
                rcases zE_c hM with ⟨h442, hM⟩ | ⟨h442, hM⟩
                · obtain ⟨Ym443, hYm443, hM⟩ := zl_x hM
                  have hR444 : zRx [] 0 Z Ym443 := zRx_o hRb hYm443 rfl
                  have hV445 : zV Ym443 := zV_o hV hYm443 rfl
                  have hG446 := yFr_o hG hYm443 rfl (.inr rfl) rfl
                  have th9 := (zu_at hYm443)
                  obtain rfl : C = _ := hC
                  obtain rfl : M = _ := hM
                  exact ⟨zRx_1 hR444, hV445, ⟨Z, _, .inl ⟨rfl, yFr_w hG446 (by decide)⟩, zFc_r, yFr_r⟩, zThr_e th9 (by decide)⟩
                · rcases zE_c hM with ⟨h447, hM⟩ | ⟨h447, hM⟩
                  · obtain ⟨Ym448, hYm448, hM⟩ := zl_x hM
                    have hR449 : zRx [] 0 Z Ym448 := zRx_o hRb hYm448 rfl
                    have hV450 : zV Ym448 := zV_o hV hYm448 rfl
                    have hG451 := yFr_o hG hYm448 rfl (.inr rfl) rfl
                    have th9 := (zu_at hYm448)
                    obtain rfl : C = _ := hC
                    obtain rfl : M = _ := hM
                    exact ⟨zRx_1 hR449, hV450, ⟨Z, _, .inl ⟨rfl, yFr_w hG451 (by decide)⟩, zFc_r, yFr_r⟩, zThr_e th9 (by decide)⟩
                  · obtain ⟨Ym452, hYm452, hM⟩ := zl_x hM
                    have hR453 : zRx [] 0 Z Ym452 := zRx_o hRb hYm452 rfl
                    have hV454 : zV Ym452 := zV_o hV hYm452 rfl
                    have hG455 := yFr_o hG hYm452 rfl (.inr rfl) rfl
                    obtain ⟨Ym456, hYm456, hM⟩ := zl_x hM
                    have hR457 : zRx [] 0 Z Ym456 := zRx_o hR453 hYm456 rfl
                    have hV458 : zV Ym456 := zV_o hV454 hYm456 rfl
                    have hG459 := yFr_o hG455 hYm456 rfl (.inr rfl) rfl
                    exact False.elim (by have q1 := zhx q1; have q2 := zhx q2; have q4 := zhx q4; have q5 := zhx q5; first | omega | grind)
              · rcases zE_c hM with ⟨h460, hM⟩ | ⟨h460, hM⟩
                · replace hM := zE_n hM (by first | (have q1 := zhx q1; have q2 := zhx q2; have q4 := zhx q4; have q5 := zhx q5; omega) | (simp only [zhx q1, zhx q2, zhx q4, zhx q5] at h3 h6 h365 h384 h403 h422 h441 h460 ⊢ <;> omega))
                  replace hM := zE_n hM (by first | (have q1 := zhx q1; have q2 := zhx q2; have q4 := zhx q4; have q5 := zhx q5; omega) | (simp only [zhx q1, zhx q2, zhx q4, zhx q5] at h3 h6 h365 h384 h403 h422 h441 h460 ⊢ <;> omega))
                  rcases zE_c hM with ⟨h461, hM⟩ | ⟨h461, hM⟩
                  · obtain ⟨Ym462, hYm462, hM⟩ := zl_x hM
                    have hR463 : zRx [] 0 Z Ym462 := zRx_o hRb hYm462 rfl
                    have hV464 : zV Ym462 := zV_o hV hYm462 rfl
                    have hG465 := yFr_o hG hYm462 rfl (.inr rfl) rfl
                    have th9 := (zu_at hYm462)
                    obtain rfl : C = _ := hC
                    obtain rfl : M = _ := hM
                    exact ⟨zRx_1 hR463, hV464, ⟨Z, _, .inl ⟨rfl, yFr_w hG465 (by decide)⟩, zFc_r, yFr_r⟩, zThr_e th9 (by decide)⟩
                  · rcases zE_c hM with ⟨h466, hM⟩ | ⟨h466, hM⟩
                    · obtain ⟨Ym467, hYm467, hM⟩ := zl_x hM
                      have hR468 : zRx [] 0 Z Ym467 := zRx_o hRb hYm467 rfl
                      have hV469 : zV Ym467 := zV_o hV hYm467 rfl
                      have hG470 := yFr_o hG hYm467 rfl (.inr rfl) rfl
                      have th9 := (zu_at hYm467)
                      obtain rfl : C = _ := hC
                      obtain rfl : M = _ := hM
                      exact ⟨zRx_1 hR468, hV469, ⟨Z, _, .inl ⟨rfl, yFr_w hG470 (by decide)⟩, zFc_r, yFr_r⟩, zThr_e th9 (by decide)⟩
                    · obtain ⟨Ym471, hYm471, hM⟩ := zl_x hM
                      have hR472 : zRx [] 0 Z Ym471 := zRx_o hRb hYm471 rfl
                      have hV473 : zV Ym471 := zV_o hV hYm471 rfl
                      have hG474 := yFr_o hG hYm471 rfl (.inr rfl) rfl
                      obtain ⟨Ym475, hYm475, hM⟩ := zl_x hM
                      have hR476 : zRx [] 0 Z Ym475 := zRx_o hR472 hYm475 rfl
                      have hV477 : zV Ym475 := zV_o hV473 hYm475 rfl
                      have hG478 := yFr_o hG474 hYm475 rfl (.inr rfl) rfl
                      exact False.elim (by have q1 := zhx q1; have q2 := zhx q2; have q4 := zhx q4; have q5 := zhx q5; first | omega | grind)
                · rcases zE_c hM with ⟨h479, hM⟩ | ⟨h479, hM⟩
                  · replace hM := zE_n hM (by first | (have q1 := zhx q1; have q2 := zhx q2; have q4 := zhx q4; have q5 := zhx q5; omega) | (simp only [zhx q1, zhx q2, zhx q4, zhx q5] at h3 h6 h365 h384 h403 h422 h441 h460 h479 ⊢ <;> omega))
                    replace hM := zE_n hM (by first | (have q1 := zhx q1; have q2 := zhx q2; have q4 := zhx q4; have q5 := zhx q5; omega) | (simp only [zhx q1, zhx q2, zhx q4, zhx q5] at h3 h6 h365 h384 h403 h422 h441 h460 h479 ⊢ <;> omega))
                    rcases zE_c hM with ⟨h480, hM⟩ | ⟨h480, hM⟩
                    · obtain ⟨Ym481, hYm481, hM⟩ := zl_x hM
                      have hR482 : zRx [] 0 Z Ym481 := zRx_o hRb hYm481 rfl
                      have hV483 : zV Ym481 := zV_o hV hYm481 rfl
                      have hG484 := yFr_o hG hYm481 rfl (.inr rfl) rfl
                      have th9 := (zu_at hYm481)
                      obtain rfl : C = _ := hC
                      obtain rfl : M = _ := hM
                      exact ⟨zRx_1 hR482, hV483, ⟨Z, _, .inl ⟨rfl, yFr_w hG484 (by decide)⟩, zFc_r, yFr_r⟩, zThr_e th9 (by decide)⟩
                    · rcases zE_c hM with ⟨h485, hM⟩ | ⟨h485, hM⟩
                      · obtain ⟨Ym486, hYm486, hM⟩ := zl_x hM
                        have hR487 : zRx [] 0 Z Ym486 := zRx_o hRb hYm486 rfl
                        have hV488 : zV Ym486 := zV_o hV hYm486 rfl
                        have hG489 := yFr_o hG hYm486 rfl (.inr rfl) rfl
                        have th9 := (zu_at hYm486)
                        obtain rfl : C = _ := hC
                        obtain rfl : M = _ := hM
                        exact ⟨zRx_1 hR487, hV488, ⟨Z, _, .inl ⟨rfl, yFr_w hG489 (by decide)⟩, zFc_r, yFr_r⟩, zThr_e th9 (by decide)⟩
                      · obtain ⟨Ym490, hYm490, hM⟩ := zl_x hM
                        have hR491 : zRx [] 0 Z Ym490 := zRx_o hRb hYm490 rfl
                        have hV492 : zV Ym490 := zV_o hV hYm490 rfl
                        have hG493 := yFr_o hG hYm490 rfl (.inr rfl) rfl
                        obtain ⟨Ym494, hYm494, hM⟩ := zl_x hM
                        have hR495 : zRx [] 0 Z Ym494 := zRx_o hR491 hYm494 rfl
                        have hV496 : zV Ym494 := zV_o hV492 hYm494 rfl
                        have hG497 := yFr_o hG493 hYm494 rfl (.inr rfl) rfl
                        exact False.elim (by have q1 := zhx q1; have q2 := zhx q2; have q4 := zhx q4; have q5 := zhx q5; first | omega | grind)
                  · rcases zE_c hM with ⟨h498, hM⟩ | ⟨h498, hM⟩
                    · replace hM := zE_n hM (by first | (have q1 := zhx q1; have q2 := zhx q2; have q4 := zhx q4; have q5 := zhx q5; omega) | (simp only [zhx q1, zhx q2, zhx q4, zhx q5] at h3 h6 h365 h384 h403 h422 h441 h460 h479 h498 ⊢ <;> omega))
                      replace hM := zE_n hM (by first | (have q1 := zhx q1; have q2 := zhx q2; have q4 := zhx q4; have q5 := zhx q5; omega) | (simp only [zhx q1, zhx q2, zhx q4, zhx q5] at h3 h6 h365 h384 h403 h422 h441 h460 h479 h498 ⊢ <;> omega))
                      rcases zE_c hM with ⟨h499, hM⟩ | ⟨h499, hM⟩
                      · obtain ⟨Ym500, hYm500, hM⟩ := zl_x hM
                        have hR501 : zRx [] 0 Z Ym500 := zRx_o hRb hYm500 rfl
                        have hV502 : zV Ym500 := zV_o hV hYm500 rfl
                        have hG503 := yFr_o hG hYm500 rfl (.inr rfl) rfl
                        have th9 := (zu_at hYm500)
                        obtain rfl : C = _ := hC
                        obtain rfl : M = _ := hM
                        exact ⟨zRx_1 hR501, hV502, ⟨Z, _, .inl ⟨rfl, yFr_w hG503 (by decide)⟩, zFc_r, yFr_r⟩, zThr_e th9 (by decide)⟩
                      · rcases zE_c hM with ⟨h504, hM⟩ | ⟨h504, hM⟩
                        · obtain ⟨Ym505, hYm505, hM⟩ := zl_x hM
                          have hR506 : zRx [] 0 Z Ym505 := zRx_o hRb hYm505 rfl
                          have hV507 : zV Ym505 := zV_o hV hYm505 rfl
                          have hG508 := yFr_o hG hYm505 rfl (.inr rfl) rfl
                          have th9 := (zu_at hYm505)
                          obtain rfl : C = _ := hC
                          obtain rfl : M = _ := hM
                          exact ⟨zRx_1 hR506, hV507, ⟨Z, _, .inl ⟨rfl, yFr_w hG508 (by decide)⟩, zFc_r, yFr_r⟩, zThr_e th9 (by decide)⟩
                        · obtain ⟨Ym509, hYm509, hM⟩ := zl_x hM
                          have hR510 : zRx [] 0 Z Ym509 := zRx_o hRb hYm509 rfl
                          have hV511 : zV Ym509 := zV_o hV hYm509 rfl
                          have hG512 := yFr_o hG hYm509 rfl (.inr rfl) rfl
                          obtain ⟨Ym513, hYm513, hM⟩ := zl_x hM
                          have hR514 : zRx [] 0 Z Ym513 := zRx_o hR510 hYm513 rfl
                          have hV515 : zV Ym513 := zV_o hV511 hYm513 rfl
                          have hG516 := yFr_o hG512 hYm513 rfl (.inr rfl) rfl
                          exact False.elim (by have q1 := zhx q1; have q2 := zhx q2; have q4 := zhx q4; have q5 := zhx q5; first | omega | grind)
                    · replace hM := zE_n hM (by first | (have q1 := zhx q1; have q2 := zhx q2; have q4 := zhx q4; have q5 := zhx q5; omega) | (simp only [zhx q1, zhx q2, zhx q4, zhx q5] at h3 h6 h365 h384 h403 h422 h441 h460 h479 h498 ⊢ <;> omega))
                      replace hM := zE_n hM (by first | (have q1 := zhx q1; have q2 := zhx q2; have q4 := zhx q4; have q5 := zhx q5; omega) | (simp only [zhx q1, zhx q2, zhx q4, zhx q5] at h3 h6 h365 h384 h403 h422 h441 h460 h479 h498 ⊢ <;> omega))
                      rcases zE_c hM with ⟨h517, hM⟩ | ⟨h517, hM⟩
                      · obtain ⟨Ym518, hYm518, hM⟩ := zl_x hM
                        have hR519 : zRx [] 0 Z Ym518 := zRx_o hRb hYm518 rfl
                        have hV520 : zV Ym518 := zV_o hV hYm518 rfl
                        have hG521 := yFr_o hG hYm518 rfl (.inr rfl) rfl
                        have th9 := (zu_at hYm518)
                        obtain rfl : C = _ := hC
                        obtain rfl : M = _ := hM
                        exact ⟨zRx_1 hR519, hV520, ⟨Z, _, .inl ⟨rfl, yFr_w hG521 (by decide)⟩, zFc_r, yFr_r⟩, zThr_e th9 (by decide)⟩
                      · rcases zE_c hM with ⟨h522, hM⟩ | ⟨h522, hM⟩
                        · obtain ⟨Ym523, hYm523, hM⟩ := zl_x hM
                          have hR524 : zRx [] 0 Z Ym523 := zRx_o hRb hYm523 rfl
                          have hV525 : zV Ym523 := zV_o hV hYm523 rfl
                          have hG526 := yFr_o hG hYm523 rfl (.inr rfl) rfl
                          have th9 := (zu_at hYm523)
                          obtain rfl : C = _ := hC
                          obtain rfl : M = _ := hM
                          exact ⟨zRx_1 hR524, hV525, ⟨Z, _, .inl ⟨rfl, yFr_w hG526 (by decide)⟩, zFc_r, yFr_r⟩, zThr_e th9 (by decide)⟩
                        · obtain ⟨Ym527, hYm527, hM⟩ := zl_x hM
                          have hR528 : zRx [] 0 Z Ym527 := zRx_o hRb hYm527 rfl
                          have hV529 : zV Ym527 := zV_o hV hYm527 rfl
                          have hG530 := yFr_o hG hYm527 rfl (.inr rfl) rfl
                          obtain ⟨Ym531, hYm531, hM⟩ := zl_x hM
                          have hR532 : zRx [] 0 Z Ym531 := zRx_o hR528 hYm531 rfl
                          have hV533 : zV Ym531 := zV_o hV529 hYm531 rfl
                          have hG534 := yFr_o hG530 hYm531 rfl (.inr rfl) rfl
                          have q535 := zhd (zVr_11_5 (a := 1401) hV (by omega))
                          have q536 := zhd (((zu_ne (k' := 2) (b' := 0) (i' := 0) (j' := 1401) hYm531 (fun q => absurd q.1 (by decide))).trans (zu_ne (k' := 2) (b' := 0) (i' := 0) (j' := 1401) hYm527 (fun q => absurd q.1 (by decide)))))
                          rcases zE_c hM with ⟨h537, hM⟩ | ⟨h537, hM⟩
                          · obtain ⟨Ym538, hYm538, hM⟩ := zl_x hM
                            have hR539 : zRx [] 0 Z Ym538 := zRx_o hR532 hYm538 rfl
                            have hV540 : zV Ym538 := zV_o hV533 hYm538 rfl
                            have hG541 := yFr_o hG534 hYm538 rfl (.inr rfl) rfl
                            exact False.elim (by have q1 := zhx q1; have q2 := zhx q2; have q4 := zhx q4; have q5 := zhx q5; have q535 := zhx q535; have q536 := zhx q536; first | omega | grind)
                          · obtain ⟨Ym542, hYm542, hM⟩ := zl_x hM
                            have hR543 : zRx [] 0 Z Ym542 := zRx_o hR532 hYm542 rfl
                            have hV544 : zV Ym542 := zV_o hV533 hYm542 rfl
                            have hG545 := yFr_o hG534 hYm542 rfl (.inr rfl) rfl
                            exact False.elim (by have q1 := zhx q1; have q2 := zhx q2; have q4 := zhx q4; have q5 := zhx q5; have q535 := zhx q535; have q536 := zhx q536; first | omega | grind)
  · rcases zE_c hM with ⟨h546, hM⟩ | ⟨h546, hM⟩
    · rcases zE_c hM with ⟨h547, hM⟩ | ⟨h547, hM⟩
      · obtain ⟨Ym548, hYm548, hM⟩ := zl_x hM
        have hR549 : zRx [] 0 Z Ym548 := zRx_o hRb hYm548 rfl
        have hV550 : zV Ym548 := zV_o hV hYm548 rfl
        have hG551 := yFr_o hG hYm548 rfl (.inr rfl) rfl
        have th9 := (zu_at hYm548)
        obtain rfl : C = _ := hC
        obtain rfl : M = _ := hM
        exact ⟨zRx_1 hR549, hV550, ⟨Z, _, .inl ⟨rfl, yFr_w hG551 (by decide)⟩, zFc_r, yFr_r⟩, zThr_e th9 (by decide)⟩
      · rcases zE_c hM with ⟨h552, hM⟩ | ⟨h552, hM⟩
        · obtain ⟨Ym553, hYm553, hM⟩ := zl_x hM
          have hR554 : zRx [] 0 Z Ym553 := zRx_o hRb hYm553 rfl
          have hV555 : zV Ym553 := zV_o hV hYm553 rfl
          have hG556 := yFr_o hG hYm553 rfl (.inr rfl) rfl
          have th9 := (zu_at hYm553)
          obtain rfl : C = _ := hC
          obtain rfl : M = _ := hM
          exact ⟨zRx_1 hR554, hV555, ⟨Z, _, .inl ⟨rfl, yFr_w hG556 (by decide)⟩, zFc_r, yFr_r⟩, zThr_e th9 (by decide)⟩
        · rcases zE_c hM with ⟨h557, hM⟩ | ⟨h557, hM⟩
          · obtain ⟨Ym558, hYm558, hM⟩ := zl_x hM
            have hR559 : zRx [] 0 Z Ym558 := zRx_o hRb hYm558 rfl
            have hV560 : zV Ym558 := zV_o hV hYm558 rfl
            have hG561 := yFr_o hG hYm558 rfl (.inr rfl) rfl
            have th9 := (zu_at hYm558)
            obtain rfl : C = _ := hC
            obtain rfl : M = _ := hM
            exact ⟨zRx_1 hR559, hV560, ⟨Z, _, .inl ⟨rfl, yFr_w hG561 (by decide)⟩, zFc_r, yFr_r⟩, zThr_e th9 (by decide)⟩
          · have q562 := zhd (zVr_11_0 (a := 100) hV (by omega))
            rcases zE_c hM with ⟨h563, hM⟩ | ⟨h563, hM⟩
            · obtain ⟨Ym564, hYm564, hM⟩ := zl_x hM
              have hR565 : zRx [] 0 Z Ym564 := zRx_o hRb hYm564 rfl
              have hV566 : zV Ym564 := zV_o hV hYm564 rfl
              have hG567 := yFr_o hG hYm564 rfl (.inr rfl) rfl
              have th9 := (zu_at hYm564)
              obtain rfl : C = _ := hC
              obtain rfl : M = _ := hM
              exact ⟨zRx_1 hR565, hV566, ⟨Z, _, .inl ⟨rfl, yFr_w hG567 (by decide)⟩, zFc_r, yFr_r⟩, zThr_e th9 (by decide)⟩
            · obtain ⟨Ym568, hYm568, hM⟩ := zl_x hM
              have hR569 : zRx [] 0 Z Ym568 := zRx_o hRb hYm568 rfl
              have hV570 : zV Ym568 := zV_o hV hYm568 rfl
              have hG571 := yFr_o hG hYm568 rfl (.inr rfl) rfl
              obtain ⟨Ym572, hYm572, hM⟩ := zl_x hM
              have hR573 : zRx [] 0 Z Ym572 := zRx_o hR569 hYm572 rfl
              have hV574 : zV Ym572 := zV_o hV570 hYm572 rfl
              have hG575 := yFr_o hG571 hYm572 rfl (.inr rfl) rfl
              exact False.elim (by have q1 := zhx q1; have q2 := zhx q2; have q562 := zhx q562; first | omega | grind)
    · rcases zE_c hM with ⟨h576, hM⟩ | ⟨h576, hM⟩
      · rcases zE_c hM with ⟨h577, hM⟩ | ⟨h577, hM⟩
        · obtain ⟨Ym578, hYm578, hM⟩ := zl_x hM
          have hR579 : zRx [] 0 Z Ym578 := zRx_o hRb hYm578 rfl
          have hV580 : zV Ym578 := zV_o hV hYm578 rfl
          have hG581 := yFr_o hG hYm578 rfl (.inr rfl) rfl
          have th9 := (zu_at hYm578)
          obtain rfl : C = _ := hC
          obtain rfl : M = _ := hM
          exact ⟨zRx_1 hR579, hV580, ⟨Z, _, .inl ⟨rfl, yFr_w hG581 (by decide)⟩, zFc_r, yFr_r⟩, zThr_e th9 (by decide)⟩
        · rcases zE_c hM with ⟨h582, hM⟩ | ⟨h582, hM⟩
          · obtain ⟨Ym583, hYm583, hM⟩ := zl_x hM
            have hR584 : zRx [] 0 Z Ym583 := zRx_o hRb hYm583 rfl
            have hV585 : zV Ym583 := zV_o hV hYm583 rfl
            have hG586 := yFr_o hG hYm583 rfl (.inr rfl) rfl
            have th9 := (zu_at hYm583)
            obtain rfl : C = _ := hC
            obtain rfl : M = _ := hM
            exact ⟨zRx_1 hR584, hV585, ⟨Z, _, .inl ⟨rfl, yFr_w hG586 (by decide)⟩, zFc_r, yFr_r⟩, zThr_e th9 (by decide)⟩
          · rcases zE_c hM with ⟨h587, hM⟩ | ⟨h587, hM⟩
            · obtain ⟨Ym588, hYm588, hM⟩ := zl_x hM
              have hR589 : zRx [] 0 Z Ym588 := zRx_o hRb hYm588 rfl
              have hV590 : zV Ym588 := zV_o hV hYm588 rfl
              have hG591 := yFr_o hG hYm588 rfl (.inr rfl) rfl
              have th9 := (zu_at hYm588)
              obtain rfl : C = _ := hC
              obtain rfl : M = _ := hM
              exact ⟨zRx_1 hR589, hV590, ⟨Z, _, .inl ⟨rfl, yFr_w hG591 (by decide)⟩, zFc_r, yFr_r⟩, zThr_e th9 (by decide)⟩
            · have q592 := zhd (zVr_11_0 (a := 100) hV (by omega))
              rcases zE_c hM with ⟨h593, hM⟩ | ⟨h593, hM⟩
              · obtain ⟨Ym594, hYm594, hM⟩ := zl_x hM
                have hR595 : zRx [] 0 Z Ym594 := zRx_o hRb hYm594 rfl
                have hV596 : zV Ym594 := zV_o hV hYm594 rfl
                have hG597 := yFr_o hG hYm594 rfl (.inr rfl) rfl
                have th9 := (zu_at hYm594)
                obtain rfl : C = _ := hC
                obtain rfl : M = _ := hM
                exact ⟨zRx_1 hR595, hV596, ⟨Z, _, .inl ⟨rfl, yFr_w hG597 (by decide)⟩, zFc_r, yFr_r⟩, zThr_e th9 (by decide)⟩
              · obtain ⟨Ym598, hYm598, hM⟩ := zl_x hM
                have hR599 : zRx [] 0 Z Ym598 := zRx_o hRb hYm598 rfl
                have hV600 : zV Ym598 := zV_o hV hYm598 rfl
                have hG601 := yFr_o hG hYm598 rfl (.inr rfl) rfl
                obtain ⟨Ym602, hYm602, hM⟩ := zl_x hM
                have hR603 : zRx [] 0 Z Ym602 := zRx_o hR599 hYm602 rfl
                have hV604 : zV Ym602 := zV_o hV600 hYm602 rfl
                have hG605 := yFr_o hG601 hYm602 rfl (.inr rfl) rfl
                exact False.elim (by have q1 := zhx q1; have q2 := zhx q2; have q592 := zhx q592; first | omega | grind)
      · rcases zE_c hM with ⟨h606, hM⟩ | ⟨h606, hM⟩
        · rcases zE_c hM with ⟨h607, hM⟩ | ⟨h607, hM⟩
          · obtain ⟨Ym608, hYm608, hM⟩ := zl_x hM
            have hR609 : zRx [] 0 Z Ym608 := zRx_o hRb hYm608 rfl
            have hV610 : zV Ym608 := zV_o hV hYm608 rfl
            have hG611 := yFr_o hG hYm608 rfl (.inr rfl) rfl
            have th9 := (zu_at hYm608)
            obtain rfl : C = _ := hC
            obtain rfl : M = _ := hM
            exact ⟨zRx_1 hR609, hV610, ⟨Z, _, .inl ⟨rfl, yFr_w hG611 (by decide)⟩, zFc_r, yFr_r⟩, zThr_e th9 (by decide)⟩
          · rcases zE_c hM with ⟨h612, hM⟩ | ⟨h612, hM⟩
            · obtain ⟨Ym613, hYm613, hM⟩ := zl_x hM
              have hR614 : zRx [] 0 Z Ym613 := zRx_o hRb hYm613 rfl
              have hV615 : zV Ym613 := zV_o hV hYm613 rfl
              have hG616 := yFr_o hG hYm613 rfl (.inr rfl) rfl
              have th9 := (zu_at hYm613)
              obtain rfl : C = _ := hC
              obtain rfl : M = _ := hM
              exact ⟨zRx_1 hR614, hV615, ⟨Z, _, .inl ⟨rfl, yFr_w hG616 (by decide)⟩, zFc_r, yFr_r⟩, zThr_e th9 (by decide)⟩
            · rcases zE_c hM with ⟨h617, hM⟩ | ⟨h617, hM⟩
              · obtain ⟨Ym618, hYm618, hM⟩ := zl_x hM
                have hR619 : zRx [] 0 Z Ym618 := zRx_o hRb hYm618 rfl
                have hV620 : zV Ym618 := zV_o hV hYm618 rfl
                have hG621 := yFr_o hG hYm618 rfl (.inr rfl) rfl
                have th9 := (zu_at hYm618)
                obtain rfl : C = _ := hC
                obtain rfl : M = _ := hM
                exact ⟨zRx_1 hR619, hV620, ⟨Z, _, .inl ⟨rfl, yFr_w hG621 (by decide)⟩, zFc_r, yFr_r⟩, zThr_e th9 (by decide)⟩
              · have q622 := zhd (zVr_11_0 (a := 100) hV (by omega))
                rcases zE_c hM with ⟨h623, hM⟩ | ⟨h623, hM⟩
                · obtain ⟨Ym624, hYm624, hM⟩ := zl_x hM
                  have hR625 : zRx [] 0 Z Ym624 := zRx_o hRb hYm624 rfl
                  have hV626 : zV Ym624 := zV_o hV hYm624 rfl
                  have hG627 := yFr_o hG hYm624 rfl (.inr rfl) rfl
                  have th9 := (zu_at hYm624)
                  obtain rfl : C = _ := hC
                  obtain rfl : M = _ := hM
                  exact ⟨zRx_1 hR625, hV626, ⟨Z, _, .inl ⟨rfl, yFr_w hG627 (by decide)⟩, zFc_r, yFr_r⟩, zThr_e th9 (by decide)⟩
                · obtain ⟨Ym628, hYm628, hM⟩ := zl_x hM
                  have hR629 : zRx [] 0 Z Ym628 := zRx_o hRb hYm628 rfl
                  have hV630 : zV Ym628 := zV_o hV hYm628 rfl
                  have hG631 := yFr_o hG hYm628 rfl (.inr rfl) rfl
                  obtain ⟨Ym632, hYm632, hM⟩ := zl_x hM
                  have hR633 : zRx [] 0 Z Ym632 := zRx_o hR629 hYm632 rfl
                  have hV634 : zV Ym632 := zV_o hV630 hYm632 rfl
                  have hG635 := yFr_o hG631 hYm632 rfl (.inr rfl) rfl
                  exact False.elim (by have q1 := zhx q1; have q2 := zhx q2; have q622 := zhx q622; first | omega | grind)
        · rcases zE_c hM with ⟨h636, hM⟩ | ⟨h636, hM⟩
          · rcases zE_c hM with ⟨h637, hM⟩ | ⟨h637, hM⟩
            · obtain ⟨Ym638, hYm638, hM⟩ := zl_x hM
              have hR639 : zRx [] 0 Z Ym638 := zRx_o hRb hYm638 rfl
              have hV640 : zV Ym638 := zV_o hV hYm638 rfl
              have hG641 := yFr_o hG hYm638 rfl (.inr rfl) rfl
              have th9 := (zu_at hYm638)
              obtain rfl : C = _ := hC
              obtain rfl : M = _ := hM
              exact ⟨zRx_1 hR639, hV640, ⟨Z, _, .inl ⟨rfl, yFr_w hG641 (by decide)⟩, zFc_r, yFr_r⟩, zThr_e th9 (by decide)⟩
            · rcases zE_c hM with ⟨h642, hM⟩ | ⟨h642, hM⟩
              · obtain ⟨Ym643, hYm643, hM⟩ := zl_x hM
                have hR644 : zRx [] 0 Z Ym643 := zRx_o hRb hYm643 rfl
                have hV645 : zV Ym643 := zV_o hV hYm643 rfl
                have hG646 := yFr_o hG hYm643 rfl (.inr rfl) rfl
                have th9 := (zu_at hYm643)
                obtain rfl : C = _ := hC
                obtain rfl : M = _ := hM
                exact ⟨zRx_1 hR644, hV645, ⟨Z, _, .inl ⟨rfl, yFr_w hG646 (by decide)⟩, zFc_r, yFr_r⟩, zThr_e th9 (by decide)⟩
              · rcases zE_c hM with ⟨h647, hM⟩ | ⟨h647, hM⟩
                · obtain ⟨Ym648, hYm648, hM⟩ := zl_x hM
                  have hR649 : zRx [] 0 Z Ym648 := zRx_o hRb hYm648 rfl
                  have hV650 : zV Ym648 := zV_o hV hYm648 rfl
                  have hG651 := yFr_o hG hYm648 rfl (.inr rfl) rfl
                  have th9 := (zu_at hYm648)
                  obtain rfl : C = _ := hC
                  obtain rfl : M = _ := hM
                  exact ⟨zRx_1 hR649, hV650, ⟨Z, _, .inl ⟨rfl, yFr_w hG651 (by decide)⟩, zFc_r, yFr_r⟩, zThr_e th9 (by decide)⟩
                · have q652 := zhd (zVr_11_0 (a := 100) hV (by omega))
                  rcases zE_c hM with ⟨h653, hM⟩ | ⟨h653, hM⟩
                  · obtain ⟨Ym654, hYm654, hM⟩ := zl_x hM
                    have hR655 : zRx [] 0 Z Ym654 := zRx_o hRb hYm654 rfl
                    have hV656 : zV Ym654 := zV_o hV hYm654 rfl
                    have hG657 := yFr_o hG hYm654 rfl (.inr rfl) rfl
                    have th9 := (zu_at hYm654)
                    obtain rfl : C = _ := hC
                    obtain rfl : M = _ := hM
                    exact ⟨zRx_1 hR655, hV656, ⟨Z, _, .inl ⟨rfl, yFr_w hG657 (by decide)⟩, zFc_r, yFr_r⟩, zThr_e th9 (by decide)⟩
                  · obtain ⟨Ym658, hYm658, hM⟩ := zl_x hM
                    have hR659 : zRx [] 0 Z Ym658 := zRx_o hRb hYm658 rfl
                    have hV660 : zV Ym658 := zV_o hV hYm658 rfl
                    have hG661 := yFr_o hG hYm658 rfl (.inr rfl) rfl
                    obtain ⟨Ym662, hYm662, hM⟩ := zl_x hM
                    have hR663 : zRx [] 0 Z Ym662 := zRx_o hR659 hYm662 rfl
                    have hV664 : zV Ym662 := zV_o hV660 hYm662 rfl
                    have hG665 := yFr_o hG661 hYm662 rfl (.inr rfl) rfl
                    exact False.elim (by have q1 := zhx q1; have q2 := zhx q2; have q652 := zhx q652; first | omega | grind)
          · rcases zE_c hM with ⟨h666, hM⟩ | ⟨h666, hM⟩
            · rcases zE_c hM with ⟨h667, hM⟩ | ⟨h667, hM⟩
              · obtain ⟨Ym668, hYm668, hM⟩ := zl_x hM
                have hR669 : zRx [] 0 Z Ym668 := zRx_o hRb hYm668 rfl
                have hV670 : zV Ym668 := zV_o hV hYm668 rfl
                have hG671 := yFr_o hG hYm668 rfl (.inr rfl) rfl
                have th9 := (zu_at hYm668)
                obtain rfl : C = _ := hC
                obtain rfl : M = _ := hM
                exact ⟨zRx_1 hR669, hV670, ⟨Z, _, .inl ⟨rfl, yFr_w hG671 (by decide)⟩, zFc_r, yFr_r⟩, zThr_e th9 (by decide)⟩
              · rcases zE_c hM with ⟨h672, hM⟩ | ⟨h672, hM⟩
                · obtain ⟨Ym673, hYm673, hM⟩ := zl_x hM
                  have hR674 : zRx [] 0 Z Ym673 := zRx_o hRb hYm673 rfl
                  have hV675 : zV Ym673 := zV_o hV hYm673 rfl
                  have hG676 := yFr_o hG hYm673 rfl (.inr rfl) rfl
                  have th9 := (zu_at hYm673)
                  obtain rfl : C = _ := hC
                  obtain rfl : M = _ := hM
                  exact ⟨zRx_1 hR674, hV675, ⟨Z, _, .inl ⟨rfl, yFr_w hG676 (by decide)⟩, zFc_r, yFr_r⟩, zThr_e th9 (by decide)⟩
                · rcases zE_c hM with ⟨h677, hM⟩ | ⟨h677, hM⟩
                  · obtain ⟨Ym678, hYm678, hM⟩ := zl_x hM
                    have hR679 : zRx [] 0 Z Ym678 := zRx_o hRb hYm678 rfl
                    have hV680 : zV Ym678 := zV_o hV hYm678 rfl
                    have hG681 := yFr_o hG hYm678 rfl (.inr rfl) rfl
                    have th9 := (zu_at hYm678)
                    obtain rfl : C = _ := hC
                    obtain rfl : M = _ := hM
                    exact ⟨zRx_1 hR679, hV680, ⟨Z, _, .inl ⟨rfl, yFr_w hG681 (by decide)⟩, zFc_r, yFr_r⟩, zThr_e th9 (by decide)⟩
                  · have q682 := zhd (zVr_11_0 (a := 100) hV (by omega))
                    rcases zE_c hM with ⟨h683, hM⟩ | ⟨h683, hM⟩
                    · obtain ⟨Ym684, hYm684, hM⟩ := zl_x hM
                      have hR685 : zRx [] 0 Z Ym684 := zRx_o hRb hYm684 rfl
                      have hV686 : zV Ym684 := zV_o hV hYm684 rfl
                      have hG687 := yFr_o hG hYm684 rfl (.inr rfl) rfl
                      have th9 := (zu_at hYm684)
                      obtain rfl : C = _ := hC
                      obtain rfl : M = _ := hM
                      exact ⟨zRx_1 hR685, hV686, ⟨Z, _, .inl ⟨rfl, yFr_w hG687 (by decide)⟩, zFc_r, yFr_r⟩, zThr_e th9 (by decide)⟩
                    · obtain ⟨Ym688, hYm688, hM⟩ := zl_x hM
                      have hR689 : zRx [] 0 Z Ym688 := zRx_o hRb hYm688 rfl
                      have hV690 : zV Ym688 := zV_o hV hYm688 rfl
                      have hG691 := yFr_o hG hYm688 rfl (.inr rfl) rfl
                      obtain ⟨Ym692, hYm692, hM⟩ := zl_x hM
                      have hR693 : zRx [] 0 Z Ym692 := zRx_o hR689 hYm692 rfl
                      have hV694 : zV Ym692 := zV_o hV690 hYm692 rfl
                      have hG695 := yFr_o hG691 hYm692 rfl (.inr rfl) rfl
                      exact False.elim (by have q1 := zhx q1; have q2 := zhx q2; have q682 := zhx q682; first | omega | grind)
            · rcases zE_c hM with ⟨h696, hM⟩ | ⟨h696, hM⟩
              · rcases zE_c hM with ⟨h697, hM⟩ | ⟨h697, hM⟩
                · obtain ⟨Ym698, hYm698, hM⟩ := zl_x hM
                  have hR699 : zRx [] 0 Z Ym698 := zRx_o hRb hYm698 rfl
                  have hV700 : zV Ym698 := zV_o hV hYm698 rfl
                  have hG701 := yFr_o hG hYm698 rfl (.inr rfl) rfl
                  have th9 := (zu_at hYm698)
                  obtain rfl : C = _ := hC
                  obtain rfl : M = _ := hM
                  exact ⟨zRx_1 hR699, hV700, ⟨Z, _, .inl ⟨rfl, yFr_w hG701 (by decide)⟩, zFc_r, yFr_r⟩, zThr_e th9 (by decide)⟩
                · rcases zE_c hM with ⟨h702, hM⟩ | ⟨h702, hM⟩
                  · obtain ⟨Ym703, hYm703, hM⟩ := zl_x hM
                    have hR704 : zRx [] 0 Z Ym703 := zRx_o hRb hYm703 rfl
                    have hV705 : zV Ym703 := zV_o hV hYm703 rfl
                    have hG706 := yFr_o hG hYm703 rfl (.inr rfl) rfl
                    have th9 := (zu_at hYm703)
                    obtain rfl : C = _ := hC
                    obtain rfl : M = _ := hM
                    exact ⟨zRx_1 hR704, hV705, ⟨Z, _, .inl ⟨rfl, yFr_w hG706 (by decide)⟩, zFc_r, yFr_r⟩, zThr_e th9 (by decide)⟩
                  · rcases zE_c hM with ⟨h707, hM⟩ | ⟨h707, hM⟩
                    · obtain ⟨Ym708, hYm708, hM⟩ := zl_x hM
                      have hR709 : zRx [] 0 Z Ym708 := zRx_o hRb hYm708 rfl
                      have hV710 : zV Ym708 := zV_o hV hYm708 rfl
                      have hG711 := yFr_o hG hYm708 rfl (.inr rfl) rfl
                      have th9 := (zu_at hYm708)
                      obtain rfl : C = _ := hC
                      obtain rfl : M = _ := hM
                      exact ⟨zRx_1 hR709, hV710, ⟨Z, _, .inl ⟨rfl, yFr_w hG711 (by decide)⟩, zFc_r, yFr_r⟩, zThr_e th9 (by decide)⟩
                    · have q712 := zhd (zVr_11_0 (a := 100) hV (by omega))
                      rcases zE_c hM with ⟨h713, hM⟩ | ⟨h713, hM⟩
                      · obtain ⟨Ym714, hYm714, hM⟩ := zl_x hM
                        have hR715 : zRx [] 0 Z Ym714 := zRx_o hRb hYm714 rfl
                        have hV716 : zV Ym714 := zV_o hV hYm714 rfl
                        have hG717 := yFr_o hG hYm714 rfl (.inr rfl) rfl
                        have th9 := (zu_at hYm714)
                        obtain rfl : C = _ := hC
                        obtain rfl : M = _ := hM
                        exact ⟨zRx_1 hR715, hV716, ⟨Z, _, .inl ⟨rfl, yFr_w hG717 (by decide)⟩, zFc_r, yFr_r⟩, zThr_e th9 (by decide)⟩
                      · obtain ⟨Ym718, hYm718, hM⟩ := zl_x hM
                        have hR719 : zRx [] 0 Z Ym718 := zRx_o hRb hYm718 rfl
                        have hV720 : zV Ym718 := zV_o hV hYm718 rfl
                        have hG721 := yFr_o hG hYm718 rfl (.inr rfl) rfl
                        obtain ⟨Ym722, hYm722, hM⟩ := zl_x hM
                        have hR723 : zRx [] 0 Z Ym722 := zRx_o hR719 hYm722 rfl
                        have hV724 : zV Ym722 := zV_o hV720 hYm722 rfl
                        have hG725 := yFr_o hG721 hYm722 rfl (.inr rfl) rfl
                        exact False.elim (by have q1 := zhx q1; have q2 := zhx q2; have q712 := zhx q712; first | omega | grind)
              · rcases zE_c hM with ⟨h726, hM⟩ | ⟨h726, hM⟩
                · rcases zE_c hM with ⟨h727, hM⟩ | ⟨h727, hM⟩
                  · obtain ⟨Ym728, hYm728, hM⟩ := zl_x hM
                    have hR729 : zRx [] 0 Z Ym728 := zRx_o hRb hYm728 rfl
                    have hV730 : zV Ym728 := zV_o hV hYm728 rfl
                    have hG731 := yFr_o hG hYm728 rfl (.inr rfl) rfl
                    have th9 := (zu_at hYm728)
                    obtain rfl : C = _ := hC
                    obtain rfl : M = _ := hM
                    exact ⟨zRx_1 hR729, hV730, ⟨Z, _, .inl ⟨rfl, yFr_w hG731 (by decide)⟩, zFc_r, yFr_r⟩, zThr_e th9 (by decide)⟩
                  · rcases zE_c hM with ⟨h732, hM⟩ | ⟨h732, hM⟩
                    · obtain ⟨Ym733, hYm733, hM⟩ := zl_x hM
                      have hR734 : zRx [] 0 Z Ym733 := zRx_o hRb hYm733 rfl
                      have hV735 : zV Ym733 := zV_o hV hYm733 rfl
                      have hG736 := yFr_o hG hYm733 rfl (.inr rfl) rfl
                      have th9 := (zu_at hYm733)
                      obtain rfl : C = _ := hC
                      obtain rfl : M = _ := hM
                      exact ⟨zRx_1 hR734, hV735, ⟨Z, _, .inl ⟨rfl, yFr_w hG736 (by decide)⟩, zFc_r, yFr_r⟩, zThr_e th9 (by decide)⟩
                    · rcases zE_c hM with ⟨h737, hM⟩ | ⟨h737, hM⟩
                      · obtain ⟨Ym738, hYm738, hM⟩ := zl_x hM
                        have hR739 : zRx [] 0 Z Ym738 := zRx_o hRb hYm738 rfl
                        have hV740 : zV Ym738 := zV_o hV hYm738 rfl
                        have hG741 := yFr_o hG hYm738 rfl (.inr rfl) rfl
                        have th9 := (zu_at hYm738)
                        obtain rfl : C = _ := hC
                        obtain rfl : M = _ := hM
                        exact ⟨zRx_1 hR739, hV740, ⟨Z, _, .inl ⟨rfl, yFr_w hG741 (by decide)⟩, zFc_r, yFr_r⟩, zThr_e th9 (by decide)⟩
                      · have q742 := zhd (zVr_11_0 (a := 100) hV (by omega))
                        rcases zE_c hM with ⟨h743, hM⟩ | ⟨h743, hM⟩
                        · obtain ⟨Ym744, hYm744, hM⟩ := zl_x hM
                          have hR745 : zRx [] 0 Z Ym744 := zRx_o hRb hYm744 rfl
                          have hV746 : zV Ym744 := zV_o hV hYm744 rfl
                          have hG747 := yFr_o hG hYm744 rfl (.inr rfl) rfl
                          have th9 := (zu_at hYm744)
                          obtain rfl : C = _ := hC
                          obtain rfl : M = _ := hM
                          exact ⟨zRx_1 hR745, hV746, ⟨Z, _, .inl ⟨rfl, yFr_w hG747 (by decide)⟩, zFc_r, yFr_r⟩, zThr_e th9 (by decide)⟩
                        · obtain ⟨Ym748, hYm748, hM⟩ := zl_x hM
                          have hR749 : zRx [] 0 Z Ym748 := zRx_o hRb hYm748 rfl
                          have hV750 : zV Ym748 := zV_o hV hYm748 rfl
                          have hG751 := yFr_o hG hYm748 rfl (.inr rfl) rfl
                          obtain ⟨Ym752, hYm752, hM⟩ := zl_x hM
                          have hR753 : zRx [] 0 Z Ym752 := zRx_o hR749 hYm752 rfl
                          have hV754 : zV Ym752 := zV_o hV750 hYm752 rfl
                          have hG755 := yFr_o hG751 hYm752 rfl (.inr rfl) rfl
                          exact False.elim (by have q1 := zhx q1; have q2 := zhx q2; have q742 := zhx q742; first | omega | grind)
                · rcases zE_c hM with ⟨h756, hM⟩ | ⟨h756, hM⟩
                  · rcases zE_c hM with ⟨h757, hM⟩ | ⟨h757, hM⟩
                    · obtain ⟨Ym758, hYm758, hM⟩ := zl_x hM
                      have hR759 : zRx [] 0 Z Ym758 := zRx_o hRb hYm758 rfl
                      have hV760 : zV Ym758 := zV_o hV hYm758 rfl
                      have hG761 := yFr_o hG hYm758 rfl (.inr rfl) rfl
                      have th9 := (zu_at hYm758)
                      obtain rfl : C = _ := hC
                      obtain rfl : M = _ := hM
                      exact ⟨zRx_1 hR759, hV760, ⟨Z, _, .inl ⟨rfl, yFr_w hG761 (by decide)⟩, zFc_r, yFr_r⟩, zThr_e th9 (by decide)⟩
                    · rcases zE_c hM with ⟨h762, hM⟩ | ⟨h762, hM⟩
                      · obtain ⟨Ym763, hYm763, hM⟩ := zl_x hM
                        have hR764 : zRx [] 0 Z Ym763 := zRx_o hRb hYm763 rfl
                        have hV765 : zV Ym763 := zV_o hV hYm763 rfl
                        have hG766 := yFr_o hG hYm763 rfl (.inr rfl) rfl
                        have th9 := (zu_at hYm763)
                        obtain rfl : C = _ := hC
                        obtain rfl : M = _ := hM
                        exact ⟨zRx_1 hR764, hV765, ⟨Z, _, .inl ⟨rfl, yFr_w hG766 (by decide)⟩, zFc_r, yFr_r⟩, zThr_e th9 (by decide)⟩
                      · rcases zE_c hM with ⟨h767, hM⟩ | ⟨h767, hM⟩
                        · obtain ⟨Ym768, hYm768, hM⟩ := zl_x hM
                          have hR769 : zRx [] 0 Z Ym768 := zRx_o hRb hYm768 rfl
                          have hV770 : zV Ym768 := zV_o hV hYm768 rfl
                          have hG771 := yFr_o hG hYm768 rfl (.inr rfl) rfl
                          have th9 := (zu_at hYm768)
                          obtain rfl : C = _ := hC
                          obtain rfl : M = _ := hM
                          exact ⟨zRx_1 hR769, hV770, ⟨Z, _, .inl ⟨rfl, yFr_w hG771 (by decide)⟩, zFc_r, yFr_r⟩, zThr_e th9 (by decide)⟩
                        · have q772 := zhd (zVr_11_0 (a := 100) hV (by omega))
                          rcases zE_c hM with ⟨h773, hM⟩ | ⟨h773, hM⟩
                          · obtain ⟨Ym774, hYm774, hM⟩ := zl_x hM
                            have hR775 : zRx [] 0 Z Ym774 := zRx_o hRb hYm774 rfl
                            have hV776 : zV Ym774 := zV_o hV hYm774 rfl
                            have hG777 := yFr_o hG hYm774 rfl (.inr rfl) rfl
                            have th9 := (zu_at hYm774)
                            obtain rfl : C = _ := hC
                            obtain rfl : M = _ := hM
                            exact ⟨zRx_1 hR775, hV776, ⟨Z, _, .inl ⟨rfl, yFr_w hG777 (by decide)⟩, zFc_r, yFr_r⟩, zThr_e th9 (by decide)⟩
                          · obtain ⟨Ym778, hYm778, hM⟩ := zl_x hM
                            have hR779 : zRx [] 0 Z Ym778 := zRx_o hRb hYm778 rfl
                            have hV780 : zV Ym778 := zV_o hV hYm778 rfl
                            have hG781 := yFr_o hG hYm778 rfl (.inr rfl) rfl
                            obtain ⟨Ym782, hYm782, hM⟩ := zl_x hM
                            have hR783 : zRx [] 0 Z Ym782 := zRx_o hR779 hYm782 rfl
                            have hV784 : zV Ym782 := zV_o hV780 hYm782 rfl
                            have hG785 := yFr_o hG781 hYm782 rfl (.inr rfl) rfl
                            exact False.elim (by have q1 := zhx q1; have q2 := zhx q2; have q772 := zhx q772; first | omega | grind)
                  · rcases zE_c hM with ⟨h786, hM⟩ | ⟨h786, hM⟩
                    · obtain ⟨Ym787, hYm787, hM⟩ := zl_x hM
                      have hR788 : zRx [] 0 Z Ym787 := zRx_o hRb hYm787 rfl
                      have hV789 : zV Ym787 := zV_o hV hYm787 rfl
                      have hG790 := yFr_o hG hYm787 rfl (.inr rfl) rfl
                      have th9 := (zu_at hYm787)
                      obtain rfl : C = _ := hC
                      obtain rfl : M = _ := hM
                      exact ⟨zRx_1 hR788, hV789, ⟨Z, _, .inl ⟨rfl, yFr_w hG790 (by decide)⟩, zFc_r, yFr_r⟩, zThr_e th9 (by decide)⟩
                    · rcases zE_c hM with ⟨h791, hM⟩ | ⟨h791, hM⟩
                      · obtain ⟨Ym792, hYm792, hM⟩ := zl_x hM
                        have hR793 : zRx [] 0 Z Ym792 := zRx_o hRb hYm792 rfl
                        have hV794 : zV Ym792 := zV_o hV hYm792 rfl
                        have hG795 := yFr_o hG hYm792 rfl (.inr rfl) rfl
                        have th9 := (zu_at hYm792)
                        obtain rfl : C = _ := hC
                        obtain rfl : M = _ := hM
                        exact ⟨zRx_1 hR793, hV794, ⟨Z, _, .inl ⟨rfl, yFr_w hG795 (by decide)⟩, zFc_r, yFr_r⟩, zThr_e th9 (by decide)⟩
                      · rcases zE_c hM with ⟨h796, hM⟩ | ⟨h796, hM⟩
                        · obtain ⟨Ym797, hYm797, hM⟩ := zl_x hM
                          have hR798 : zRx [] 0 Z Ym797 := zRx_o hRb hYm797 rfl
                          have hV799 : zV Ym797 := zV_o hV hYm797 rfl
                          have hG800 := yFr_o hG hYm797 rfl (.inr rfl) rfl
                          have th9 := (zu_at hYm797)
                          obtain rfl : C = _ := hC
                          obtain rfl : M = _ := hM
                          exact ⟨zRx_1 hR798, hV799, ⟨Z, _, .inl ⟨rfl, yFr_w hG800 (by decide)⟩, zFc_r, yFr_r⟩, zThr_e th9 (by decide)⟩
                        · have q801 := zhd (zVr_11_0 (a := 100) hV (by omega))
                          rcases zE_c hM with ⟨h802, hM⟩ | ⟨h802, hM⟩
                          · obtain ⟨Ym803, hYm803, hM⟩ := zl_x hM
                            have hR804 : zRx [] 0 Z Ym803 := zRx_o hRb hYm803 rfl
                            have hV805 : zV Ym803 := zV_o hV hYm803 rfl
                            have hG806 := yFr_o hG hYm803 rfl (.inr rfl) rfl
                            have th9 := (zu_at hYm803)
                            obtain rfl : C = _ := hC
                            obtain rfl : M = _ := hM
                            exact ⟨zRx_1 hR804, hV805, ⟨Z, _, .inl ⟨rfl, yFr_w hG806 (by decide)⟩, zFc_r, yFr_r⟩, zThr_e th9 (by decide)⟩
                          · obtain ⟨Ym807, hYm807, hM⟩ := zl_x hM
                            have hR808 : zRx [] 0 Z Ym807 := zRx_o hRb hYm807 rfl
                            have hV809 : zV Ym807 := zV_o hV hYm807 rfl
                            have hG810 := yFr_o hG hYm807 rfl (.inr rfl) rfl
                            obtain ⟨Ym811, hYm811, hM⟩ := zl_x hM
                            have hR812 : zRx [] 0 Z Ym811 := zRx_o hR808 hYm811 rfl
                            have hV813 : zV Ym811 := zV_o hV809 hYm811 rfl
                            have hG814 := yFr_o hG810 hYm811 rfl (.inr rfl) rfl
                            have q815 := zhd (zVr_11_5 (a := 1401) hV (by omega))
                            have q816 := zhd (((zu_ne (k' := 2) (b' := 0) (i' := 0) (j' := 1401) hYm811 (fun q => absurd q.1 (by decide))).trans (zu_ne (k' := 2) (b' := 0) (i' := 0) (j' := 1401) hYm807 (fun q => absurd q.1 (by decide)))))
                            rcases zE_c hM with ⟨h817, hM⟩ | ⟨h817, hM⟩
                            · obtain ⟨Ym818, hYm818, hM⟩ := zl_x hM
                              have hR819 : zRx [] 0 Z Ym818 := zRx_o hR812 hYm818 rfl
                              have hV820 : zV Ym818 := zV_o hV813 hYm818 rfl
                              have hG821 := yFr_o hG814 hYm818 rfl (.inr rfl) rfl
                              exact False.elim (by have q1 := zhx q1; have q2 := zhx q2; have q801 := zhx q801; have q815 := zhx q815; have q816 := zhx q816; first | omega | grind)
                            · obtain ⟨Ym822, hYm822, hM⟩ := zl_x hM
                              have hR823 : zRx [] 0 Z Ym822 := zRx_o hR812 hYm822 rfl
                              have hV824 : zV Ym822 := zV_o hV813 hYm822 rfl
                              have hG825 := yFr_o hG814 hYm822 rfl (.inr rfl) rfl
                              exact False.elim (by have q1 := zhx q1; have q2 := zhx q2; have q801 := zhx q801; have q815 := zhx q815; have q816 := zhx q816; first | omega | grind)

/- face clock -/
theorem rf_clock {Z Y : qz_Z} {dm : qz_Z → Int → Int → Int → Int → Int → Int → Int → qz_Z} {a1 a2 a3 a4 a5 : Int} (hRa : zR 0 Z Y) (hV : zV Y) (hI : zI none Z) (hd : zDf dm) (hD1 : zD1 0 Z Y) (hD4 : zD4 0 Z Y) (hN1 : zN1 Y) (hN4 : zN4 Y) (hDs : zDs 0 Z Y) (hDw : zDw 0 Z Y) (hDl : zDl 0 Z Y)  {C : qz_Z × Int × Int} {M : qz_Z × Int} (hC : zE C (zx_193 Z a1 a2 a3 a4 a5)) (hM : zE M (zy_316 Y dm a1 a2 a3 a4 a5)) : zR 0 C.1 M.1 ∧ zV M.1 ∧ zDd [1107, 4800, 4801, 4802, 4803, 4804, 4806, 4807] [1107, 4800, 4801, 4802, 4803, 4804, 4806, 4807, 99999] Z Y dm C.1 M.1 ∧ zThr [(13, 1), (15, 2)] C.2 (M.1 1 0 0 2) M.2 := by
  have hRb := zRx_0 hRa
  have hF : zFc [] 0 Z Z := zFc_r
  have hG : yFr [99999] Y Y := yFr_r
  unfold zx_193 at hC
  unfold zy_316 at hM
  rcases zE_c hC with ⟨h1, hC⟩ | ⟨h1, hC⟩
  · rcases zE_c hC with ⟨h2, hC⟩ | ⟨h2, hC⟩
    · rcases zE_c hC with ⟨h3, hC⟩ | ⟨h3, hC⟩
      · rcases zE_c hC with ⟨h4, hC⟩ | ⟨h4, hC⟩
        · rcases zE_c hC with ⟨h5, hC⟩ | ⟨h5, hC⟩
          · have q6 := zhd (zVr_11_7 (a := 3000) hV (by omega))
            have q7 := zhd ((zRl_11_7 (a := 3000) hRa (by omega)))
            rcases zE_c hC with ⟨h8, hC⟩ | ⟨h8, hC⟩
            · replace hM := zE_n hM (by first | (have q6 := zhx q6; have q7 := zhx q7; omega) | (simp only [zhx q6, zhx q7] at h1 h2 h3 h4 h5 h8 ⊢ <;> omega))
              replace hM := zE_n hM (by first | (have q6 := zhx q6; have q7 := zhx q7; omega) | (simp only [zhx q6, zhx q7] at h1 h2 h3 h4 h5 h8 ⊢ <;> omega))
              replace hM := zE_n hM (by first | (have q6 := zhx q6; have q7 := zhx q7; omega) | (simp only [zhx q6, zhx q7] at h1 h2 h3 h4 h5 h8 ⊢ <;> omega))
              rcases zE_c hM with ⟨h9, hM⟩ | ⟨h9, hM⟩
              · obtain ⟨Ym10, hYm10, hM⟩ := zl_x hM
                have hR11 : zRx [] 0 Z Ym10 := zRx_o hRb hYm10 rfl
                have hV12 : zV Ym10 := zV_o hV hYm10 rfl
                have hG13 := yFr_o hG hYm10 rfl (.inr rfl) rfl
                exact False.elim (by have q6 := zhx q6; have q7 := zhx q7; first | omega | grind)
              · rcases zE_c hM with ⟨h14, hM⟩ | ⟨h14, hM⟩
                · obtain ⟨Ym15, hYm15, hM⟩ := zl_x hM
                  have hR16 : zRx [] 0 Z Ym15 := zRx_o hRb hYm15 rfl
                  have hV17 : zV Ym15 := zV_o hV hYm15 rfl
                  have hG18 := yFr_o hG hYm15 rfl (.inr rfl) rfl
                  exact False.elim (by have q6 := zhx q6; have q7 := zhx q7; first | omega | grind)
                · replace hM := zE_n hM (by first | (have q6 := zhx q6; have q7 := zhx q7; omega) | (simp only [zhx q6, zhx q7] at h1 h2 h3 h4 h5 h8 h9 h14 ⊢ <;> omega))
                  replace hM := zE_n hM (by first | (have q6 := zhx q6; have q7 := zhx q7; omega) | (simp only [zhx q6, zhx q7] at h1 h2 h3 h4 h5 h8 h9 h14 ⊢ <;> omega))
                  replace hM := zE_n hM (by first | (have q6 := zhx q6; have q7 := zhx q7; omega) | (simp only [zhx q6, zhx q7] at h1 h2 h3 h4 h5 h8 h9 h14 ⊢ <;> omega))
                  replace hM := zE_n hM (by first | (have q6 := zhx q6; have q7 := zhx q7; omega) | (simp only [zhx q6, zhx q7] at h1 h2 h3 h4 h5 h8 h9 h14 ⊢ <;> omega))
                  replace hM := zE_n hM (by first | (have q6 := zhx q6; have q7 := zhx q7; omega) | (simp only [zhx q6, zhx q7] at h1 h2 h3 h4 h5 h8 h9 h14 ⊢ <;> omega))
                  replace hM := zE_n hM (by first | (have q6 := zhx q6; have q7 := zhx q7; omega) | (simp only [zhx q6, zhx q7] at h1 h2 h3 h4 h5 h8 h9 h14 ⊢ <;> omega))
                  obtain ⟨Ym19, hYm19, hM⟩ := zl_x hM
                  have hR20 : zRx [] 0 Z Ym19 := zRx_o hRb hYm19 rfl
                  have hV21 : zV Ym19 := zV_o hV hYm19 rfl
                  have hG22 := yFr_o hG hYm19 rfl (.inr rfl) rfl
                  have q23 := zhd ((zu_ne (k' := 2) (b' := 0) (i' := 0) (j' := 3000) hYm19 (fun q => absurd q.1 (by decide))))
                  replace hM := zE_p hM (by first | (have q6 := zhx q6; have q7 := zhx q7; have q23 := zhx q23; omega) | (simp only [zhx q6, zhx q7, zhx q23] at h1 h2 h3 h4 h5 h8 h9 h14 ⊢ <;> omega))
                  obtain ⟨Ym24, hYm24, hM⟩ := zl_x hM
                  have hR25 : zRx [] 0 Z Ym24 := zRx_o hR20 hYm24 rfl
                  have hV26 : zV Ym24 := zV_o hV21 hYm24 rfl
                  have hG27 := yFr_o hG22 hYm24 rfl (.inr rfl) rfl
                  have th9 := (zu_at hYm24)
                  obtain rfl : C = _ := hC
                  obtain rfl : M = _ := hM
                  exact ⟨zRx_1 hR25, hV26, ⟨Z, _, .inl ⟨rfl, yFr_w hG27 (by decide)⟩, zFc_r, yFr_r⟩, zThr_e th9 (by decide)⟩
            · replace hM := zE_n hM (by first | (have q6 := zhx q6; have q7 := zhx q7; omega) | (simp only [zhx q6, zhx q7] at h1 h2 h3 h4 h5 h8 ⊢ <;> omega))
              replace hM := zE_n hM (by first | (have q6 := zhx q6; have q7 := zhx q7; omega) | (simp only [zhx q6, zhx q7] at h1 h2 h3 h4 h5 h8 ⊢ <;> omega))
              replace hM := zE_n hM (by first | (have q6 := zhx q6; have q7 := zhx q7; omega) | (simp only [zhx q6, zhx q7] at h1 h2 h3 h4 h5 h8 ⊢ <;> omega))
              rcases zE_c hM with ⟨h28, hM⟩ | ⟨h28, hM⟩
              · obtain ⟨Ym29, hYm29, hM⟩ := zl_x hM
                have hR30 : zRx [] 0 Z Ym29 := zRx_o hRb hYm29 rfl
                have hV31 : zV Ym29 := zV_o hV hYm29 rfl
                have hG32 := yFr_o hG hYm29 rfl (.inr rfl) rfl
                exact False.elim (by have q6 := zhx q6; have q7 := zhx q7; first | omega | grind)
              · rcases zE_c hM with ⟨h33, hM⟩ | ⟨h33, hM⟩
                · obtain ⟨Ym34, hYm34, hM⟩ := zl_x hM
                  have hR35 : zRx [] 0 Z Ym34 := zRx_o hRb hYm34 rfl
                  have hV36 : zV Ym34 := zV_o hV hYm34 rfl
                  have hG37 := yFr_o hG hYm34 rfl (.inr rfl) rfl
                  exact False.elim (by have q6 := zhx q6; have q7 := zhx q7; first | omega | grind)
                · replace hM := zE_n hM (by first | (have q6 := zhx q6; have q7 := zhx q7; omega) | (simp only [zhx q6, zhx q7] at h1 h2 h3 h4 h5 h8 h28 h33 ⊢ <;> omega))
                  replace hM := zE_n hM (by first | (have q6 := zhx q6; have q7 := zhx q7; omega) | (simp only [zhx q6, zhx q7] at h1 h2 h3 h4 h5 h8 h28 h33 ⊢ <;> omega))
                  replace hM := zE_n hM (by first | (have q6 := zhx q6; have q7 := zhx q7; omega) | (simp only [zhx q6, zhx q7] at h1 h2 h3 h4 h5 h8 h28 h33 ⊢ <;> omega))
                  replace hM := zE_n hM (by first | (have q6 := zhx q6; have q7 := zhx q7; omega) | (simp only [zhx q6, zhx q7] at h1 h2 h3 h4 h5 h8 h28 h33 ⊢ <;> omega))
                  replace hM := zE_n hM (by first | (have q6 := zhx q6; have q7 := zhx q7; omega) | (simp only [zhx q6, zhx q7] at h1 h2 h3 h4 h5 h8 h28 h33 ⊢ <;> omega))
                  replace hM := zE_n hM (by first | (have q6 := zhx q6; have q7 := zhx q7; omega) | (simp only [zhx q6, zhx q7] at h1 h2 h3 h4 h5 h8 h28 h33 ⊢ <;> omega))
                  obtain ⟨Ym38, hYm38, hM⟩ := zl_x hM
                  have hR39 : zRx [] 0 Z Ym38 := zRx_o hRb hYm38 rfl
                  have hV40 : zV Ym38 := zV_o hV hYm38 rfl
                  have hG41 := yFr_o hG hYm38 rfl (.inr rfl) rfl
                  have q42 := zhd ((zu_ne (k' := 2) (b' := 0) (i' := 0) (j' := 3000) hYm38 (fun q => absurd q.1 (by decide))))
                  replace hM := zE_n hM (by first | (have q6 := zhx q6; have q7 := zhx q7; have q42 := zhx q42; omega) | (simp only [zhx q6, zhx q7, zhx q42] at h1 h2 h3 h4 h5 h8 h28 h33 ⊢ <;> omega))
                  obtain ⟨Ym43, hYm43, hM⟩ := zl_x hM
                  have hR44 : zRx [] 0 Z Ym43 := zRx_o hR39 hYm43 rfl
                  have hV45 : zV Ym43 := zV_o hV40 hYm43 rfl
                  have hG46 := yFr_o hG41 hYm43 rfl (.inr rfl) rfl
                  obtain ⟨Zc47, hZc47, hC⟩ := zl_x hC
                  obtain ⟨Ym48, hYm48, hM⟩ := zl_x hM
                  have hR49 : zRx [] 0 Zc47 Ym48 := zRx_dd hR44 hI hd hZc47 hYm48
                  have hV50 : zV Ym48 := zV_dm hV45 hd hYm48
                  have hD1_51 : zD1 0 Zc47 Ym48 := (zD1_f (zD1_f hD1 hF.1 hG46.1 ⟨rfl, rfl, rfl⟩) (zFa_dd hI hZc47) (yFa_dm hd hYm48) ⟨rfl, rfl, rfl⟩)
                  have hD4_52 : zD4 0 Zc47 Ym48 := (zD4_f (zD4_f hD4 hF.1 hG46.1 ⟨⟨rfl, rfl⟩, rfl, rfl, rfl⟩) (zFa_dd hI hZc47) (yFa_dm hd hYm48) ⟨⟨rfl, rfl⟩, rfl, rfl, rfl⟩)
                  have hN1_53 : zN1 Ym48 := (zN1_f (zN1_f hN1 hG46.1 ⟨rfl, rfl, rfl, rfl⟩) (yFa_dm hd hYm48) ⟨rfl, rfl, rfl, rfl⟩)
                  have hN4_54 : zN4 Ym48 := (zN4_f (zN4_f hN4 hG46.1 ⟨rfl, rfl, rfl⟩) (yFa_dm hd hYm48) ⟨rfl, rfl, rfl⟩)
                  have hDs_55 : zDs 0 Zc47 Ym48 := (zDs_f (zDs_f hDs hF.1 hG46.1 ⟨rfl, rfl⟩) (zFa_dd hI hZc47) (yFa_dm hd hYm48) ⟨rfl, rfl⟩)
                  have hDw_56 : zDw 0 Zc47 Ym48 := (zDw_f (zDw_f hDw hF.1 hG46.1 ⟨rfl, rfl⟩) (zFa_dd hI hZc47) (yFa_dm hd hYm48) ⟨rfl, rfl⟩)
                  have hDl_57 : zDl 0 Zc47 Ym48 := (zDl_f (zDl_f hDl hF.1 hG46.1 ⟨rfl, rfl, rfl, rfl, rfl⟩) (zFa_dd hI hZc47) (yFa_dm hd hYm48) ⟨rfl, rfl, rfl, rfl, rfl⟩)
                  have hF58 : zFc [1107, 4800, 4801, 4802, 4803, 4804, 4806, 4807] 0 Zc47 Zc47 := zFc_r
                  have hG59 : yFr [1107, 4800, 4801, 4802, 4803, 4804, 4806, 4807] Ym48 Ym48 := yFr_r
                  have q60 := zhd ((((yFa_dm hd hYm48 (3000) rfl).trans (zu_ne (k' := 2) (b' := 0) (i' := 0) (j' := 3000) hYm43 (fun q => absurd q.1 (by decide)))).trans (zhx q42)))
                  have q61 := zhd (((zRl_11_7 (a := 3000) (zRx_1 hR49) (by omega)).trans (zhx q60)))
                  obtain ⟨Yr63, v64, g62, hM⟩ := zl_x2 hM
                  replace g62 : zE _ _ := g62
                  unfold zf_297 at g62
                  obtain ⟨Zc65, hZc65, hC⟩ := zl_x hC
                  have hR66 : zRx [(48, (Zc47 11 0 0 7), 0)] 0 Zc65 Ym48 := zRx_z hR49 hZc65
                  have hF67 := zFc_u hF58 hZc65 rfl rfl
                  obtain ⟨Zc68, hZc68, hC⟩ := zl_x hC
                  have hR69 : zRx [(48, (Zc47 11 0 0 7), 1), (48, (Zc47 11 0 0 7), 0)] 0 Zc68 Ym48 := zRx_z hR66 hZc68
                  have hF70 := zFc_u hF67 hZc68 rfl rfl
                  obtain ⟨Zc71, hZc71, hC⟩ := zl_x hC
                  have hR72 : zRx [(48, (Zc47 11 0 0 7), 2), (48, (Zc47 11 0 0 7), 1), (48, (Zc47 11 0 0 7), 0)] 0 Zc71 Ym48 := zRx_z hR69 hZc71
                  have hF73 := zFc_u hF70 hZc71 rfl rfl
                  obtain ⟨Zc74, hZc74, hC⟩ := zl_x hC
                  have hR75 : zRx [(48, (Zc47 11 0 0 7), 3), (48, (Zc47 11 0 0 7), 2), (48, (Zc47 11 0 0 7), 1), (48, (Zc47 11 0 0 7), 0)] 0 Zc74 Ym48 := zRx_z hR72 hZc74
                  have hF76 := zFc_u hF73 hZc74 rfl rfl
                  obtain ⟨Zc77, hZc77, hC⟩ := zl_x hC
                  have hR78 : zRx [(48, (Zc47 11 0 0 7), 4), (48, (Zc47 11 0 0 7), 3), (48, (Zc47 11 0 0 7), 2), (48, (Zc47 11 0 0 7), 1), (48, (Zc47 11 0 0 7), 0)] 0 Zc77 Ym48 := zRx_z hR75 hZc77
                  have hF79 := zFc_u hF76 hZc77 rfl rfl
                  obtain ⟨Zc80, hZc80, hC⟩ := zl_x hC
                  have hR81 : zRx [(48, (Zc47 11 0 0 7), 6), (48, (Zc47 11 0 0 7), 4), (48, (Zc47 11 0 0 7), 3), (48, (Zc47 11 0 0 7), 2), (48, (Zc47 11 0 0 7), 1), (48, (Zc47 11 0 0 7), 0)] 0 Zc80 Ym48 := zRx_z hR78 hZc80
                  have hF82 := zFc_u hF79 hZc80 rfl rfl
                  obtain ⟨Zc83, hZc83, hC⟩ := zl_x hC
                  have hR84 : zRx [(48, (Zc47 11 0 0 7), 7), (48, (Zc47 11 0 0 7), 6), (48, (Zc47 11 0 0 7), 4), (48, (Zc47 11 0 0 7), 3), (48, (Zc47 11 0 0 7), 2), (48, (Zc47 11 0 0 7), 1), (48, (Zc47 11 0 0 7), 0)] 0 Zc83 Ym48 := zRx_z hR81 hZc83
                  have hF85 := zFc_u hF82 hZc83 rfl rfl
                  have q86 := zhd ((((((((((zu_ne (k' := 11) (b' := 0) (i' := 0) (j' := 7) hZc83 (fun q => absurd q.1 (by decide))).trans (zu_ne (k' := 11) (b' := 0) (i' := 0) (j' := 7) hZc80 (fun q => absurd q.1 (by decide)))).trans (zu_ne (k' := 11) (b' := 0) (i' := 0) (j' := 7) hZc77 (fun q => absurd q.1 (by decide)))).trans (zu_ne (k' := 11) (b' := 0) (i' := 0) (j' := 7) hZc74 (fun q => absurd q.1 (by decide)))).trans (zu_ne (k' := 11) (b' := 0) (i' := 0) (j' := 7) hZc71 (fun q => absurd q.1 (by decide)))).trans (zu_ne (k' := 11) (b' := 0) (i' := 0) (j' := 7) hZc68 (fun q => absurd q.1 (by decide)))).trans (zu_ne (k' := 11) (b' := 0) (i' := 0) (j' := 7) hZc65 (fun q => absurd q.1 (by decide)))).trans (zRl_11_7 (a := 3000) (zRx_1 hR49) (by omega))).trans (zhx q60)))
                  obtain ⟨Zc87, hZc87, hC⟩ := zl_x hC
                  have hR88 : zRx [(11, 0, 7), (48, (Zc47 11 0 0 7), 7), (48, (Zc47 11 0 0 7), 6), (48, (Zc47 11 0 0 7), 4), (48, (Zc47 11 0 0 7), 3), (48, (Zc47 11 0 0 7), 2), (48, (Zc47 11 0 0 7), 1), (48, (Zc47 11 0 0 7), 0)] 0 Zc87 Ym48 := zRx_z hR84 hZc87
                  have hF89 := zFc_u hF85 hZc87 rfl rfl
                  obtain ⟨Ym90, hYm90, g62⟩ := zl_x g62
                  have hV91 : zV Ym90 := zV_i hV50 hYm90 (zvi_11_7 (by have q6 := zhx q6; have q7 := zhx q7; omega)) (by have q6 := zhx q6; have q7 := zhx q7; have q60 := zhx q60; first | omega | exact w3_r _)
                  have hR92 : zRx [(11, 0, 7), (48, (Zc47 11 0 0 7), 7), (48, (Zc47 11 0 0 7), 6), (48, (Zc47 11 0 0 7), 4), (48, (Zc47 11 0 0 7), 3), (48, (Zc47 11 0 0 7), 2), (48, (Zc47 11 0 0 7), 1), (48, (Zc47 11 0 0 7), 0)] 0 Zc87 Ym90 := zRx_yin hR88 (ac_11_7 (a := 3000) (by have q6 := zhx q6; have q7 := zhx q7; omega)) hYm90 (by simp)
                  have hG93 := yFr_u hG59 hYm90 (zcm_s (ac_11_7 (a := 3000) (by have q6 := zhx q6; have q7 := zhx q7; omega))) rfl
                  obtain ⟨Ym94, hYm94, g62⟩ := zl_x g62
                  have hV95 : zV Ym94 := zV_n hV91 hYm94 (zvn_48_0 (x := (Y 2 0 0 3000)) (by have q6 := zhx q6; have q7 := zhx q7; have q60 := zhx q60; omega) (by have q6 := zhx q6; have q7 := zhx q7; have q60 := zhx q60; omega) (by have q6 := zhx q6; have q7 := zhx q7; have q60 := zhx q60; omega))
                  have hR96 : zRx [(11, 0, 7), (48, (Zc47 11 0 0 7), 7), (48, (Zc47 11 0 0 7), 6), (48, (Zc47 11 0 0 7), 4), (48, (Zc47 11 0 0 7), 3), (48, (Zc47 11 0 0 7), 2), (48, (Zc47 11 0 0 7), 1), (48, (Zc47 11 0 0 7), 0)] 0 Zc87 Ym94 := zRx_yin hR92 (ac_48_0 (x := (Zc47 11 0 0 7)) (a := 3010 + 60 * (Ym48 2 0 0 3000)) (by have q6 := zhx q6; have q7 := zhx q7; have q60 := zhx q60; have q61 := zhx q61; omega) (by have q6 := zhx q6; have q7 := zhx q7; have q60 := zhx q60; have q61 := zhx q61; omega) (by have q6 := zhx q6; have q7 := zhx q7; have q60 := zhx q60; have q61 := zhx q61; omega)) hYm94 (by simp)
                  have hG97 := yFr_u hG93 hYm94 (zcm_s (ac_48_0 (a := 3010 + 60 * (Ym48 2 0 0 3000)) (x := (Y 2 0 0 3000)) (by have q6 := zhx q6; have q7 := zhx q7; have q60 := zhx q60; omega) (by have q6 := zhx q6; have q7 := zhx q7; have q60 := zhx q60; omega) (by have q6 := zhx q6; have q7 := zhx q7; have q60 := zhx q60; omega))) rfl
                  obtain ⟨Ym98, hYm98, g62⟩ := zl_x g62
                  have hV99 : zV Ym98 := zV_n hV95 hYm98 (zvn_48_1 (x := (Y 2 0 0 3000)) (by have q6 := zhx q6; have q7 := zhx q7; have q60 := zhx q60; omega) (by have q6 := zhx q6; have q7 := zhx q7; have q60 := zhx q60; omega) (by have q6 := zhx q6; have q7 := zhx q7; have q60 := zhx q60; omega))
                  have hR100 : zRx [(11, 0, 7), (48, (Zc47 11 0 0 7), 7), (48, (Zc47 11 0 0 7), 6), (48, (Zc47 11 0 0 7), 4), (48, (Zc47 11 0 0 7), 3), (48, (Zc47 11 0 0 7), 2), (48, (Zc47 11 0 0 7), 1), (48, (Zc47 11 0 0 7), 0)] 0 Zc87 Ym98 := zRx_yin hR96 (ac_48_1 (x := (Zc47 11 0 0 7)) (a := 3011 + 60 * (Ym48 2 0 0 3000)) (by have q6 := zhx q6; have q7 := zhx q7; have q60 := zhx q60; have q61 := zhx q61; omega) (by have q6 := zhx q6; have q7 := zhx q7; have q60 := zhx q60; have q61 := zhx q61; omega) (by have q6 := zhx q6; have q7 := zhx q7; have q60 := zhx q60; have q61 := zhx q61; omega)) hYm98 (by simp)
                  have hG101 := yFr_u hG97 hYm98 (zcm_s (ac_48_1 (a := 3011 + 60 * (Ym48 2 0 0 3000)) (x := (Y 2 0 0 3000)) (by have q6 := zhx q6; have q7 := zhx q7; have q60 := zhx q60; omega) (by have q6 := zhx q6; have q7 := zhx q7; have q60 := zhx q60; omega) (by have q6 := zhx q6; have q7 := zhx q7; have q60 := zhx q60; omega))) rfl
                  obtain ⟨Ym102, hYm102, g62⟩ := zl_x g62
                  have hV103 : zV Ym102 := zV_n hV99 hYm102 (zvn_48_2 (x := (Y 2 0 0 3000)) (by have q6 := zhx q6; have q7 := zhx q7; have q60 := zhx q60; omega) (by have q6 := zhx q6; have q7 := zhx q7; have q60 := zhx q60; omega) (by have q6 := zhx q6; have q7 := zhx q7; have q60 := zhx q60; omega))
                  have hR104 : zRx [(11, 0, 7), (48, (Zc47 11 0 0 7), 7), (48, (Zc47 11 0 0 7), 6), (48, (Zc47 11 0 0 7), 4), (48, (Zc47 11 0 0 7), 3), (48, (Zc47 11 0 0 7), 2), (48, (Zc47 11 0 0 7), 1), (48, (Zc47 11 0 0 7), 0)] 0 Zc87 Ym102 := zRx_yin hR100 (ac_48_2 (x := (Zc47 11 0 0 7)) (a := 3012 + 60 * (Ym48 2 0 0 3000)) (by have q6 := zhx q6; have q7 := zhx q7; have q60 := zhx q60; have q61 := zhx q61; omega) (by have q6 := zhx q6; have q7 := zhx q7; have q60 := zhx q60; have q61 := zhx q61; omega) (by have q6 := zhx q6; have q7 := zhx q7; have q60 := zhx q60; have q61 := zhx q61; omega)) hYm102 (by simp)
                  have hG105 := yFr_u hG101 hYm102 (zcm_s (ac_48_2 (a := 3012 + 60 * (Ym48 2 0 0 3000)) (x := (Y 2 0 0 3000)) (by have q6 := zhx q6; have q7 := zhx q7; have q60 := zhx q60; omega) (by have q6 := zhx q6; have q7 := zhx q7; have q60 := zhx q60; omega) (by have q6 := zhx q6; have q7 := zhx q7; have q60 := zhx q60; omega))) rfl
                  obtain ⟨Ym106, hYm106, g62⟩ := zl_x g62
                  have hV107 : zV Ym106 := zV_n hV103 hYm106 (zvn_48_3 (x := (Y 2 0 0 3000)) (by have q6 := zhx q6; have q7 := zhx q7; have q60 := zhx q60; omega) (by have q6 := zhx q6; have q7 := zhx q7; have q60 := zhx q60; omega) (by have q6 := zhx q6; have q7 := zhx q7; have q60 := zhx q60; omega))
                  have hR108 : zRx [(11, 0, 7), (48, (Zc47 11 0 0 7), 7), (48, (Zc47 11 0 0 7), 6), (48, (Zc47 11 0 0 7), 4), (48, (Zc47 11 0 0 7), 3), (48, (Zc47 11 0 0 7), 2), (48, (Zc47 11 0 0 7), 1), (48, (Zc47 11 0 0 7), 0)] 0 Zc87 Ym106 := zRx_yin hR104 (ac_48_3 (x := (Zc47 11 0 0 7)) (a := 3013 + 60 * (Ym48 2 0 0 3000)) (by have q6 := zhx q6; have q7 := zhx q7; have q60 := zhx q60; have q61 := zhx q61; omega) (by have q6 := zhx q6; have q7 := zhx q7; have q60 := zhx q60; have q61 := zhx q61; omega) (by have q6 := zhx q6; have q7 := zhx q7; have q60 := zhx q60; have q61 := zhx q61; omega)) hYm106 (by simp)
                  have hG109 := yFr_u hG105 hYm106 (zcm_s (ac_48_3 (a := 3013 + 60 * (Ym48 2 0 0 3000)) (x := (Y 2 0 0 3000)) (by have q6 := zhx q6; have q7 := zhx q7; have q60 := zhx q60; omega) (by have q6 := zhx q6; have q7 := zhx q7; have q60 := zhx q60; omega) (by have q6 := zhx q6; have q7 := zhx q7; have q60 := zhx q60; omega))) rfl
                  obtain ⟨Ym110, hYm110, g62⟩ := zl_x g62
                  have hV111 : zV Ym110 := zV_n hV107 hYm110 (zvn_48_4 (x := (Y 2 0 0 3000)) (by have q6 := zhx q6; have q7 := zhx q7; have q60 := zhx q60; omega) (by have q6 := zhx q6; have q7 := zhx q7; have q60 := zhx q60; omega) (by have q6 := zhx q6; have q7 := zhx q7; have q60 := zhx q60; omega))
                  have hR112 : zRx [(11, 0, 7), (48, (Zc47 11 0 0 7), 7), (48, (Zc47 11 0 0 7), 6), (48, (Zc47 11 0 0 7), 4), (48, (Zc47 11 0 0 7), 3), (48, (Zc47 11 0 0 7), 2), (48, (Zc47 11 0 0 7), 1), (48, (Zc47 11 0 0 7), 0)] 0 Zc87 Ym110 := zRx_yin hR108 (ac_48_4 (x := (Zc47 11 0 0 7)) (a := 3014 + 60 * (Ym48 2 0 0 3000)) (by have q6 := zhx q6; have q7 := zhx q7; have q60 := zhx q60; have q61 := zhx q61; omega) (by have q6 := zhx q6; have q7 := zhx q7; have q60 := zhx q60; have q61 := zhx q61; omega) (by have q6 := zhx q6; have q7 := zhx q7; have q60 := zhx q60; have q61 := zhx q61; omega)) hYm110 (by simp)
                  have hG113 := yFr_u hG109 hYm110 (zcm_s (ac_48_4 (a := 3014 + 60 * (Ym48 2 0 0 3000)) (x := (Y 2 0 0 3000)) (by have q6 := zhx q6; have q7 := zhx q7; have q60 := zhx q60; omega) (by have q6 := zhx q6; have q7 := zhx q7; have q60 := zhx q60; omega) (by have q6 := zhx q6; have q7 := zhx q7; have q60 := zhx q60; omega))) rfl
                  obtain ⟨Ym114, hYm114, g62⟩ := zl_x g62
                  have hV115 : zV Ym114 := zV_n hV111 hYm114 (zvn_48_6 (x := (Y 2 0 0 3000)) (by have q6 := zhx q6; have q7 := zhx q7; have q60 := zhx q60; omega) (by have q6 := zhx q6; have q7 := zhx q7; have q60 := zhx q60; omega) (by have q6 := zhx q6; have q7 := zhx q7; have q60 := zhx q60; omega))
                  have hR116 : zRx [(11, 0, 7), (48, (Zc47 11 0 0 7), 7), (48, (Zc47 11 0 0 7), 6), (48, (Zc47 11 0 0 7), 4), (48, (Zc47 11 0 0 7), 3), (48, (Zc47 11 0 0 7), 2), (48, (Zc47 11 0 0 7), 1), (48, (Zc47 11 0 0 7), 0)] 0 Zc87 Ym114 := zRx_yin hR112 (ac_48_6 (x := (Zc47 11 0 0 7)) (a := 3016 + 60 * (Ym48 2 0 0 3000)) (by have q6 := zhx q6; have q7 := zhx q7; have q60 := zhx q60; have q61 := zhx q61; omega) (by have q6 := zhx q6; have q7 := zhx q7; have q60 := zhx q60; have q61 := zhx q61; omega) (by have q6 := zhx q6; have q7 := zhx q7; have q60 := zhx q60; have q61 := zhx q61; omega)) hYm114 (by simp)
                  have hG117 := yFr_u hG113 hYm114 (zcm_s (ac_48_6 (a := 3016 + 60 * (Ym48 2 0 0 3000)) (x := (Y 2 0 0 3000)) (by have q6 := zhx q6; have q7 := zhx q7; have q60 := zhx q60; omega) (by have q6 := zhx q6; have q7 := zhx q7; have q60 := zhx q60; omega) (by have q6 := zhx q6; have q7 := zhx q7; have q60 := zhx q60; omega))) rfl
                  obtain ⟨Ym118, hYm118, g62⟩ := zl_x g62
                  have hV119 : zV Ym118 := zV_n hV115 hYm118 (zvn_48_7 (x := (Y 2 0 0 3000)) (by have q6 := zhx q6; have q7 := zhx q7; have q60 := zhx q60; omega) (by have q6 := zhx q6; have q7 := zhx q7; have q60 := zhx q60; omega) (by have q6 := zhx q6; have q7 := zhx q7; have q60 := zhx q60; omega))
                  have hR120 : zRx [(11, 0, 7), (48, (Zc47 11 0 0 7), 7), (48, (Zc47 11 0 0 7), 6), (48, (Zc47 11 0 0 7), 4), (48, (Zc47 11 0 0 7), 3), (48, (Zc47 11 0 0 7), 2), (48, (Zc47 11 0 0 7), 1), (48, (Zc47 11 0 0 7), 0)] 0 Zc87 Ym118 := zRx_yin hR116 (ac_48_7 (x := (Zc47 11 0 0 7)) (a := 3017 + 60 * (Ym48 2 0 0 3000)) (by have q6 := zhx q6; have q7 := zhx q7; have q60 := zhx q60; have q61 := zhx q61; omega) (by have q6 := zhx q6; have q7 := zhx q7; have q60 := zhx q60; have q61 := zhx q61; omega) (by have q6 := zhx q6; have q7 := zhx q7; have q60 := zhx q60; have q61 := zhx q61; omega)) hYm118 (by simp)
                  have hG121 := yFr_u hG117 hYm118 (zcm_s (ac_48_7 (a := 3017 + 60 * (Ym48 2 0 0 3000)) (x := (Y 2 0 0 3000)) (by have q6 := zhx q6; have q7 := zhx q7; have q60 := zhx q60; omega) (by have q6 := zhx q6; have q7 := zhx q7; have q60 := zhx q60; omega) (by have q6 := zhx q6; have q7 := zhx q7; have q60 := zhx q60; omega))) rfl
                  have q122 := zhd ((zu_at hZc87))
                  have q123 := zhd (((((((((zu_ne (k' := 2) (b' := 0) (i' := 0) (j' := 3000) hYm118 (fun q => absurd q.2.2.2 (by have q6 := zhx q6; have q7 := zhx q7; have q60 := zhx q60; omega))).trans (zu_ne (k' := 2) (b' := 0) (i' := 0) (j' := 3000) hYm114 (fun q => absurd q.2.2.2 (by have q6 := zhx q6; have q7 := zhx q7; have q60 := zhx q60; omega)))).trans (zu_ne (k' := 2) (b' := 0) (i' := 0) (j' := 3000) hYm110 (fun q => absurd q.2.2.2 (by have q6 := zhx q6; have q7 := zhx q7; have q60 := zhx q60; omega)))).trans (zu_ne (k' := 2) (b' := 0) (i' := 0) (j' := 3000) hYm106 (fun q => absurd q.2.2.2 (by have q6 := zhx q6; have q7 := zhx q7; have q60 := zhx q60; omega)))).trans (zu_ne (k' := 2) (b' := 0) (i' := 0) (j' := 3000) hYm102 (fun q => absurd q.2.2.2 (by have q6 := zhx q6; have q7 := zhx q7; have q60 := zhx q60; omega)))).trans (zu_ne (k' := 2) (b' := 0) (i' := 0) (j' := 3000) hYm98 (fun q => absurd q.2.2.2 (by have q6 := zhx q6; have q7 := zhx q7; have q60 := zhx q60; omega)))).trans (zu_ne (k' := 2) (b' := 0) (i' := 0) (j' := 3000) hYm94 (fun q => absurd q.2.2.2 (by have q6 := zhx q6; have q7 := zhx q7; have q60 := zhx q60; omega)))).trans (zu_at hYm90)))
                  have hR124 : zRx [(48, (Zc47 11 0 0 7), 7), (48, (Zc47 11 0 0 7), 6), (48, (Zc47 11 0 0 7), 4), (48, (Zc47 11 0 0 7), 3), (48, (Zc47 11 0 0 7), 2), (48, (Zc47 11 0 0 7), 1), (48, (Zc47 11 0 0 7), 0)] 0 Zc87 Ym118 := zRx_d hR120 (ac_11_7 (a := 3000) (by have q6 := zhx q6; have q7 := zhx q7; omega)) (by first | rfl | (have q6 := zhx q6; have q60 := zhx q60; have q86 := zhx q86; have q122 := zhx q122; have q123 := zhx q123; omega) | (simp only [zhx q6, zhx q60, zhx q86, zhx q122, zhx q123] <;> omega))
                  have q125 := zhd (((zu_ne (k' := 48) (b' := 0) (i' := (Zc47 11 0 0 7)) (j' := 7) hZc87 (fun q => absurd q.1 (by decide))).trans (zu_at hZc83)))
                  have q126 := zhd ((congrArg (fun x => Zc87 48 0 x 7) (show (Y 2 0 0 3000) = (Zc47 11 0 0 7) from (by have q6 := zhx q6; have q7 := zhx q7; have q61 := zhx q61; omega))).trans (zhx q125))
                  have q127 := zhd (((zuat2m (a' := 3017 + 60 * (Y 2 0 0 3000)) hYm118 (by have q6 := zhx q6; have q7 := zhx q7; have q60 := zhx q60; omega))))
                  have hR128 : zRx [(48, (Zc47 11 0 0 7), 6), (48, (Zc47 11 0 0 7), 4), (48, (Zc47 11 0 0 7), 3), (48, (Zc47 11 0 0 7), 2), (48, (Zc47 11 0 0 7), 1), (48, (Zc47 11 0 0 7), 0)] 0 Zc87 Ym118 := zRx_d hR124 (ac_48_7 (a := 3017 + 60 * (Y 2 0 0 3000)) (by have q6 := zhx q6; have q7 := zhx q7; have q61 := zhx q61; omega) (by have q6 := zhx q6; have q7 := zhx q7; have q61 := zhx q61; omega) (by have q6 := zhx q6; have q7 := zhx q7; have q61 := zhx q61; omega)) (by first | rfl | (have q6 := zhx q6; have q61 := zhx q61; have q125 := zhx q125; have q126 := zhx q126; have q127 := zhx q127; omega) | (simp only [zhx q6, zhx q61, zhx q125, zhx q126, zhx q127] <;> omega))
                  have q129 := zhd ((((zu_ne (k' := 48) (b' := 0) (i' := (Zc47 11 0 0 7)) (j' := 6) hZc87 (fun q => absurd q.1 (by decide))).trans (zu_ne (k' := 48) (b' := 0) (i' := (Zc47 11 0 0 7)) (j' := 6) hZc83 (fun q => absurd q.2.2.2 (by decide)))).trans (zu_at hZc80)))
                  have q130 := zhd ((congrArg (fun x => Zc87 48 0 x 6) (show (Y 2 0 0 3000) = (Zc47 11 0 0 7) from (by have q6 := zhx q6; have q7 := zhx q7; have q61 := zhx q61; omega))).trans (zhx q129))
                  have q131 := zhd (((zu_ne (k' := 2) (b' := 0) (i' := 0) (j' := 3016 + 60 * (Y 2 0 0 3000)) hYm118 (fun q => absurd q.2.2.2 (by have q6 := zhx q6; have q7 := zhx q7; have q60 := zhx q60; omega))).trans ((zuat2m (a' := 3016 + 60 * (Y 2 0 0 3000)) hYm114 (by have q6 := zhx q6; have q7 := zhx q7; have q60 := zhx q60; omega)))))
                  have hR132 : zRx [(48, (Zc47 11 0 0 7), 4), (48, (Zc47 11 0 0 7), 3), (48, (Zc47 11 0 0 7), 2), (48, (Zc47 11 0 0 7), 1), (48, (Zc47 11 0 0 7), 0)] 0 Zc87 Ym118 := zRx_d hR128 (ac_48_6 (a := 3016 + 60 * (Y 2 0 0 3000)) (by have q6 := zhx q6; have q7 := zhx q7; have q61 := zhx q61; omega) (by have q6 := zhx q6; have q7 := zhx q7; have q61 := zhx q61; omega) (by have q6 := zhx q6; have q7 := zhx q7; have q61 := zhx q61; omega)) (by first | rfl | (have q6 := zhx q6; have q61 := zhx q61; have q129 := zhx q129; have q130 := zhx q130; have q131 := zhx q131; omega) | (simp only [zhx q6, zhx q61, zhx q129, zhx q130, zhx q131] <;> omega))
                  have q133 := zhd (((((zu_ne (k' := 48) (b' := 0) (i' := (Zc47 11 0 0 7)) (j' := 4) hZc87 (fun q => absurd q.1 (by decide))).trans (zu_ne (k' := 48) (b' := 0) (i' := (Zc47 11 0 0 7)) (j' := 4) hZc83 (fun q => absurd q.2.2.2 (by decide)))).trans (zu_ne (k' := 48) (b' := 0) (i' := (Zc47 11 0 0 7)) (j' := 4) hZc80 (fun q => absurd q.2.2.2 (by decide)))).trans (zu_at hZc77)))
                  have q134 := zhd ((congrArg (fun x => Zc87 48 0 x 4) (show (Y 2 0 0 3000) = (Zc47 11 0 0 7) from (by have q6 := zhx q6; have q7 := zhx q7; have q61 := zhx q61; omega))).trans (zhx q133))
                  have q135 := zhd ((((zu_ne (k' := 2) (b' := 0) (i' := 0) (j' := 3014 + 60 * (Y 2 0 0 3000)) hYm118 (fun q => absurd q.2.2.2 (by have q6 := zhx q6; have q7 := zhx q7; have q60 := zhx q60; omega))).trans (zu_ne (k' := 2) (b' := 0) (i' := 0) (j' := 3014 + 60 * (Y 2 0 0 3000)) hYm114 (fun q => absurd q.2.2.2 (by have q6 := zhx q6; have q7 := zhx q7; have q60 := zhx q60; omega)))).trans ((zuat2m (a' := 3014 + 60 * (Y 2 0 0 3000)) hYm110 (by have q6 := zhx q6; have q7 := zhx q7; have q60 := zhx q60; omega)))))
                  have hR136 : zRx [(48, (Zc47 11 0 0 7), 3), (48, (Zc47 11 0 0 7), 2), (48, (Zc47 11 0 0 7), 1), (48, (Zc47 11 0 0 7), 0)] 0 Zc87 Ym118 := zRx_d hR132 (ac_48_4 (a := 3014 + 60 * (Y 2 0 0 3000)) (by have q6 := zhx q6; have q7 := zhx q7; have q61 := zhx q61; omega) (by have q6 := zhx q6; have q7 := zhx q7; have q61 := zhx q61; omega) (by have q6 := zhx q6; have q7 := zhx q7; have q61 := zhx q61; omega)) (by first | rfl | (have q6 := zhx q6; have q61 := zhx q61; have q133 := zhx q133; have q134 := zhx q134; have q135 := zhx q135; omega) | (simp only [zhx q6, zhx q61, zhx q133, zhx q134, zhx q135] <;> omega))
                  have q137 := zhd ((((((zu_ne (k' := 48) (b' := 0) (i' := (Zc47 11 0 0 7)) (j' := 3) hZc87 (fun q => absurd q.1 (by decide))).trans (zu_ne (k' := 48) (b' := 0) (i' := (Zc47 11 0 0 7)) (j' := 3) hZc83 (fun q => absurd q.2.2.2 (by decide)))).trans (zu_ne (k' := 48) (b' := 0) (i' := (Zc47 11 0 0 7)) (j' := 3) hZc80 (fun q => absurd q.2.2.2 (by decide)))).trans (zu_ne (k' := 48) (b' := 0) (i' := (Zc47 11 0 0 7)) (j' := 3) hZc77 (fun q => absurd q.2.2.2 (by decide)))).trans (zu_at hZc74)))
                  have q138 := zhd ((congrArg (fun x => Zc87 48 0 x 3) (show (Y 2 0 0 3000) = (Zc47 11 0 0 7) from (by have q6 := zhx q6; have q7 := zhx q7; have q61 := zhx q61; omega))).trans (zhx q137))
                  have q139 := zhd (((((zu_ne (k' := 2) (b' := 0) (i' := 0) (j' := 3013 + 60 * (Y 2 0 0 3000)) hYm118 (fun q => absurd q.2.2.2 (by have q6 := zhx q6; have q7 := zhx q7; have q60 := zhx q60; omega))).trans (zu_ne (k' := 2) (b' := 0) (i' := 0) (j' := 3013 + 60 * (Y 2 0 0 3000)) hYm114 (fun q => absurd q.2.2.2 (by have q6 := zhx q6; have q7 := zhx q7; have q60 := zhx q60; omega)))).trans (zu_ne (k' := 2) (b' := 0) (i' := 0) (j' := 3013 + 60 * (Y 2 0 0 3000)) hYm110 (fun q => absurd q.2.2.2 (by have q6 := zhx q6; have q7 := zhx q7; have q60 := zhx q60; omega)))).trans ((zuat2m (a' := 3013 + 60 * (Y 2 0 0 3000)) hYm106 (by have q6 := zhx q6; have q7 := zhx q7; have q60 := zhx q60; omega)))))
                  have hR140 : zRx [(48, (Zc47 11 0 0 7), 2), (48, (Zc47 11 0 0 7), 1), (48, (Zc47 11 0 0 7), 0)] 0 Zc87 Ym118 := zRx_d hR136 (ac_48_3 (a := 3013 + 60 * (Y 2 0 0 3000)) (by have q6 := zhx q6; have q7 := zhx q7; have q61 := zhx q61; omega) (by have q6 := zhx q6; have q7 := zhx q7; have q61 := zhx q61; omega) (by have q6 := zhx q6; have q7 := zhx q7; have q61 := zhx q61; omega)) (by first | rfl | (have q6 := zhx q6; have q61 := zhx q61; have q137 := zhx q137; have q138 := zhx q138; have q139 := zhx q139; omega) | (simp only [zhx q6, zhx q61, zhx q137, zhx q138, zhx q139] <;> omega))
                  have q141 := zhd (((((((zu_ne (k' := 48) (b' := 0) (i' := (Zc47 11 0 0 7)) (j' := 2) hZc87 (fun q => absurd q.1 (by decide))).trans (zu_ne (k' := 48) (b' := 0) (i' := (Zc47 11 0 0 7)) (j' := 2) hZc83 (fun q => absurd q.2.2.2 (by decide)))).trans (zu_ne (k' := 48) (b' := 0) (i' := (Zc47 11 0 0 7)) (j' := 2) hZc80 (fun q => absurd q.2.2.2 (by decide)))).trans (zu_ne (k' := 48) (b' := 0) (i' := (Zc47 11 0 0 7)) (j' := 2) hZc77 (fun q => absurd q.2.2.2 (by decide)))).trans (zu_ne (k' := 48) (b' := 0) (i' := (Zc47 11 0 0 7)) (j' := 2) hZc74 (fun q => absurd q.2.2.2 (by decide)))).trans (zu_at hZc71)))
                  have q142 := zhd ((congrArg (fun x => Zc87 48 0 x 2) (show (Y 2 0 0 3000) = (Zc47 11 0 0 7) from (by have q6 := zhx q6; have q7 := zhx q7; have q61 := zhx q61; omega))).trans (zhx q141))
                  have q143 := zhd ((((((zu_ne (k' := 2) (b' := 0) (i' := 0) (j' := 3012 + 60 * (Y 2 0 0 3000)) hYm118 (fun q => absurd q.2.2.2 (by have q6 := zhx q6; have q7 := zhx q7; have q60 := zhx q60; omega))).trans (zu_ne (k' := 2) (b' := 0) (i' := 0) (j' := 3012 + 60 * (Y 2 0 0 3000)) hYm114 (fun q => absurd q.2.2.2 (by have q6 := zhx q6; have q7 := zhx q7; have q60 := zhx q60; omega)))).trans (zu_ne (k' := 2) (b' := 0) (i' := 0) (j' := 3012 + 60 * (Y 2 0 0 3000)) hYm110 (fun q => absurd q.2.2.2 (by have q6 := zhx q6; have q7 := zhx q7; have q60 := zhx q60; omega)))).trans (zu_ne (k' := 2) (b' := 0) (i' := 0) (j' := 3012 + 60 * (Y 2 0 0 3000)) hYm106 (fun q => absurd q.2.2.2 (by have q6 := zhx q6; have q7 := zhx q7; have q60 := zhx q60; omega)))).trans ((zuat2m (a' := 3012 + 60 * (Y 2 0 0 3000)) hYm102 (by have q6 := zhx q6; have q7 := zhx q7; have q60 := zhx q60; omega)))))
                  have hR144 : zRx [(48, (Zc47 11 0 0 7), 1), (48, (Zc47 11 0 0 7), 0)] 0 Zc87 Ym118 := zRx_d hR140 (ac_48_2 (a := 3012 + 60 * (Y 2 0 0 3000)) (by have q6 := zhx q6; have q7 := zhx q7; have q61 := zhx q61; omega) (by have q6 := zhx q6; have q7 := zhx q7; have q61 := zhx q61; omega) (by have q6 := zhx q6; have q7 := zhx q7; have q61 := zhx q61; omega)) (by first | rfl | (have q6 := zhx q6; have q61 := zhx q61; have q141 := zhx q141; have q142 := zhx q142; have q143 := zhx q143; omega) | (simp only [zhx q6, zhx q61, zhx q141, zhx q142, zhx q143] <;> omega))
                  have q145 := zhd ((((((((zu_ne (k' := 48) (b' := 0) (i' := (Zc47 11 0 0 7)) (j' := 1) hZc87 (fun q => absurd q.1 (by decide))).trans (zu_ne (k' := 48) (b' := 0) (i' := (Zc47 11 0 0 7)) (j' := 1) hZc83 (fun q => absurd q.2.2.2 (by decide)))).trans (zu_ne (k' := 48) (b' := 0) (i' := (Zc47 11 0 0 7)) (j' := 1) hZc80 (fun q => absurd q.2.2.2 (by decide)))).trans (zu_ne (k' := 48) (b' := 0) (i' := (Zc47 11 0 0 7)) (j' := 1) hZc77 (fun q => absurd q.2.2.2 (by decide)))).trans (zu_ne (k' := 48) (b' := 0) (i' := (Zc47 11 0 0 7)) (j' := 1) hZc74 (fun q => absurd q.2.2.2 (by decide)))).trans (zu_ne (k' := 48) (b' := 0) (i' := (Zc47 11 0 0 7)) (j' := 1) hZc71 (fun q => absurd q.2.2.2 (by decide)))).trans (zu_at hZc68)))
                  have q146 := zhd ((congrArg (fun x => Zc87 48 0 x 1) (show (Y 2 0 0 3000) = (Zc47 11 0 0 7) from (by have q6 := zhx q6; have q7 := zhx q7; have q61 := zhx q61; omega))).trans (zhx q145))
                  have q147 := zhd (((((((zu_ne (k' := 2) (b' := 0) (i' := 0) (j' := 3011 + 60 * (Y 2 0 0 3000)) hYm118 (fun q => absurd q.2.2.2 (by have q6 := zhx q6; have q7 := zhx q7; have q60 := zhx q60; omega))).trans (zu_ne (k' := 2) (b' := 0) (i' := 0) (j' := 3011 + 60 * (Y 2 0 0 3000)) hYm114 (fun q => absurd q.2.2.2 (by have q6 := zhx q6; have q7 := zhx q7; have q60 := zhx q60; omega)))).trans (zu_ne (k' := 2) (b' := 0) (i' := 0) (j' := 3011 + 60 * (Y 2 0 0 3000)) hYm110 (fun q => absurd q.2.2.2 (by have q6 := zhx q6; have q7 := zhx q7; have q60 := zhx q60; omega)))).trans (zu_ne (k' := 2) (b' := 0) (i' := 0) (j' := 3011 + 60 * (Y 2 0 0 3000)) hYm106 (fun q => absurd q.2.2.2 (by have q6 := zhx q6; have q7 := zhx q7; have q60 := zhx q60; omega)))).trans (zu_ne (k' := 2) (b' := 0) (i' := 0) (j' := 3011 + 60 * (Y 2 0 0 3000)) hYm102 (fun q => absurd q.2.2.2 (by have q6 := zhx q6; have q7 := zhx q7; have q60 := zhx q60; omega)))).trans ((zuat2m (a' := 3011 + 60 * (Y 2 0 0 3000)) hYm98 (by have q6 := zhx q6; have q7 := zhx q7; have q60 := zhx q60; omega)))))
                  have hR148 : zRx [(48, (Zc47 11 0 0 7), 0)] 0 Zc87 Ym118 := zRx_d hR144 (ac_48_1 (a := 3011 + 60 * (Y 2 0 0 3000)) (by have q6 := zhx q6; have q7 := zhx q7; have q61 := zhx q61; omega) (by have q6 := zhx q6; have q7 := zhx q7; have q61 := zhx q61; omega) (by have q6 := zhx q6; have q7 := zhx q7; have q61 := zhx q61; omega)) (by first | rfl | (have q6 := zhx q6; have q61 := zhx q61; have q145 := zhx q145; have q146 := zhx q146; have q147 := zhx q147; omega) | (simp only [zhx q6, zhx q61, zhx q145, zhx q146, zhx q147] <;> omega))
                  have q149 := zhd (((((((((zu_ne (k' := 48) (b' := 0) (i' := (Zc47 11 0 0 7)) (j' := 0) hZc87 (fun q => absurd q.1 (by decide))).trans (zu_ne (k' := 48) (b' := 0) (i' := (Zc47 11 0 0 7)) (j' := 0) hZc83 (fun q => absurd q.2.2.2 (by decide)))).trans (zu_ne (k' := 48) (b' := 0) (i' := (Zc47 11 0 0 7)) (j' := 0) hZc80 (fun q => absurd q.2.2.2 (by decide)))).trans (zu_ne (k' := 48) (b' := 0) (i' := (Zc47 11 0 0 7)) (j' := 0) hZc77 (fun q => absurd q.2.2.2 (by decide)))).trans (zu_ne (k' := 48) (b' := 0) (i' := (Zc47 11 0 0 7)) (j' := 0) hZc74 (fun q => absurd q.2.2.2 (by decide)))).trans (zu_ne (k' := 48) (b' := 0) (i' := (Zc47 11 0 0 7)) (j' := 0) hZc71 (fun q => absurd q.2.2.2 (by decide)))).trans (zu_ne (k' := 48) (b' := 0) (i' := (Zc47 11 0 0 7)) (j' := 0) hZc68 (fun q => absurd q.2.2.2 (by decide)))).trans (zu_at hZc65)))
                  have q150 := zhd ((congrArg (fun x => Zc87 48 0 x 0) (show (Y 2 0 0 3000) = (Zc47 11 0 0 7) from (by have q6 := zhx q6; have q7 := zhx q7; have q61 := zhx q61; omega))).trans (zhx q149))
                  have q151 := zhd ((((((((zu_ne (k' := 2) (b' := 0) (i' := 0) (j' := 3010 + 60 * (Y 2 0 0 3000)) hYm118 (fun q => absurd q.2.2.2 (by have q6 := zhx q6; have q7 := zhx q7; have q60 := zhx q60; omega))).trans (zu_ne (k' := 2) (b' := 0) (i' := 0) (j' := 3010 + 60 * (Y 2 0 0 3000)) hYm114 (fun q => absurd q.2.2.2 (by have q6 := zhx q6; have q7 := zhx q7; have q60 := zhx q60; omega)))).trans (zu_ne (k' := 2) (b' := 0) (i' := 0) (j' := 3010 + 60 * (Y 2 0 0 3000)) hYm110 (fun q => absurd q.2.2.2 (by have q6 := zhx q6; have q7 := zhx q7; have q60 := zhx q60; omega)))).trans (zu_ne (k' := 2) (b' := 0) (i' := 0) (j' := 3010 + 60 * (Y 2 0 0 3000)) hYm106 (fun q => absurd q.2.2.2 (by have q6 := zhx q6; have q7 := zhx q7; have q60 := zhx q60; omega)))).trans (zu_ne (k' := 2) (b' := 0) (i' := 0) (j' := 3010 + 60 * (Y 2 0 0 3000)) hYm102 (fun q => absurd q.2.2.2 (by have q6 := zhx q6; have q7 := zhx q7; have q60 := zhx q60; omega)))).trans (zu_ne (k' := 2) (b' := 0) (i' := 0) (j' := 3010 + 60 * (Y 2 0 0 3000)) hYm98 (fun q => absurd q.2.2.2 (by have q6 := zhx q6; have q7 := zhx q7; have q60 := zhx q60; omega)))).trans ((zuat2m (a' := 3010 + 60 * (Y 2 0 0 3000)) hYm94 (by have q6 := zhx q6; have q7 := zhx q7; have q60 := zhx q60; omega)))))
                  have hR152 : zRx [] 0 Zc87 Ym118 := zRx_d hR148 (ac_48_0 (a := 3010 + 60 * (Y 2 0 0 3000)) (by have q6 := zhx q6; have q7 := zhx q7; have q61 := zhx q61; omega) (by have q6 := zhx q6; have q7 := zhx q7; have q61 := zhx q61; omega) (by have q6 := zhx q6; have q7 := zhx q7; have q61 := zhx q61; omega)) (by first | rfl | (have q6 := zhx q6; have q61 := zhx q61; have q149 := zhx q149; have q150 := zhx q150; have q151 := zhx q151; omega) | (simp only [zhx q6, zhx q61, zhx q149, zhx q150, zhx q151] <;> omega))
                  have e9 : Ym118 = Yr63 := Eq.symm (show Yr63 = _ from congrArg (fun x9 => x9.1) (show _ = _ from g62))
                  subst e9
                  have e9 : (Ym48 2 0 0 3000) = v64 := Eq.symm (show v64 = _ from congrArg (fun x9 => x9.2) (show _ = _ from g62))
                  subst e9
                  have th9 := ((((((((((zu_ne (k' := 1) (b' := 0) (i' := 0) (j' := 2) hYm118 (fun q => absurd q.1 (by decide))).trans (zu_ne (k' := 1) (b' := 0) (i' := 0) (j' := 2) hYm114 (fun q => absurd q.1 (by decide)))).trans (zu_ne (k' := 1) (b' := 0) (i' := 0) (j' := 2) hYm110 (fun q => absurd q.1 (by decide)))).trans (zu_ne (k' := 1) (b' := 0) (i' := 0) (j' := 2) hYm106 (fun q => absurd q.1 (by decide)))).trans (zu_ne (k' := 1) (b' := 0) (i' := 0) (j' := 2) hYm102 (fun q => absurd q.1 (by decide)))).trans (zu_ne (k' := 1) (b' := 0) (i' := 0) (j' := 2) hYm98 (fun q => absurd q.1 (by decide)))).trans (zu_ne (k' := 1) (b' := 0) (i' := 0) (j' := 2) hYm94 (fun q => absurd q.1 (by decide)))).trans (zu_ne (k' := 1) (b' := 0) (i' := 0) (j' := 2) hYm90 (fun q => absurd q.1 (by decide)))).trans (zTh_dm hd hYm48 (by decide))).trans (zu_at hYm43))
                  obtain rfl : C = _ := hC
                  obtain rfl : M = _ := hM
                  exact ⟨zRx_1 hR152, hV119, ⟨Zc47, Ym48, .inr ⟨14, a1, a2, a3, a4, a5, 0, 15, Ym43, hZc47, yFr_w hG46 (by decide), hYm48, (by unfold zcode; omega)⟩, zFc_w hF89 (by decide), yFr_w hG121 (by decide)⟩, zThr_a th9 (by first | rfl | (have q6 := zhx q6; have q7 := zhx q7; have q60 := zhx q60; have q86 := zhx q86; omega) | (simp only [zhx q6, zhx q7, zhx q60, zhx q86] <;> omega) | (have q6 := zhx q6; have q7 := zhx q7; have q60 := zhx q60; have q86 := zhx q86; refine w3z ?_ ?_ ?_ <;> omega) | (have q6 := zhx q6; have q7 := zhx q7; have q60 := zhx q60; have q86 := zhx q86; refine w3y ?_ ?_ ?_ <;> omega) | (have q6 := zhx q6; have q7 := zhx q7; have q60 := zhx q60; have q86 := zhx q86; refine z2o ?_ ?_ ?_ <;> omega))⟩
          · replace hM := zE_n hM (by omega)
            replace hM := zE_n hM (by omega)
            replace hM := zE_n hM (by omega)
            rcases zE_c hM with ⟨h153, hM⟩ | ⟨h153, hM⟩
            · obtain ⟨Ym154, hYm154, hM⟩ := zl_x hM
              have hR155 : zRx [] 0 Z Ym154 := zRx_o hRb hYm154 rfl
              have hV156 : zV Ym154 := zV_o hV hYm154 rfl
              have hG157 := yFr_o hG hYm154 rfl (.inr rfl) rfl
              have th9 := (zu_at hYm154)
              obtain rfl : C = _ := hC
              obtain rfl : M = _ := hM
              exact ⟨zRx_1 hR155, hV156, ⟨Z, _, .inl ⟨rfl, yFr_w hG157 (by decide)⟩, zFc_r, yFr_r⟩, zThr_e th9 (by decide)⟩
            · rcases zE_c hM with ⟨h158, hM⟩ | ⟨h158, hM⟩
              · obtain ⟨Ym159, hYm159, hM⟩ := zl_x hM
                have hR160 : zRx [] 0 Z Ym159 := zRx_o hRb hYm159 rfl
                have hV161 : zV Ym159 := zV_o hV hYm159 rfl
                have hG162 := yFr_o hG hYm159 rfl (.inr rfl) rfl
                have th9 := (zu_at hYm159)
                obtain rfl : C = _ := hC
                obtain rfl : M = _ := hM
                exact ⟨zRx_1 hR160, hV161, ⟨Z, _, .inl ⟨rfl, yFr_w hG162 (by decide)⟩, zFc_r, yFr_r⟩, zThr_e th9 (by decide)⟩
              · replace hM := zE_n hM (by omega)
                replace hM := zE_n hM (by omega)
                replace hM := zE_n hM (by omega)
                replace hM := zE_n hM (by omega)
                rcases zE_c hM with ⟨h163, hM⟩ | ⟨h163, hM⟩
                · obtain ⟨Ym164, hYm164, hM⟩ := zl_x hM
                  have hR165 : zRx [] 0 Z Ym164 := zRx_o hRb hYm164 rfl
                  have hV166 : zV Ym164 := zV_o hV hYm164 rfl
                  have hG167 := yFr_o hG hYm164 rfl (.inr rfl) rfl
                  have th9 := (zu_at hYm164)
                  obtain rfl : C = _ := hC
                  obtain rfl : M = _ := hM
                  exact ⟨zRx_1 hR165, hV166, ⟨Z, _, .inl ⟨rfl, yFr_w hG167 (by decide)⟩, zFc_r, yFr_r⟩, zThr_e th9 (by decide)⟩
                · rcases zE_c hM with ⟨h168, hM⟩ | ⟨h168, hM⟩
                  · obtain ⟨Ym169, hYm169, hM⟩ := zl_x hM
                    have hR170 : zRx [] 0 Z Ym169 := zRx_o hRb hYm169 rfl
                    have hV171 : zV Ym169 := zV_o hV hYm169 rfl
                    have hG172 := yFr_o hG hYm169 rfl (.inr rfl) rfl
                    have th9 := (zu_at hYm169)
                    obtain rfl : C = _ := hC
                    obtain rfl : M = _ := hM
                    exact ⟨zRx_1 hR170, hV171, ⟨Z, _, .inl ⟨rfl, yFr_w hG172 (by decide)⟩, zFc_r, yFr_r⟩, zThr_e th9 (by decide)⟩
                  · obtain ⟨Ym173, hYm173, hM⟩ := zl_x hM
                    have hR174 : zRx [] 0 Z Ym173 := zRx_o hRb hYm173 rfl
                    have hV175 : zV Ym173 := zV_o hV hYm173 rfl
                    have hG176 := yFr_o hG hYm173 rfl (.inr rfl) rfl
                    have q177 := zhd (zVr_11_7 (a := 3000) hV (by omega))
                    have q178 := zhd ((zu_ne (k' := 2) (b' := 0) (i' := 0) (j' := 3000) hYm173 (fun q => absurd q.1 (by decide))))
                    rcases zE_c hM with ⟨h179, hM⟩ | ⟨h179, hM⟩
                    · obtain ⟨Ym180, hYm180, hM⟩ := zl_x hM
                      have hR181 : zRx [] 0 Z Ym180 := zRx_o hR174 hYm180 rfl
                      have hV182 : zV Ym180 := zV_o hV175 hYm180 rfl
                      have hG183 := yFr_o hG176 hYm180 rfl (.inr rfl) rfl
                      exact False.elim (by have q177 := zhx q177; have q178 := zhx q178; first | omega | grind)
                    · obtain ⟨Ym184, hYm184, hM⟩ := zl_x hM
                      have hR185 : zRx [] 0 Z Ym184 := zRx_o hR174 hYm184 rfl
                      have hV186 : zV Ym184 := zV_o hV175 hYm184 rfl
                      have hG187 := yFr_o hG176 hYm184 rfl (.inr rfl) rfl
                      exact False.elim (by have q177 := zhx q177; have q178 := zhx q178; first | omega | grind)
        · replace hM := zE_n hM (by omega)
          replace hM := zE_n hM (by omega)
          replace hM := zE_n hM (by omega)
          rcases zE_c hM with ⟨h188, hM⟩ | ⟨h188, hM⟩
          · obtain ⟨Ym189, hYm189, hM⟩ := zl_x hM
            have hR190 : zRx [] 0 Z Ym189 := zRx_o hRb hYm189 rfl
            have hV191 : zV Ym189 := zV_o hV hYm189 rfl
            have hG192 := yFr_o hG hYm189 rfl (.inr rfl) rfl
            have th9 := (zu_at hYm189)
            obtain rfl : C = _ := hC
            obtain rfl : M = _ := hM
            exact ⟨zRx_1 hR190, hV191, ⟨Z, _, .inl ⟨rfl, yFr_w hG192 (by decide)⟩, zFc_r, yFr_r⟩, zThr_e th9 (by decide)⟩
          · rcases zE_c hM with ⟨h193, hM⟩ | ⟨h193, hM⟩
            · obtain ⟨Ym194, hYm194, hM⟩ := zl_x hM
              have hR195 : zRx [] 0 Z Ym194 := zRx_o hRb hYm194 rfl
              have hV196 : zV Ym194 := zV_o hV hYm194 rfl
              have hG197 := yFr_o hG hYm194 rfl (.inr rfl) rfl
              have th9 := (zu_at hYm194)
              obtain rfl : C = _ := hC
              obtain rfl : M = _ := hM
              exact ⟨zRx_1 hR195, hV196, ⟨Z, _, .inl ⟨rfl, yFr_w hG197 (by decide)⟩, zFc_r, yFr_r⟩, zThr_e th9 (by decide)⟩
            · replace hM := zE_n hM (by omega)
              replace hM := zE_n hM (by omega)
              rcases zE_c hM with ⟨h198, hM⟩ | ⟨h198, hM⟩
              · obtain ⟨Ym199, hYm199, hM⟩ := zl_x hM
                have hR200 : zRx [] 0 Z Ym199 := zRx_o hRb hYm199 rfl
                have hV201 : zV Ym199 := zV_o hV hYm199 rfl
                have hG202 := yFr_o hG hYm199 rfl (.inr rfl) rfl
                have th9 := (zu_at hYm199)
                obtain rfl : C = _ := hC
                obtain rfl : M = _ := hM
                exact ⟨zRx_1 hR200, hV201, ⟨Z, _, .inl ⟨rfl, yFr_w hG202 (by decide)⟩, zFc_r, yFr_r⟩, zThr_e th9 (by decide)⟩
              · rcases zE_c hM with ⟨h203, hM⟩ | ⟨h203, hM⟩
                · obtain ⟨Ym204, hYm204, hM⟩ := zl_x hM
                  have hR205 : zRx [] 0 Z Ym204 := zRx_o hRb hYm204 rfl
                  have hV206 : zV Ym204 := zV_o hV hYm204 rfl
                  have hG207 := yFr_o hG hYm204 rfl (.inr rfl) rfl
                  have th9 := (zu_at hYm204)
                  obtain rfl : C = _ := hC
                  obtain rfl : M = _ := hM
                  exact ⟨zRx_1 hR205, hV206, ⟨Z, _, .inl ⟨rfl, yFr_w hG207 (by decide)⟩, zFc_r, yFr_r⟩, zThr_e th9 (by decide)⟩
                · rcases zE_c hM with ⟨h208, hM⟩ | ⟨h208, hM⟩
                  · obtain ⟨Ym209, hYm209, hM⟩ := zl_x hM
                    have hR210 : zRx [] 0 Z Ym209 := zRx_o hRb hYm209 rfl
                    have hV211 : zV Ym209 := zV_o hV hYm209 rfl
                    have hG212 := yFr_o hG hYm209 rfl (.inr rfl) rfl
                    have th9 := (zu_at hYm209)
                    obtain rfl : C = _ := hC
                    obtain rfl : M = _ := hM
                    exact ⟨zRx_1 hR210, hV211, ⟨Z, _, .inl ⟨rfl, yFr_w hG212 (by decide)⟩, zFc_r, yFr_r⟩, zThr_e th9 (by decide)⟩
                  · rcases zE_c hM with ⟨h213, hM⟩ | ⟨h213, hM⟩
                    · obtain ⟨Ym214, hYm214, hM⟩ := zl_x hM
                      have hR215 : zRx [] 0 Z Ym214 := zRx_o hRb hYm214 rfl
                      have hV216 : zV Ym214 := zV_o hV hYm214 rfl
                      have hG217 := yFr_o hG hYm214 rfl (.inr rfl) rfl
                      have th9 := (zu_at hYm214)
                      obtain rfl : C = _ := hC
                      obtain rfl : M = _ := hM
                      exact ⟨zRx_1 hR215, hV216, ⟨Z, _, .inl ⟨rfl, yFr_w hG217 (by decide)⟩, zFc_r, yFr_r⟩, zThr_e th9 (by decide)⟩
                    · obtain ⟨Ym218, hYm218, hM⟩ := zl_x hM
                      have hR219 : zRx [] 0 Z Ym218 := zRx_o hRb hYm218 rfl
                      have hV220 : zV Ym218 := zV_o hV hYm218 rfl
                      have hG221 := yFr_o hG hYm218 rfl (.inr rfl) rfl
                      have q222 := zhd (zVr_11_7 (a := 3000) hV (by omega))
                      have q223 := zhd ((zu_ne (k' := 2) (b' := 0) (i' := 0) (j' := 3000) hYm218 (fun q => absurd q.1 (by decide))))
                      rcases zE_c hM with ⟨h224, hM⟩ | ⟨h224, hM⟩
                      · obtain ⟨Ym225, hYm225, hM⟩ := zl_x hM
                        have hR226 : zRx [] 0 Z Ym225 := zRx_o hR219 hYm225 rfl
                        have hV227 : zV Ym225 := zV_o hV220 hYm225 rfl
                        have hG228 := yFr_o hG221 hYm225 rfl (.inr rfl) rfl
                        exact False.elim (by have q222 := zhx q222; have q223 := zhx q223; first | omega | grind)
                      · obtain ⟨Ym229, hYm229, hM⟩ := zl_x hM
                        have hR230 : zRx [] 0 Z Ym229 := zRx_o hR219 hYm229 rfl
                        have hV231 : zV Ym229 := zV_o hV220 hYm229 rfl
                        have hG232 := yFr_o hG221 hYm229 rfl (.inr rfl) rfl
                        exact False.elim (by have q222 := zhx q222; have q223 := zhx q223; first | omega | grind)
      · replace hM := zE_n hM (by omega)
        replace hM := zE_n hM (by omega)
        replace hM := zE_n hM (by omega)
        rcases zE_c hM with ⟨h233, hM⟩ | ⟨h233, hM⟩
        · obtain ⟨Ym234, hYm234, hM⟩ := zl_x hM
          have hR235 : zRx [] 0 Z Ym234 := zRx_o hRb hYm234 rfl
          have hV236 : zV Ym234 := zV_o hV hYm234 rfl
          have hG237 := yFr_o hG hYm234 rfl (.inr rfl) rfl
          have th9 := (zu_at hYm234)
          obtain rfl : C = _ := hC
          obtain rfl : M = _ := hM
          exact ⟨zRx_1 hR235, hV236, ⟨Z, _, .inl ⟨rfl, yFr_w hG237 (by decide)⟩, zFc_r, yFr_r⟩, zThr_e th9 (by decide)⟩
        · rcases zE_c hM with ⟨h238, hM⟩ | ⟨h238, hM⟩
          · obtain ⟨Ym239, hYm239, hM⟩ := zl_x hM
            have hR240 : zRx [] 0 Z Ym239 := zRx_o hRb hYm239 rfl
            have hV241 : zV Ym239 := zV_o hV hYm239 rfl
            have hG242 := yFr_o hG hYm239 rfl (.inr rfl) rfl
            have th9 := (zu_at hYm239)
            obtain rfl : C = _ := hC
            obtain rfl : M = _ := hM
            exact ⟨zRx_1 hR240, hV241, ⟨Z, _, .inl ⟨rfl, yFr_w hG242 (by decide)⟩, zFc_r, yFr_r⟩, zThr_e th9 (by decide)⟩
          · rcases zE_c hM with ⟨h243, hM⟩ | ⟨h243, hM⟩
            · obtain ⟨Ym244, hYm244, hM⟩ := zl_x hM
              have hR245 : zRx [] 0 Z Ym244 := zRx_o hRb hYm244 rfl
              have hV246 : zV Ym244 := zV_o hV hYm244 rfl
              have hG247 := yFr_o hG hYm244 rfl (.inr rfl) rfl
              have th9 := (zu_at hYm244)
              obtain rfl : C = _ := hC
              obtain rfl : M = _ := hM
              exact ⟨zRx_1 hR245, hV246, ⟨Z, _, .inl ⟨rfl, yFr_w hG247 (by decide)⟩, zFc_r, yFr_r⟩, zThr_e th9 (by decide)⟩
            · rcases zE_c hM with ⟨h248, hM⟩ | ⟨h248, hM⟩
              · obtain ⟨Ym249, hYm249, hM⟩ := zl_x hM
                have hR250 : zRx [] 0 Z Ym249 := zRx_o hRb hYm249 rfl
                have hV251 : zV Ym249 := zV_o hV hYm249 rfl
                have hG252 := yFr_o hG hYm249 rfl (.inr rfl) rfl
                have th9 := (zu_at hYm249)
                obtain rfl : C = _ := hC
                obtain rfl : M = _ := hM
                exact ⟨zRx_1 hR250, hV251, ⟨Z, _, .inl ⟨rfl, yFr_w hG252 (by decide)⟩, zFc_r, yFr_r⟩, zThr_e th9 (by decide)⟩
              · rcases zE_c hM with ⟨h253, hM⟩ | ⟨h253, hM⟩
                · obtain ⟨Ym254, hYm254, hM⟩ := zl_x hM
                  have hR255 : zRx [] 0 Z Ym254 := zRx_o hRb hYm254 rfl
                  have hV256 : zV Ym254 := zV_o hV hYm254 rfl
                  have hG257 := yFr_o hG hYm254 rfl (.inr rfl) rfl
                  have th9 := (zu_at hYm254)
                  obtain rfl : C = _ := hC
                  obtain rfl : M = _ := hM
                  exact ⟨zRx_1 hR255, hV256, ⟨Z, _, .inl ⟨rfl, yFr_w hG257 (by decide)⟩, zFc_r, yFr_r⟩, zThr_e th9 (by decide)⟩
                · rcases zE_c hM with ⟨h258, hM⟩ | ⟨h258, hM⟩
                  · obtain ⟨Ym259, hYm259, hM⟩ := zl_x hM
                    have hR260 : zRx [] 0 Z Ym259 := zRx_o hRb hYm259 rfl
                    have hV261 : zV Ym259 := zV_o hV hYm259 rfl
                    have hG262 := yFr_o hG hYm259 rfl (.inr rfl) rfl
                    have th9 := (zu_at hYm259)
                    obtain rfl : C = _ := hC
                    obtain rfl : M = _ := hM
                    exact ⟨zRx_1 hR260, hV261, ⟨Z, _, .inl ⟨rfl, yFr_w hG262 (by decide)⟩, zFc_r, yFr_r⟩, zThr_e th9 (by decide)⟩
                  · rcases zE_c hM with ⟨h263, hM⟩ | ⟨h263, hM⟩
                    · obtain ⟨Ym264, hYm264, hM⟩ := zl_x hM
                      have hR265 : zRx [] 0 Z Ym264 := zRx_o hRb hYm264 rfl
                      have hV266 : zV Ym264 := zV_o hV hYm264 rfl
                      have hG267 := yFr_o hG hYm264 rfl (.inr rfl) rfl
                      have th9 := (zu_at hYm264)
                      obtain rfl : C = _ := hC
                      obtain rfl : M = _ := hM
                      exact ⟨zRx_1 hR265, hV266, ⟨Z, _, .inl ⟨rfl, yFr_w hG267 (by decide)⟩, zFc_r, yFr_r⟩, zThr_e th9 (by decide)⟩
                    · rcases zE_c hM with ⟨h268, hM⟩ | ⟨h268, hM⟩
                      · obtain ⟨Ym269, hYm269, hM⟩ := zl_x hM
                        have hR270 : zRx [] 0 Z Ym269 := zRx_o hRb hYm269 rfl
                        have hV271 : zV Ym269 := zV_o hV hYm269 rfl
                        have hG272 := yFr_o hG hYm269 rfl (.inr rfl) rfl
                        have th9 := (zu_at hYm269)
                        obtain rfl : C = _ := hC
                        obtain rfl : M = _ := hM
                        exact ⟨zRx_1 hR270, hV271, ⟨Z, _, .inl ⟨rfl, yFr_w hG272 (by decide)⟩, zFc_r, yFr_r⟩, zThr_e th9 (by decide)⟩
                      · obtain ⟨Ym273, hYm273, hM⟩ := zl_x hM
                        have hR274 : zRx [] 0 Z Ym273 := zRx_o hRb hYm273 rfl
                        have hV275 : zV Ym273 := zV_o hV hYm273 rfl
                        have hG276 := yFr_o hG hYm273 rfl (.inr rfl) rfl
                        have q277 := zhd (zVr_11_7 (a := 3000) hV (by omega))
                        have q278 := zhd ((zu_ne (k' := 2) (b' := 0) (i' := 0) (j' := 3000) hYm273 (fun q => absurd q.1 (by decide))))
                        rcases zE_c hM with ⟨h279, hM⟩ | ⟨h279, hM⟩
                        · obtain ⟨Ym280, hYm280, hM⟩ := zl_x hM
                          have hR281 : zRx [] 0 Z Ym280 := zRx_o hR274 hYm280 rfl
                          have hV282 : zV Ym280 := zV_o hV275 hYm280 rfl
                          have hG283 := yFr_o hG276 hYm280 rfl (.inr rfl) rfl
                          exact False.elim (by have q277 := zhx q277; have q278 := zhx q278; first | omega | grind)
                        · obtain ⟨Ym284, hYm284, hM⟩ := zl_x hM
                          have hR285 : zRx [] 0 Z Ym284 := zRx_o hR274 hYm284 rfl
                          have hV286 : zV Ym284 := zV_o hV275 hYm284 rfl
                          have hG287 := yFr_o hG276 hYm284 rfl (.inr rfl) rfl
                          exact False.elim (by have q277 := zhx q277; have q278 := zhx q278; first | omega | grind)
    · replace hM := zE_n hM (by omega)
      replace hM := zE_n hM (by omega)
      rcases zE_c hM with ⟨h288, hM⟩ | ⟨h288, hM⟩
      · obtain ⟨Ym289, hYm289, hM⟩ := zl_x hM
        have hR290 : zRx [] 0 Z Ym289 := zRx_o hRb hYm289 rfl
        have hV291 : zV Ym289 := zV_o hV hYm289 rfl
        have hG292 := yFr_o hG hYm289 rfl (.inr rfl) rfl
        have th9 := (zu_at hYm289)
        obtain rfl : C = _ := hC
        obtain rfl : M = _ := hM
        exact ⟨zRx_1 hR290, hV291, ⟨Z, _, .inl ⟨rfl, yFr_w hG292 (by decide)⟩, zFc_r, yFr_r⟩, zThr_e th9 (by decide)⟩
      · rcases zE_c hM with ⟨h293, hM⟩ | ⟨h293, hM⟩
        · obtain ⟨Ym294, hYm294, hM⟩ := zl_x hM
          have hR295 : zRx [] 0 Z Ym294 := zRx_o hRb hYm294 rfl
          have hV296 : zV Ym294 := zV_o hV hYm294 rfl
          have hG297 := yFr_o hG hYm294 rfl (.inr rfl) rfl
          have th9 := (zu_at hYm294)
          obtain rfl : C = _ := hC
          obtain rfl : M = _ := hM
          exact ⟨zRx_1 hR295, hV296, ⟨Z, _, .inl ⟨rfl, yFr_w hG297 (by decide)⟩, zFc_r, yFr_r⟩, zThr_e th9 (by decide)⟩
        · rcases zE_c hM with ⟨h298, hM⟩ | ⟨h298, hM⟩
          · obtain ⟨Ym299, hYm299, hM⟩ := zl_x hM
            have hR300 : zRx [] 0 Z Ym299 := zRx_o hRb hYm299 rfl
            have hV301 : zV Ym299 := zV_o hV hYm299 rfl
            have hG302 := yFr_o hG hYm299 rfl (.inr rfl) rfl
            have th9 := (zu_at hYm299)
            obtain rfl : C = _ := hC
            obtain rfl : M = _ := hM
            exact ⟨zRx_1 hR300, hV301, ⟨Z, _, .inl ⟨rfl, yFr_w hG302 (by decide)⟩, zFc_r, yFr_r⟩, zThr_e th9 (by decide)⟩
          · rcases zE_c hM with ⟨h303, hM⟩ | ⟨h303, hM⟩
            · obtain ⟨Ym304, hYm304, hM⟩ := zl_x hM
              have hR305 : zRx [] 0 Z Ym304 := zRx_o hRb hYm304 rfl
              have hV306 : zV Ym304 := zV_o hV hYm304 rfl
              have hG307 := yFr_o hG hYm304 rfl (.inr rfl) rfl
              have th9 := (zu_at hYm304)
              obtain rfl : C = _ := hC
              obtain rfl : M = _ := hM
              exact ⟨zRx_1 hR305, hV306, ⟨Z, _, .inl ⟨rfl, yFr_w hG307 (by decide)⟩, zFc_r, yFr_r⟩, zThr_e th9 (by decide)⟩
            · rcases zE_c hM with ⟨h308, hM⟩ | ⟨h308, hM⟩
              · obtain ⟨Ym309, hYm309, hM⟩ := zl_x hM
                have hR310 : zRx [] 0 Z Ym309 := zRx_o hRb hYm309 rfl
                have hV311 : zV Ym309 := zV_o hV hYm309 rfl
                have hG312 := yFr_o hG hYm309 rfl (.inr rfl) rfl
                have th9 := (zu_at hYm309)
                obtain rfl : C = _ := hC
                obtain rfl : M = _ := hM
                exact ⟨zRx_1 hR310, hV311, ⟨Z, _, .inl ⟨rfl, yFr_w hG312 (by decide)⟩, zFc_r, yFr_r⟩, zThr_e th9 (by decide)⟩
              · rcases zE_c hM with ⟨h313, hM⟩ | ⟨h313, hM⟩
                · obtain ⟨Ym314, hYm314, hM⟩ := zl_x hM
                  have hR315 : zRx [] 0 Z Ym314 := zRx_o hRb hYm314 rfl
                  have hV316 : zV Ym314 := zV_o hV hYm314 rfl
                  have hG317 := yFr_o hG hYm314 rfl (.inr rfl) rfl
                  have th9 := (zu_at hYm314)
                  obtain rfl : C = _ := hC
                  obtain rfl : M = _ := hM
                  exact ⟨zRx_1 hR315, hV316, ⟨Z, _, .inl ⟨rfl, yFr_w hG317 (by decide)⟩, zFc_r, yFr_r⟩, zThr_e th9 (by decide)⟩
                · rcases zE_c hM with ⟨h318, hM⟩ | ⟨h318, hM⟩
                  · obtain ⟨Ym319, hYm319, hM⟩ := zl_x hM
                    have hR320 : zRx [] 0 Z Ym319 := zRx_o hRb hYm319 rfl
                    have hV321 : zV Ym319 := zV_o hV hYm319 rfl
                    have hG322 := yFr_o hG hYm319 rfl (.inr rfl) rfl
                    have th9 := (zu_at hYm319)
                    obtain rfl : C = _ := hC
                    obtain rfl : M = _ := hM
                    exact ⟨zRx_1 hR320, hV321, ⟨Z, _, .inl ⟨rfl, yFr_w hG322 (by decide)⟩, zFc_r, yFr_r⟩, zThr_e th9 (by decide)⟩
                  · rcases zE_c hM with ⟨h323, hM⟩ | ⟨h323, hM⟩
                    · obtain ⟨Ym324, hYm324, hM⟩ := zl_x hM
                      have hR325 : zRx [] 0 Z Ym324 := zRx_o hRb hYm324 rfl
                      have hV326 : zV Ym324 := zV_o hV hYm324 rfl
                      have hG327 := yFr_o hG hYm324 rfl (.inr rfl) rfl
                      have th9 := (zu_at hYm324)
                      obtain rfl : C = _ := hC
                      obtain rfl : M = _ := hM
                      exact ⟨zRx_1 hR325, hV326, ⟨Z, _, .inl ⟨rfl, yFr_w hG327 (by decide)⟩, zFc_r, yFr_r⟩, zThr_e th9 (by decide)⟩
                    · rcases zE_c hM with ⟨h328, hM⟩ | ⟨h328, hM⟩
                      · obtain ⟨Ym329, hYm329, hM⟩ := zl_x hM
                        have hR330 : zRx [] 0 Z Ym329 := zRx_o hRb hYm329 rfl
                        have hV331 : zV Ym329 := zV_o hV hYm329 rfl
                        have hG332 := yFr_o hG hYm329 rfl (.inr rfl) rfl
                        have th9 := (zu_at hYm329)
                        obtain rfl : C = _ := hC
                        obtain rfl : M = _ := hM
                        exact ⟨zRx_1 hR330, hV331, ⟨Z, _, .inl ⟨rfl, yFr_w hG332 (by decide)⟩, zFc_r, yFr_r⟩, zThr_e th9 (by decide)⟩
                      · obtain ⟨Ym333, hYm333, hM⟩ := zl_x hM
                        have hR334 : zRx [] 0 Z Ym333 := zRx_o hRb hYm333 rfl
                        have hV335 : zV Ym333 := zV_o hV hYm333 rfl
                        have hG336 := yFr_o hG hYm333 rfl (.inr rfl) rfl
                        have q337 := zhd (zVr_11_7 (a := 3000) hV (by omega))
                        have q338 := zhd ((zu_ne (k' := 2) (b' := 0) (i' := 0) (j' := 3000) hYm333 (fun q => absurd q.1 (by decide))))
                        rcases zE_c hM with ⟨h339, hM⟩ | ⟨h339, hM⟩
                        · obtain ⟨Ym340, hYm340, hM⟩ := zl_x hM
                          have hR341 : zRx [] 0 Z Ym340 := zRx_o hR334 hYm340 rfl
                          have hV342 : zV Ym340 := zV_o hV335 hYm340 rfl
                          have hG343 := yFr_o hG336 hYm340 rfl (.inr rfl) rfl
                          exact False.elim (by have q337 := zhx q337; have q338 := zhx q338; first | omega | grind)
                        · obtain ⟨Ym344, hYm344, hM⟩ := zl_x hM
                          have hR345 : zRx [] 0 Z Ym344 := zRx_o hR334 hYm344 rfl
                          have hV346 : zV Ym344 := zV_o hV335 hYm344 rfl
                          have hG347 := yFr_o hG336 hYm344 rfl (.inr rfl) rfl
                          exact False.elim (by have q337 := zhx q337; have q338 := zhx q338; first | omega | grind)
  · rcases zE_c hM with ⟨h348, hM⟩ | ⟨h348, hM⟩
    · obtain ⟨Ym349, hYm349, hM⟩ := zl_x hM
      have hR350 : zRx [] 0 Z Ym349 := zRx_o hRb hYm349 rfl
      have hV351 : zV Ym349 := zV_o hV hYm349 rfl
      have hG352 := yFr_o hG hYm349 rfl (.inr rfl) rfl
      have th9 := (zu_at hYm349)
      obtain rfl : C = _ := hC
      obtain rfl : M = _ := hM
      exact ⟨zRx_1 hR350, hV351, ⟨Z, _, .inl ⟨rfl, yFr_w hG352 (by decide)⟩, zFc_r, yFr_r⟩, zThr_e th9 (by decide)⟩
    · rcases zE_c hM with ⟨h353, hM⟩ | ⟨h353, hM⟩
      · obtain ⟨Ym354, hYm354, hM⟩ := zl_x hM
        have hR355 : zRx [] 0 Z Ym354 := zRx_o hRb hYm354 rfl
        have hV356 : zV Ym354 := zV_o hV hYm354 rfl
        have hG357 := yFr_o hG hYm354 rfl (.inr rfl) rfl
        have th9 := (zu_at hYm354)
        obtain rfl : C = _ := hC
        obtain rfl : M = _ := hM
        exact ⟨zRx_1 hR355, hV356, ⟨Z, _, .inl ⟨rfl, yFr_w hG357 (by decide)⟩, zFc_r, yFr_r⟩, zThr_e th9 (by decide)⟩
      · rcases zE_c hM with ⟨h358, hM⟩ | ⟨h358, hM⟩
        · obtain ⟨Ym359, hYm359, hM⟩ := zl_x hM
          have hR360 : zRx [] 0 Z Ym359 := zRx_o hRb hYm359 rfl
          have hV361 : zV Ym359 := zV_o hV hYm359 rfl
          have hG362 := yFr_o hG hYm359 rfl (.inr rfl) rfl
          have th9 := (zu_at hYm359)
          obtain rfl : C = _ := hC
          obtain rfl : M = _ := hM
          exact ⟨zRx_1 hR360, hV361, ⟨Z, _, .inl ⟨rfl, yFr_w hG362 (by decide)⟩, zFc_r, yFr_r⟩, zThr_e th9 (by decide)⟩
        · rcases zE_c hM with ⟨h363, hM⟩ | ⟨h363, hM⟩
          · obtain ⟨Ym364, hYm364, hM⟩ := zl_x hM
            have hR365 : zRx [] 0 Z Ym364 := zRx_o hRb hYm364 rfl
            have hV366 : zV Ym364 := zV_o hV hYm364 rfl
            have hG367 := yFr_o hG hYm364 rfl (.inr rfl) rfl
            have th9 := (zu_at hYm364)
            obtain rfl : C = _ := hC
            obtain rfl : M = _ := hM
            exact ⟨zRx_1 hR365, hV366, ⟨Z, _, .inl ⟨rfl, yFr_w hG367 (by decide)⟩, zFc_r, yFr_r⟩, zThr_e th9 (by decide)⟩
          · rcases zE_c hM with ⟨h368, hM⟩ | ⟨h368, hM⟩
            · obtain ⟨Ym369, hYm369, hM⟩ := zl_x hM
              have hR370 : zRx [] 0 Z Ym369 := zRx_o hRb hYm369 rfl
              have hV371 : zV Ym369 := zV_o hV hYm369 rfl
              have hG372 := yFr_o hG hYm369 rfl (.inr rfl) rfl
              have th9 := (zu_at hYm369)
              obtain rfl : C = _ := hC
              obtain rfl : M = _ := hM
              exact ⟨zRx_1 hR370, hV371, ⟨Z, _, .inl ⟨rfl, yFr_w hG372 (by decide)⟩, zFc_r, yFr_r⟩, zThr_e th9 (by decide)⟩
            · rcases zE_c hM with ⟨h373, hM⟩ | ⟨h373, hM⟩
              · obtain ⟨Ym374, hYm374, hM⟩ := zl_x hM
                have hR375 : zRx [] 0 Z Ym374 := zRx_o hRb hYm374 rfl
                have hV376 : zV Ym374 := zV_o hV hYm374 rfl
                have hG377 := yFr_o hG hYm374 rfl (.inr rfl) rfl
                have th9 := (zu_at hYm374)
                obtain rfl : C = _ := hC
                obtain rfl : M = _ := hM
                exact ⟨zRx_1 hR375, hV376, ⟨Z, _, .inl ⟨rfl, yFr_w hG377 (by decide)⟩, zFc_r, yFr_r⟩, zThr_e th9 (by decide)⟩
              · rcases zE_c hM with ⟨h378, hM⟩ | ⟨h378, hM⟩
                · obtain ⟨Ym379, hYm379, hM⟩ := zl_x hM
                  have hR380 : zRx [] 0 Z Ym379 := zRx_o hRb hYm379 rfl
                  have hV381 : zV Ym379 := zV_o hV hYm379 rfl
                  have hG382 := yFr_o hG hYm379 rfl (.inr rfl) rfl
                  have th9 := (zu_at hYm379)
                  obtain rfl : C = _ := hC
                  obtain rfl : M = _ := hM
                  exact ⟨zRx_1 hR380, hV381, ⟨Z, _, .inl ⟨rfl, yFr_w hG382 (by decide)⟩, zFc_r, yFr_r⟩, zThr_e th9 (by decide)⟩
                · rcases zE_c hM with ⟨h383, hM⟩ | ⟨h383, hM⟩
                  · obtain ⟨Ym384, hYm384, hM⟩ := zl_x hM
                    have hR385 : zRx [] 0 Z Ym384 := zRx_o hRb hYm384 rfl
                    have hV386 : zV Ym384 := zV_o hV hYm384 rfl
                    have hG387 := yFr_o hG hYm384 rfl (.inr rfl) rfl
                    have th9 := (zu_at hYm384)
                    obtain rfl : C = _ := hC
                    obtain rfl : M = _ := hM
                    exact ⟨zRx_1 hR385, hV386, ⟨Z, _, .inl ⟨rfl, yFr_w hG387 (by decide)⟩, zFc_r, yFr_r⟩, zThr_e th9 (by decide)⟩
                  · rcases zE_c hM with ⟨h388, hM⟩ | ⟨h388, hM⟩
                    · obtain ⟨Ym389, hYm389, hM⟩ := zl_x hM
                      have hR390 : zRx [] 0 Z Ym389 := zRx_o hRb hYm389 rfl
                      have hV391 : zV Ym389 := zV_o hV hYm389 rfl
                      have hG392 := yFr_o hG hYm389 rfl (.inr rfl) rfl
                      have th9 := (zu_at hYm389)
                      obtain rfl : C = _ := hC
                      obtain rfl : M = _ := hM
                      exact ⟨zRx_1 hR390, hV391, ⟨Z, _, .inl ⟨rfl, yFr_w hG392 (by decide)⟩, zFc_r, yFr_r⟩, zThr_e th9 (by decide)⟩
                    · rcases zE_c hM with ⟨h393, hM⟩ | ⟨h393, hM⟩
                      · obtain ⟨Ym394, hYm394, hM⟩ := zl_x hM
                        have hR395 : zRx [] 0 Z Ym394 := zRx_o hRb hYm394 rfl
                        have hV396 : zV Ym394 := zV_o hV hYm394 rfl
                        have hG397 := yFr_o hG hYm394 rfl (.inr rfl) rfl
                        have th9 := (zu_at hYm394)
                        obtain rfl : C = _ := hC
                        obtain rfl : M = _ := hM
                        exact ⟨zRx_1 hR395, hV396, ⟨Z, _, .inl ⟨rfl, yFr_w hG397 (by decide)⟩, zFc_r, yFr_r⟩, zThr_e th9 (by decide)⟩
                      · rcases zE_c hM with ⟨h398, hM⟩ | ⟨h398, hM⟩
                        · obtain ⟨Ym399, hYm399, hM⟩ := zl_x hM
                          have hR400 : zRx [] 0 Z Ym399 := zRx_o hRb hYm399 rfl
                          have hV401 : zV Ym399 := zV_o hV hYm399 rfl
                          have hG402 := yFr_o hG hYm399 rfl (.inr rfl) rfl
                          have th9 := (zu_at hYm399)
                          obtain rfl : C = _ := hC
                          obtain rfl : M = _ := hM
                          exact ⟨zRx_1 hR400, hV401, ⟨Z, _, .inl ⟨rfl, yFr_w hG402 (by decide)⟩, zFc_r, yFr_r⟩, zThr_e th9 (by decide)⟩
                        · obtain ⟨Ym403, hYm403, hM⟩ := zl_x hM
                          have hR404 : zRx [] 0 Z Ym403 := zRx_o hRb hYm403 rfl
                          have hV405 : zV Ym403 := zV_o hV hYm403 rfl
                          have hG406 := yFr_o hG hYm403 rfl (.inr rfl) rfl
                          have q407 := zhd (zVr_11_7 (a := 3000) hV (by omega))
                          have q408 := zhd ((zu_ne (k' := 2) (b' := 0) (i' := 0) (j' := 3000) hYm403 (fun q => absurd q.1 (by decide))))
                          rcases zE_c hM with ⟨h409, hM⟩ | ⟨h409, hM⟩
                          · obtain ⟨Ym410, hYm410, hM⟩ := zl_x hM
                            have hR411 : zRx [] 0 Z Ym410 := zRx_o hR404 hYm410 rfl
                            have hV412 : zV Ym410 := zV_o hV405 hYm410 rfl
                            have hG413 := yFr_o hG406 hYm410 rfl (.inr rfl) rfl
                            exact False.elim (by have q407 := zhx q407; have q408 := zhx q408; first | omega | grind)
                          · obtain ⟨Ym414, hYm414, hM⟩ := zl_x hM
                            have hR415 : zRx [] 0 Z Ym414 := zRx_o hR404 hYm414 rfl
                            have hV416 : zV Ym414 := zV_o hV405 hYm414 rfl
                            have hG417 := yFr_o hG406 hYm414 rfl (.inr rfl) rfl
                            exact False.elim (by have q407 := zhx q407; have q408 := zhx q408; first | omega | grind)

/- face docks -/
theorem rf_docks {Z Y : qz_Z} {dm : qz_Z → Int → Int → Int → Int → Int → Int → Int → qz_Z} {a1 : Int} (hRa : zR 0 Z Y) (hV : zV Y) (hI : zI none Z) (hd : zDf dm) (hD1 : zD1 0 Z Y) (hD4 : zD4 0 Z Y) (hN1 : zN1 Y) (hN4 : zN4 Y) (hDs : zDs 0 Z Y) (hDw : zDw 0 Z Y) (hDl : zDl 0 Z Y)  {C : qz_Z × Int × Int} {M : qz_Z × Int} (hC : zE C (zx_197 Z a1)) (hM : zE M (zy_336 Y dm a1)) : zR 0 C.1 M.1 ∧ zV M.1 ∧ zDd [1114] [1114, 99999] Z Y dm C.1 M.1 ∧ zThr [(13, 1), (15, 2)] C.2 (M.1 1 0 0 2) M.2 := by
  have hRb := zRx_0 hRa
  have hF : zFc [] 0 Z Z := zFc_r
  have hG : yFr [99999] Y Y := yFr_r
  unfold zx_197 at hC
  unfold zy_336 at hM
  rcases zE_c hC with ⟨h1, hC⟩ | ⟨h1, hC⟩
  · obtain ⟨v2, hv2, hC⟩ := zl_x hC
    have q3 := zhd (show v2 = (zf_508 Y) from hv2.trans (rr_40 hRa hV hN4  rfl rfl))
    rcases zE_c hC with ⟨h4, hC⟩ | ⟨h4, hC⟩
    · replace hM := zE_n hM (by first | (have q3 := zhx q3; omega) | (simp only [zhx q3] at h1 h4 ⊢ <;> omega))
      replace hM := zE_n hM (by first | (have q3 := zhx q3; omega) | (simp only [zhx q3] at h1 h4 ⊢ <;> omega))
      obtain ⟨Ym5, hYm5, hM⟩ := zl_x hM
      have hR6 : zRx [] 0 Z Ym5 := zRx_o hRb hYm5 rfl
      have hV7 : zV Ym5 := zV_o hV hYm5 rfl
      have hG8 := yFr_o hG hYm5 rfl (.inr rfl) rfl
      obtain ⟨v9, hv9, hM⟩ := zl_x hM
      have q10 := zhd (show v2 = (zf_508 Ym5) from hv2.trans (rr_40 (zRx_1 hR6) hV7 (zN4_f hN4 hG8.1 ⟨rfl, rfl, rfl⟩)  rfl rfl))
      have q11 := zhd (hv9)
      rcases zE_c hM with ⟨h12, hM⟩ | ⟨h12, hM⟩
      · obtain ⟨Ym13, hYm13, hM⟩ := zl_x hM
        have hR14 : zRx [] 0 Z Ym13 := zRx_o hR6 hYm13 rfl
        have hV15 : zV Ym13 := zV_o hV7 hYm13 rfl
        have hG16 := yFr_o hG8 hYm13 rfl (.inr rfl) rfl
        have th9 := (zu_at hYm13)
        obtain rfl : C = _ := hC
        obtain rfl : M = _ := hM
        exact ⟨zRx_1 hR14, hV15, ⟨Z, _, .inl ⟨rfl, yFr_w hG16 (by decide)⟩, zFc_r, yFr_r⟩, zThr_e th9 (by decide)⟩
      · obtain ⟨Ym17, hYm17, hM⟩ := zl_x hM
        have hR18 : zRx [] 0 Z Ym17 := zRx_o hR6 hYm17 rfl
        have hV19 : zV Ym17 := zV_o hV7 hYm17 rfl
        have hG20 := yFr_o hG8 hYm17 rfl (.inr rfl) rfl
        exact False.elim (by have q3 := zhx q3; have q10 := zhx q10; have q11 := zhx q11; first | omega | grind)
    · replace hM := zE_n hM (by first | (have q3 := zhx q3; omega) | (simp only [zhx q3] at h1 h4 ⊢ <;> omega))
      replace hM := zE_n hM (by first | (have q3 := zhx q3; omega) | (simp only [zhx q3] at h1 h4 ⊢ <;> omega))
      obtain ⟨Ym21, hYm21, hM⟩ := zl_x hM
      have hR22 : zRx [] 0 Z Ym21 := zRx_o hRb hYm21 rfl
      have hV23 : zV Ym21 := zV_o hV hYm21 rfl
      have hG24 := yFr_o hG hYm21 rfl (.inr rfl) rfl
      obtain ⟨v25, hv25, hM⟩ := zl_x hM
      have q26 := zhd (show v2 = (zf_508 Ym21) from hv2.trans (rr_40 (zRx_1 hR22) hV23 (zN4_f hN4 hG24.1 ⟨rfl, rfl, rfl⟩)  rfl rfl))
      have q27 := zhd (hv25)
      rcases zE_c hM with ⟨h28, hM⟩ | ⟨h28, hM⟩
      · obtain ⟨Ym29, hYm29, hM⟩ := zl_x hM
        have hR30 : zRx [] 0 Z Ym29 := zRx_o hR22 hYm29 rfl
        have hV31 : zV Ym29 := zV_o hV23 hYm29 rfl
        have hG32 := yFr_o hG24 hYm29 rfl (.inr rfl) rfl
        exact False.elim (by have q3 := zhx q3; have q26 := zhx q26; have q27 := zhx q27; first | omega | grind)
      · obtain ⟨Ym33, hYm33, hM⟩ := zl_x hM
        have hR34 : zRx [] 0 Z Ym33 := zRx_o hR22 hYm33 rfl
        have hV35 : zV Ym33 := zV_o hV23 hYm33 rfl
        have hG36 := yFr_o hG24 hYm33 rfl (.inr rfl) rfl
        obtain ⟨Zc37, hZc37, hC⟩ := zl_x hC
        obtain ⟨Ym38, hYm38, hM⟩ := zl_x hM
        have hR39 : zRx [] 0 Zc37 Ym38 := zRx_dd hR34 hI hd hZc37 hYm38
        have hV40 : zV Ym38 := zV_dm hV35 hd hYm38
        have hD1_41 : zD1 0 Zc37 Ym38 := (zD1_f (zD1_f hD1 hF.1 hG36.1 ⟨rfl, rfl, rfl⟩) (zFa_dd hI hZc37) (yFa_dm hd hYm38) ⟨rfl, rfl, rfl⟩)
        have hD4_42 : zD4 0 Zc37 Ym38 := (zD4_f (zD4_f hD4 hF.1 hG36.1 ⟨⟨rfl, rfl⟩, rfl, rfl, rfl⟩) (zFa_dd hI hZc37) (yFa_dm hd hYm38) ⟨⟨rfl, rfl⟩, rfl, rfl, rfl⟩)
        have hN1_43 : zN1 Ym38 := (zN1_f (zN1_f hN1 hG36.1 ⟨rfl, rfl, rfl, rfl⟩) (yFa_dm hd hYm38) ⟨rfl, rfl, rfl, rfl⟩)
        have hN4_44 : zN4 Ym38 := (zN4_f (zN4_f hN4 hG36.1 ⟨rfl, rfl, rfl⟩) (yFa_dm hd hYm38) ⟨rfl, rfl, rfl⟩)
        have hDs_45 : zDs 0 Zc37 Ym38 := (zDs_f (zDs_f hDs hF.1 hG36.1 ⟨rfl, rfl⟩) (zFa_dd hI hZc37) (yFa_dm hd hYm38) ⟨rfl, rfl⟩)
        have hDw_46 : zDw 0 Zc37 Ym38 := (zDw_f (zDw_f hDw hF.1 hG36.1 ⟨rfl, rfl⟩) (zFa_dd hI hZc37) (yFa_dm hd hYm38) ⟨rfl, rfl⟩)
        have hDl_47 : zDl 0 Zc37 Ym38 := (zDl_f (zDl_f hDl hF.1 hG36.1 ⟨rfl, rfl, rfl, rfl, rfl⟩) (zFa_dd hI hZc37) (yFa_dm hd hYm38) ⟨rfl, rfl, rfl, rfl, rfl⟩)
        have hF48 : zFc [1114] 0 Zc37 Zc37 := zFc_r
        have hG49 : yFr [1114] Ym38 Ym38 := yFr_r
        obtain ⟨Zc50, hZc50, hC⟩ := zl_x hC
        obtain ⟨Ym51, hYm51, hM⟩ := zl_x hM
        have hV52 : zV Ym51 := zV_n hV40 hYm51 (zvn_11_14 (by have q3 := zhx q3; have q26 := zhx q26; have q27 := zhx q27; omega))
        have hR53 : zRx [] 0 Zc50 Ym51 := zRx_w hR39 (ac_11_14 (by have q3 := zhx q3; have q26 := zhx q26; have q27 := zhx q27; omega)) hZc50 hYm51 (by first | rfl | (omega) | (simp only [] <;> omega))
        have hF54 := zFc_u hF48 hZc50 rfl rfl
        have hG55 := yFr_u hG49 hYm51 (zcm_s (ac_11_14 (a := 3201) (by have q3 := zhx q3; have q26 := zhx q26; have q27 := zhx q27; omega))) rfl
        have th9 := (((zu_ne (k' := 1) (b' := 0) (i' := 0) (j' := 2) hYm51 (fun q => absurd q.1 (by decide))).trans (zTh_dm hd hYm38 (by decide))).trans (zu_at hYm33))
        have q56 := zhd ((((yFa_dm hd hYm38 (3201) rfl).trans (zu_ne (k' := 2) (b' := 0) (i' := 0) (j' := 3201) hYm33 (fun q => absurd q.1 (by decide)))).trans (zu_ne (k' := 2) (b' := 0) (i' := 0) (j' := 3201) hYm21 (fun q => absurd q.1 (by decide)))))
        have q57 := zhd (((zRl_11_14 (a := 3201) (zRx_1 hR39) (by omega)).trans (zhx q56)))
        obtain rfl : C = _ := hC
        obtain rfl : M = _ := hM
        exact ⟨zRx_1 hR53, hV52, ⟨Zc37, Ym38, .inr ⟨18, a1, 0, 0, 0, 0, 0, 19, Ym33, hZc37, yFr_w hG36 (by decide), hYm38, (by unfold zcode; omega)⟩, zFc_w hF54 (by decide), yFr_w hG55 (by decide)⟩, zThr_a th9 (by first | rfl | (have q3 := zhx q3; have q26 := zhx q26; have q27 := zhx q27; have q56 := zhx q56; have q57 := zhx q57; omega) | (simp only [zhx q3, zhx q26, zhx q27, zhx q56, zhx q57] <;> omega) | (have q3 := zhx q3; have q26 := zhx q26; have q27 := zhx q27; have q56 := zhx q56; have q57 := zhx q57; refine w3z ?_ ?_ ?_ <;> omega) | (have q3 := zhx q3; have q26 := zhx q26; have q27 := zhx q27; have q56 := zhx q56; have q57 := zhx q57; refine w3y ?_ ?_ ?_ <;> omega) | (have q3 := zhx q3; have q26 := zhx q26; have q27 := zhx q27; have q56 := zhx q56; have q57 := zhx q57; refine z2o ?_ ?_ ?_ <;> omega))⟩
  · rcases zE_c hM with ⟨h58, hM⟩ | ⟨h58, hM⟩
    · obtain ⟨Ym59, hYm59, hM⟩ := zl_x hM
      have hR60 : zRx [] 0 Z Ym59 := zRx_o hRb hYm59 rfl
      have hV61 : zV Ym59 := zV_o hV hYm59 rfl
      have hG62 := yFr_o hG hYm59 rfl (.inr rfl) rfl
      have th9 := (zu_at hYm59)
      obtain rfl : C = _ := hC
      obtain rfl : M = _ := hM
      exact ⟨zRx_1 hR60, hV61, ⟨Z, _, .inl ⟨rfl, yFr_w hG62 (by decide)⟩, zFc_r, yFr_r⟩, zThr_e th9 (by decide)⟩
    · rcases zE_c hM with ⟨h63, hM⟩ | ⟨h63, hM⟩
      · obtain ⟨Ym64, hYm64, hM⟩ := zl_x hM
        have hR65 : zRx [] 0 Z Ym64 := zRx_o hRb hYm64 rfl
        have hV66 : zV Ym64 := zV_o hV hYm64 rfl
        have hG67 := yFr_o hG hYm64 rfl (.inr rfl) rfl
        have th9 := (zu_at hYm64)
        obtain rfl : C = _ := hC
        obtain rfl : M = _ := hM
        exact ⟨zRx_1 hR65, hV66, ⟨Z, _, .inl ⟨rfl, yFr_w hG67 (by decide)⟩, zFc_r, yFr_r⟩, zThr_e th9 (by decide)⟩
      · obtain ⟨Ym68, hYm68, hM⟩ := zl_x hM
        have hR69 : zRx [] 0 Z Ym68 := zRx_o hRb hYm68 rfl
        have hV70 : zV Ym68 := zV_o hV hYm68 rfl
        have hG71 := yFr_o hG hYm68 rfl (.inr rfl) rfl
        obtain ⟨v72, hv72, hM⟩ := zl_x hM
        rcases zE_c hM with ⟨h73, hM⟩ | ⟨h73, hM⟩
        · obtain ⟨Ym74, hYm74, hM⟩ := zl_x hM
          have hR75 : zRx [] 0 Z Ym74 := zRx_o hR69 hYm74 rfl
          have hV76 : zV Ym74 := zV_o hV70 hYm74 rfl
          have hG77 := yFr_o hG71 hYm74 rfl (.inr rfl) rfl
          exact False.elim (by first | omega | grind)
        · obtain ⟨Ym78, hYm78, hM⟩ := zl_x hM
          have hR79 : zRx [] 0 Z Ym78 := zRx_o hR69 hYm78 rfl
          have hV80 : zV Ym78 := zV_o hV70 hYm78 rfl
          have hG81 := yFr_o hG71 hYm78 rfl (.inr rfl) rfl
          exact False.elim (by first | omega | grind)

/- face send -/
theorem rf_send {Z Y : qz_Z} {dm : qz_Z → Int → Int → Int → Int → Int → Int → Int → qz_Z} {a1 a2 : Int} (hRa : zR 0 Z Y) (hV : zV Y) (hI : zI none Z) (hd : zDf dm) (hD1 : zD1 0 Z Y) (hD4 : zD4 0 Z Y) (hN1 : zN1 Y) (hN4 : zN4 Y) (hDs : zDs 0 Z Y) (hDw : zDw 0 Z Y) (hDl : zDl 0 Z Y)  {C : qz_Z × Int × Int} {M : qz_Z × Int} (hC : zE C (zx_239 Z a1 a2)) (hM : zE M (zy_499 Y dm a1 a2)) : zR 0 C.1 M.1 ∧ zV M.1 ∧ zDd [5003] [5003, 99999] Z Y dm C.1 M.1 ∧ zThr [(24, 1), (13, 2), (15, 3)] C.2 (M.1 1 0 0 2) M.2 := by
  have hRb := zRx_0 hRa
  have hF : zFc [] 0 Z Z := zFc_r
  have hG : yFr [99999] Y Y := yFr_r
  unfold zx_239 at hC
  unfold zy_499 at hM
  rcases zE_c hC with ⟨h1, hC⟩ | ⟨h1, hC⟩
  · replace hM := zE_p hM (by omega)
    obtain ⟨Ym2, hYm2, hM⟩ := zl_x hM
    have hR3 : zRx [] 0 Z Ym2 := zRx_o hRb hYm2 rfl
    have hV4 : zV Ym2 := zV_o hV hYm2 rfl
    have hG5 := yFr_o hG hYm2 rfl (.inr rfl) rfl
    have th9 := (zu_at hYm2)
    obtain rfl : C = _ := hC
    obtain rfl : M = _ := hM
    exact ⟨zRx_1 hR3, hV4, ⟨Z, _, .inl ⟨rfl, yFr_w hG5 (by decide)⟩, zFc_r, yFr_r⟩, zThr_e th9 (by decide)⟩
  · have q6 := zhd (zVr_11_8 (a := 3200) hV (by omega))
    have q7 := zhd ((zRl_11_8 (a := 3200) hRa (by omega)))
    rcases zE_c hC with ⟨h8, hC⟩ | ⟨h8, hC⟩
    · rcases zE_c hC with ⟨h9, hC⟩ | ⟨h9, hC⟩
      · have q10 := zhd (zVr_50_2 (x := a1) (a := 3252 + 24 * a1) hV (by have q6 := zhx q6; have q7 := zhx q7; omega) (by have q6 := zhx q6; have q7 := zhx q7; omega) (by have q6 := zhx q6; have q7 := zhx q7; omega))
        have q11 := zhd ((zRl_50_2 (x := a1) (a := 3252 + 24 * a1) hRa (by have q6 := zhx q6; have q7 := zhx q7; omega) (by have q6 := zhx q6; have q7 := zhx q7; omega) (by have q6 := zhx q6; have q7 := zhx q7; omega)))
        rcases zE_c hC with ⟨h12, hC⟩ | ⟨h12, hC⟩
        · replace hM := zE_n hM (by first | (have q6 := zhx q6; have q7 := zhx q7; have q10 := zhx q10; have q11 := zhx q11; omega) | (simp only [zhx q6, zhx q7, zhx q10, zhx q11] at h1 h8 h9 h12 ⊢ <;> omega))
          replace hM := zE_n hM (by first | (have q6 := zhx q6; have q7 := zhx q7; have q10 := zhx q10; have q11 := zhx q11; omega) | (simp only [zhx q6, zhx q7, zhx q10, zhx q11] at h1 h8 h9 h12 ⊢ <;> omega))
          obtain ⟨Ym13, hYm13, hM⟩ := zl_x hM
          have hR14 : zRx [] 0 Z Ym13 := zRx_o hRb hYm13 rfl
          have hV15 : zV Ym13 := zV_o hV hYm13 rfl
          have hG16 := yFr_o hG hYm13 rfl (.inr rfl) rfl
          replace hM := zE_p hM (by first | (have q6 := zhx q6; have q7 := zhx q7; have q10 := zhx q10; have q11 := zhx q11; omega) | (simp only [zhx q6, zhx q7, zhx q10, zhx q11] at h1 h8 h9 h12 ⊢ <;> omega))
          obtain ⟨Ym17, hYm17, hM⟩ := zl_x hM
          have hR18 : zRx [] 0 Z Ym17 := zRx_o hR14 hYm17 rfl
          have hV19 : zV Ym17 := zV_o hV15 hYm17 rfl
          have hG20 := yFr_o hG16 hYm17 rfl (.inr rfl) rfl
          have q21 := zhd (((zu_ne (k' := 2) (b' := 0) (i' := 0) (j' := 3252 + 24 * a1) hYm17 (fun q => absurd q.1 (by decide))).trans (zu_ne (k' := 2) (b' := 0) (i' := 0) (j' := 3252 + 24 * a1) hYm13 (fun q => absurd q.1 (by decide)))))
          rcases zE_c hM with ⟨h22, hM⟩ | ⟨h22, hM⟩
          · obtain ⟨Ym23, hYm23, hM⟩ := zl_x hM
            have hR24 : zRx [] 0 Z Ym23 := zRx_o hR18 hYm23 rfl
            have hV25 : zV Ym23 := zV_o hV19 hYm23 rfl
            have hG26 := yFr_o hG20 hYm23 rfl (.inr rfl) rfl
            exact False.elim (by have q6 := zhx q6; have q7 := zhx q7; have q10 := zhx q10; have q11 := zhx q11; have q21 := zhx q21; first | omega | grind)
          · obtain ⟨Ym27, hYm27, hM⟩ := zl_x hM
            have hR28 : zRx [] 0 Z Ym27 := zRx_o hR18 hYm27 rfl
            have hV29 : zV Ym27 := zV_o hV19 hYm27 rfl
            have hG30 := yFr_o hG20 hYm27 rfl (.inr rfl) rfl
            have th9 := (zu_at hYm27)
            obtain rfl : C = _ := hC
            obtain rfl : M = _ := hM
            exact ⟨zRx_1 hR28, hV29, ⟨Z, _, .inl ⟨rfl, yFr_w hG30 (by decide)⟩, zFc_r, yFr_r⟩, zThr_e th9 (by decide)⟩
        · replace hM := zE_n hM (by first | (have q6 := zhx q6; have q7 := zhx q7; have q10 := zhx q10; have q11 := zhx q11; omega) | (simp only [zhx q6, zhx q7, zhx q10, zhx q11] at h1 h8 h9 h12 ⊢ <;> omega))
          replace hM := zE_n hM (by first | (have q6 := zhx q6; have q7 := zhx q7; have q10 := zhx q10; have q11 := zhx q11; omega) | (simp only [zhx q6, zhx q7, zhx q10, zhx q11] at h1 h8 h9 h12 ⊢ <;> omega))
          obtain ⟨Ym31, hYm31, hM⟩ := zl_x hM
          have hR32 : zRx [] 0 Z Ym31 := zRx_o hRb hYm31 rfl
          have hV33 : zV Ym31 := zV_o hV hYm31 rfl
          have hG34 := yFr_o hG hYm31 rfl (.inr rfl) rfl
          replace hM := zE_p hM (by first | (have q6 := zhx q6; have q7 := zhx q7; have q10 := zhx q10; have q11 := zhx q11; omega) | (simp only [zhx q6, zhx q7, zhx q10, zhx q11] at h1 h8 h9 h12 ⊢ <;> omega))
          obtain ⟨Ym35, hYm35, hM⟩ := zl_x hM
          have hR36 : zRx [] 0 Z Ym35 := zRx_o hR32 hYm35 rfl
          have hV37 : zV Ym35 := zV_o hV33 hYm35 rfl
          have hG38 := yFr_o hG34 hYm35 rfl (.inr rfl) rfl
          have q39 := zhd (((zu_ne (k' := 2) (b' := 0) (i' := 0) (j' := 3252 + 24 * a1) hYm35 (fun q => absurd q.1 (by decide))).trans (zu_ne (k' := 2) (b' := 0) (i' := 0) (j' := 3252 + 24 * a1) hYm31 (fun q => absurd q.1 (by decide)))))
          replace hM := zE_p hM (by first | (have q6 := zhx q6; have q7 := zhx q7; have q10 := zhx q10; have q11 := zhx q11; have q39 := zhx q39; omega) | (simp only [zhx q6, zhx q7, zhx q10, zhx q11, zhx q39] at h1 h8 h9 h12 ⊢ <;> omega))
          obtain ⟨Ym40, hYm40, hM⟩ := zl_x hM
          have hR41 : zRx [] 0 Z Ym40 := zRx_o hR36 hYm40 rfl
          have hV42 : zV Ym40 := zV_o hV37 hYm40 rfl
          have hG43 := yFr_o hG38 hYm40 rfl (.inr rfl) rfl
          obtain ⟨Zc44, hZc44, hC⟩ := zl_x hC
          obtain ⟨Ym45, hYm45, hM⟩ := zl_x hM
          have hR46 : zRx [] 0 Zc44 Ym45 := zRx_dd hR41 hI hd hZc44 hYm45
          have hV47 : zV Ym45 := zV_dm hV42 hd hYm45
          have hD1_48 : zD1 0 Zc44 Ym45 := (zD1_f (zD1_f hD1 hF.1 hG43.1 ⟨rfl, rfl, rfl⟩) (zFa_dd hI hZc44) (yFa_dm hd hYm45) ⟨rfl, rfl, rfl⟩)
          have hD4_49 : zD4 0 Zc44 Ym45 := (zD4_f (zD4_f hD4 hF.1 hG43.1 ⟨⟨rfl, rfl⟩, rfl, rfl, rfl⟩) (zFa_dd hI hZc44) (yFa_dm hd hYm45) ⟨⟨rfl, rfl⟩, rfl, rfl, rfl⟩)
          have hN1_50 : zN1 Ym45 := (zN1_f (zN1_f hN1 hG43.1 ⟨rfl, rfl, rfl, rfl⟩) (yFa_dm hd hYm45) ⟨rfl, rfl, rfl, rfl⟩)
          have hN4_51 : zN4 Ym45 := (zN4_f (zN4_f hN4 hG43.1 ⟨rfl, rfl, rfl⟩) (yFa_dm hd hYm45) ⟨rfl, rfl, rfl⟩)
          have hDs_52 : zDs 0 Zc44 Ym45 := (zDs_f (zDs_f hDs hF.1 hG43.1 ⟨rfl, rfl⟩) (zFa_dd hI hZc44) (yFa_dm hd hYm45) ⟨rfl, rfl⟩)
          have hDw_53 : zDw 0 Zc44 Ym45 := (zDw_f (zDw_f hDw hF.1 hG43.1 ⟨rfl, rfl⟩) (zFa_dd hI hZc44) (yFa_dm hd hYm45) ⟨rfl, rfl⟩)
          have hDl_54 : zDl 0 Zc44 Ym45 := (zDl_f (zDl_f hDl hF.1 hG43.1 ⟨rfl, rfl, rfl, rfl, rfl⟩) (zFa_dd hI hZc44) (yFa_dm hd hYm45) ⟨rfl, rfl, rfl, rfl, rfl⟩)
          have hF55 : zFc [5003] 0 Zc44 Zc44 := zFc_r
          have hG56 : yFr [5003] Ym45 Ym45 := yFr_r
          obtain ⟨Zc57, hZc57, hC⟩ := zl_x hC
          obtain ⟨Ym58, hYm58, hM⟩ := zl_x hM
          have hV59 : zV Ym58 := zV_n hV47 hYm58 (zvn_50_3 (x := a1) (by first | (omega) | (have q6 := zhx q6; have q7 := zhx q7; have q10 := zhx q10; have q11 := zhx q11; omega)) (by first | (omega) | (have q6 := zhx q6; have q7 := zhx q7; have q10 := zhx q10; have q11 := zhx q11; omega)) (by first | (omega) | (have q6 := zhx q6; have q7 := zhx q7; have q10 := zhx q10; have q11 := zhx q11; omega)))
          have hR60 : zRx [] 0 Zc57 Ym58 := zRx_w hR46 (ac_50_3 (by first | (omega) | (have q6 := zhx q6; have q7 := zhx q7; have q10 := zhx q10; have q11 := zhx q11; omega)) (by first | (omega) | (have q6 := zhx q6; have q7 := zhx q7; have q10 := zhx q10; have q11 := zhx q11; omega)) (by first | (omega) | (have q6 := zhx q6; have q7 := zhx q7; have q10 := zhx q10; have q11 := zhx q11; omega))) hZc57 hYm58 (by first | rfl | (omega) | (simp only [] <;> omega))
          have hF61 := zFc_u hF55 hZc57 rfl rfl
          have hG62 := yFr_u hG56 hYm58 (zcm_s (ac_50_3 (a := 3253 + 24 * a1) (x := a1) (by first | (omega) | (have q6 := zhx q6; have q7 := zhx q7; have q10 := zhx q10; have q11 := zhx q11; omega)) (by first | (omega) | (have q6 := zhx q6; have q7 := zhx q7; have q10 := zhx q10; have q11 := zhx q11; omega)) (by first | (omega) | (have q6 := zhx q6; have q7 := zhx q7; have q10 := zhx q10; have q11 := zhx q11; omega)))) rfl
          have th9 := (((zu_ne (k' := 1) (b' := 0) (i' := 0) (j' := 2) hYm58 (fun q => absurd q.1 (by decide))).trans (zTh_dm hd hYm45 (by decide))).trans (zu_at hYm40))
          have q63 := zhd (((((yFa_dm hd hYm45 (3253 + 24 * a1) rfl).trans (zu_ne (k' := 2) (b' := 0) (i' := 0) (j' := 3253 + 24 * a1) hYm40 (fun q => absurd q.1 (by decide)))).trans (zu_ne (k' := 2) (b' := 0) (i' := 0) (j' := 3253 + 24 * a1) hYm35 (fun q => absurd q.1 (by decide)))).trans (zu_ne (k' := 2) (b' := 0) (i' := 0) (j' := 3253 + 24 * a1) hYm31 (fun q => absurd q.1 (by decide)))))
          have q64 := zhd (((zRl_50_3 (x := a1) (a := 3253 + 24 * a1) (zRx_1 hR46) (by first | (omega) | (have q6 := zhx q6; have q7 := zhx q7; have q10 := zhx q10; have q11 := zhx q11; omega)) (by first | (omega) | (have q6 := zhx q6; have q7 := zhx q7; have q10 := zhx q10; have q11 := zhx q11; omega)) (by first | (omega) | (have q6 := zhx q6; have q7 := zhx q7; have q10 := zhx q10; have q11 := zhx q11; omega))).trans (zhx q63)))
          obtain rfl : C = _ := hC
          obtain rfl : M = _ := hM
          exact ⟨zRx_1 hR60, hV59, ⟨Zc44, Ym45, .inr ⟨21, a1, a2, 0, 0, 0, 0, 22, Ym40, hZc44, yFr_w hG43 (by decide), hYm45, (by unfold zcode; omega)⟩, zFc_w hF61 (by decide), yFr_w hG62 (by decide)⟩, zThr_a th9 (by first | rfl | (have q6 := zhx q6; have q7 := zhx q7; have q10 := zhx q10; have q11 := zhx q11; have q63 := zhx q63; have q64 := zhx q64; omega) | (simp only [zhx q6, zhx q7, zhx q10, zhx q11, zhx q63, zhx q64] <;> omega) | (have q6 := zhx q6; have q7 := zhx q7; have q10 := zhx q10; have q11 := zhx q11; have q63 := zhx q63; have q64 := zhx q64; refine w3z ?_ ?_ ?_ <;> omega) | (have q6 := zhx q6; have q7 := zhx q7; have q10 := zhx q10; have q11 := zhx q11; have q63 := zhx q63; have q64 := zhx q64; refine w3y ?_ ?_ ?_ <;> omega) | (have q6 := zhx q6; have q7 := zhx q7; have q10 := zhx q10; have q11 := zhx q11; have q63 := zhx q63; have q64 := zhx q64; refine z2o ?_ ?_ ?_ <;> omega))⟩
      · have q65 := zhd (zVr_11_13 (a := 0) hV (by omega))
        have q66 := zhd ((zRl_11_13 (a := 0) hRa (by omega)))
        rcases zE_c hC with ⟨h67, hC⟩ | ⟨h67, hC⟩
        · replace hM := zE_n hM (by first | (have q6 := zhx q6; have q7 := zhx q7; have q65 := zhx q65; have q66 := zhx q66; omega) | (simp only [zhx q6, zhx q7, zhx q65, zhx q66] at h1 h8 h9 h67 ⊢ <;> omega))
          replace hM := zE_n hM (by first | (have q6 := zhx q6; have q7 := zhx q7; have q65 := zhx q65; have q66 := zhx q66; omega) | (simp only [zhx q6, zhx q7, zhx q65, zhx q66] at h1 h8 h9 h67 ⊢ <;> omega))
          obtain ⟨Ym68, hYm68, hM⟩ := zl_x hM
          have hR69 : zRx [] 0 Z Ym68 := zRx_o hRb hYm68 rfl
          have hV70 : zV Ym68 := zV_o hV hYm68 rfl
          have hG71 := yFr_o hG hYm68 rfl (.inr rfl) rfl
          replace hM := zE_n hM (by first | (have q6 := zhx q6; have q7 := zhx q7; have q65 := zhx q65; have q66 := zhx q66; omega) | (simp only [zhx q6, zhx q7, zhx q65, zhx q66] at h1 h8 h9 h67 ⊢ <;> omega))
          have q72 := zhd ((zu_ne (k' := 2) (b' := 0) (i' := 0) (j' := 0) hYm68 (fun q => absurd q.1 (by decide))))
          replace hM := zE_p hM (by first | (have q6 := zhx q6; have q7 := zhx q7; have q65 := zhx q65; have q66 := zhx q66; have q72 := zhx q72; omega) | (simp only [zhx q6, zhx q7, zhx q65, zhx q66, zhx q72] at h1 h8 h9 h67 ⊢ <;> omega))
          obtain ⟨Ym73, hYm73, hM⟩ := zl_x hM
          have hR74 : zRx [] 0 Z Ym73 := zRx_o hR69 hYm73 rfl
          have hV75 : zV Ym73 := zV_o hV70 hYm73 rfl
          have hG76 := yFr_o hG71 hYm73 rfl (.inr rfl) rfl
          have th9 := (zu_at hYm73)
          obtain rfl : C = _ := hC
          obtain rfl : M = _ := hM
          exact ⟨zRx_1 hR74, hV75, ⟨Z, _, .inl ⟨rfl, yFr_w hG76 (by decide)⟩, zFc_r, yFr_r⟩, zThr_e th9 (by decide)⟩
        · rcases zE_c hC with ⟨h77, hC⟩ | ⟨h77, hC⟩
          · have q78 := zhd (zVr_50_2 (x := a1) (a := 3252 + 24 * a1) hV (by first | (omega) | (have q6 := zhx q6; have q7 := zhx q7; have q65 := zhx q65; have q66 := zhx q66; omega)) (by first | (omega) | (have q6 := zhx q6; have q7 := zhx q7; have q65 := zhx q65; have q66 := zhx q66; omega)) (by first | (omega) | (have q6 := zhx q6; have q7 := zhx q7; have q65 := zhx q65; have q66 := zhx q66; omega)))
            have q79 := zhd ((zRl_50_2 (x := a1) (a := 3252 + 24 * a1) hRa (by first | (omega) | (have q6 := zhx q6; have q7 := zhx q7; have q65 := zhx q65; have q66 := zhx q66; omega)) (by first | (omega) | (have q6 := zhx q6; have q7 := zhx q7; have q65 := zhx q65; have q66 := zhx q66; omega)) (by first | (omega) | (have q6 := zhx q6; have q7 := zhx q7; have q65 := zhx q65; have q66 := zhx q66; omega))))
            rcases zE_c hC with ⟨h80, hC⟩ | ⟨h80, hC⟩
            · replace hM := zE_n hM (by first | (have q6 := zhx q6; have q7 := zhx q7; have q65 := zhx q65; have q66 := zhx q66; have q78 := zhx q78; have q79 := zhx q79; omega) | (simp only [zhx q6, zhx q7, zhx q65, zhx q66, zhx q78, zhx q79] at h1 h8 h9 h67 h77 h80 ⊢ <;> omega))
              replace hM := zE_n hM (by first | (have q6 := zhx q6; have q7 := zhx q7; have q65 := zhx q65; have q66 := zhx q66; have q78 := zhx q78; have q79 := zhx q79; omega) | (simp only [zhx q6, zhx q7, zhx q65, zhx q66, zhx q78, zhx q79] at h1 h8 h9 h67 h77 h80 ⊢ <;> omega))
              obtain ⟨Ym81, hYm81, hM⟩ := zl_x hM
              have hR82 : zRx [] 0 Z Ym81 := zRx_o hRb hYm81 rfl
              have hV83 : zV Ym81 := zV_o hV hYm81 rfl
              have hG84 := yFr_o hG hYm81 rfl (.inr rfl) rfl
              replace hM := zE_n hM (by first | (have q6 := zhx q6; have q7 := zhx q7; have q65 := zhx q65; have q66 := zhx q66; have q78 := zhx q78; have q79 := zhx q79; omega) | (simp only [zhx q6, zhx q7, zhx q65, zhx q66, zhx q78, zhx q79] at h1 h8 h9 h67 h77 h80 ⊢ <;> omega))
              have q85 := zhd ((zu_ne (k' := 2) (b' := 0) (i' := 0) (j' := 0) hYm81 (fun q => absurd q.1 (by decide))))
              replace hM := zE_n hM (by first | (have q6 := zhx q6; have q7 := zhx q7; have q65 := zhx q65; have q66 := zhx q66; have q78 := zhx q78; have q79 := zhx q79; have q85 := zhx q85; omega) | (simp only [zhx q6, zhx q7, zhx q65, zhx q66, zhx q78, zhx q79, zhx q85] at h1 h8 h9 h67 h77 h80 ⊢ <;> omega))
              replace hM := zE_n hM (by first | (have q6 := zhx q6; have q7 := zhx q7; have q65 := zhx q65; have q66 := zhx q66; have q78 := zhx q78; have q79 := zhx q79; omega) | (simp only [zhx q6, zhx q7, zhx q65, zhx q66, zhx q78, zhx q79] at h1 h8 h9 h67 h77 h80 ⊢ <;> omega))
              obtain ⟨Ym86, hYm86, hM⟩ := zl_x hM
              have hR87 : zRx [] 0 Z Ym86 := zRx_o hR82 hYm86 rfl
              have hV88 : zV Ym86 := zV_o hV83 hYm86 rfl
              have hG89 := yFr_o hG84 hYm86 rfl (.inr rfl) rfl
              have q90 := zhd (((zu_ne (k' := 2) (b' := 0) (i' := 0) (j' := 3252 + 24 * a1) hYm86 (fun q => absurd q.1 (by decide))).trans (zu_ne (k' := 2) (b' := 0) (i' := 0) (j' := 3252 + 24 * a1) hYm81 (fun q => absurd q.1 (by decide)))))
              rcases zE_c hM with ⟨h91, hM⟩ | ⟨h91, hM⟩
              · obtain ⟨Ym92, hYm92, hM⟩ := zl_x hM
                have hR93 : zRx [] 0 Z Ym92 := zRx_o hR87 hYm92 rfl
                have hV94 : zV Ym92 := zV_o hV88 hYm92 rfl
                have hG95 := yFr_o hG89 hYm92 rfl (.inr rfl) rfl
                exact False.elim (by have q6 := zhx q6; have q7 := zhx q7; have q65 := zhx q65; have q66 := zhx q66; have q78 := zhx q78; have q79 := zhx q79; have q90 := zhx q90; first | omega | grind)
              · obtain ⟨Ym96, hYm96, hM⟩ := zl_x hM
                have hR97 : zRx [] 0 Z Ym96 := zRx_o hR87 hYm96 rfl
                have hV98 : zV Ym96 := zV_o hV88 hYm96 rfl
                have hG99 := yFr_o hG89 hYm96 rfl (.inr rfl) rfl
                have th9 := (zu_at hYm96)
                obtain rfl : C = _ := hC
                obtain rfl : M = _ := hM
                exact ⟨zRx_1 hR97, hV98, ⟨Z, _, .inl ⟨rfl, yFr_w hG99 (by decide)⟩, zFc_r, yFr_r⟩, zThr_e th9 (by decide)⟩
            · replace hM := zE_n hM (by first | (have q6 := zhx q6; have q7 := zhx q7; have q65 := zhx q65; have q66 := zhx q66; have q78 := zhx q78; have q79 := zhx q79; omega) | (simp only [zhx q6, zhx q7, zhx q65, zhx q66, zhx q78, zhx q79] at h1 h8 h9 h67 h77 h80 ⊢ <;> omega))
              replace hM := zE_n hM (by first | (have q6 := zhx q6; have q7 := zhx q7; have q65 := zhx q65; have q66 := zhx q66; have q78 := zhx q78; have q79 := zhx q79; omega) | (simp only [zhx q6, zhx q7, zhx q65, zhx q66, zhx q78, zhx q79] at h1 h8 h9 h67 h77 h80 ⊢ <;> omega))
              obtain ⟨Ym100, hYm100, hM⟩ := zl_x hM
              have hR101 : zRx [] 0 Z Ym100 := zRx_o hRb hYm100 rfl
              have hV102 : zV Ym100 := zV_o hV hYm100 rfl
              have hG103 := yFr_o hG hYm100 rfl (.inr rfl) rfl
              replace hM := zE_n hM (by first | (have q6 := zhx q6; have q7 := zhx q7; have q65 := zhx q65; have q66 := zhx q66; have q78 := zhx q78; have q79 := zhx q79; omega) | (simp only [zhx q6, zhx q7, zhx q65, zhx q66, zhx q78, zhx q79] at h1 h8 h9 h67 h77 h80 ⊢ <;> omega))
              have q104 := zhd ((zu_ne (k' := 2) (b' := 0) (i' := 0) (j' := 0) hYm100 (fun q => absurd q.1 (by decide))))
              replace hM := zE_n hM (by first | (have q6 := zhx q6; have q7 := zhx q7; have q65 := zhx q65; have q66 := zhx q66; have q78 := zhx q78; have q79 := zhx q79; have q104 := zhx q104; omega) | (simp only [zhx q6, zhx q7, zhx q65, zhx q66, zhx q78, zhx q79, zhx q104] at h1 h8 h9 h67 h77 h80 ⊢ <;> omega))
              replace hM := zE_n hM (by first | (have q6 := zhx q6; have q7 := zhx q7; have q65 := zhx q65; have q66 := zhx q66; have q78 := zhx q78; have q79 := zhx q79; omega) | (simp only [zhx q6, zhx q7, zhx q65, zhx q66, zhx q78, zhx q79] at h1 h8 h9 h67 h77 h80 ⊢ <;> omega))
              obtain ⟨Ym105, hYm105, hM⟩ := zl_x hM
              have hR106 : zRx [] 0 Z Ym105 := zRx_o hR101 hYm105 rfl
              have hV107 : zV Ym105 := zV_o hV102 hYm105 rfl
              have hG108 := yFr_o hG103 hYm105 rfl (.inr rfl) rfl
              have q109 := zhd (((zu_ne (k' := 2) (b' := 0) (i' := 0) (j' := 3252 + 24 * a1) hYm105 (fun q => absurd q.1 (by decide))).trans (zu_ne (k' := 2) (b' := 0) (i' := 0) (j' := 3252 + 24 * a1) hYm100 (fun q => absurd q.1 (by decide)))))
              replace hM := zE_p hM (by first | (have q6 := zhx q6; have q7 := zhx q7; have q65 := zhx q65; have q66 := zhx q66; have q78 := zhx q78; have q79 := zhx q79; have q109 := zhx q109; omega) | (simp only [zhx q6, zhx q7, zhx q65, zhx q66, zhx q78, zhx q79, zhx q109] at h1 h8 h9 h67 h77 h80 ⊢ <;> omega))
              obtain ⟨Ym110, hYm110, hM⟩ := zl_x hM
              have hR111 : zRx [] 0 Z Ym110 := zRx_o hR106 hYm110 rfl
              have hV112 : zV Ym110 := zV_o hV107 hYm110 rfl
              have hG113 := yFr_o hG108 hYm110 rfl (.inr rfl) rfl
              obtain ⟨Zc114, hZc114, hC⟩ := zl_x hC
              obtain ⟨Ym115, hYm115, hM⟩ := zl_x hM
              have hR116 : zRx [] 0 Zc114 Ym115 := zRx_dd hR111 hI hd hZc114 hYm115
              have hV117 : zV Ym115 := zV_dm hV112 hd hYm115
              have hD1_118 : zD1 0 Zc114 Ym115 := (zD1_f (zD1_f hD1 hF.1 hG113.1 ⟨rfl, rfl, rfl⟩) (zFa_dd hI hZc114) (yFa_dm hd hYm115) ⟨rfl, rfl, rfl⟩)
              have hD4_119 : zD4 0 Zc114 Ym115 := (zD4_f (zD4_f hD4 hF.1 hG113.1 ⟨⟨rfl, rfl⟩, rfl, rfl, rfl⟩) (zFa_dd hI hZc114) (yFa_dm hd hYm115) ⟨⟨rfl, rfl⟩, rfl, rfl, rfl⟩)
              have hN1_120 : zN1 Ym115 := (zN1_f (zN1_f hN1 hG113.1 ⟨rfl, rfl, rfl, rfl⟩) (yFa_dm hd hYm115) ⟨rfl, rfl, rfl, rfl⟩)
              have hN4_121 : zN4 Ym115 := (zN4_f (zN4_f hN4 hG113.1 ⟨rfl, rfl, rfl⟩) (yFa_dm hd hYm115) ⟨rfl, rfl, rfl⟩)
              have hDs_122 : zDs 0 Zc114 Ym115 := (zDs_f (zDs_f hDs hF.1 hG113.1 ⟨rfl, rfl⟩) (zFa_dd hI hZc114) (yFa_dm hd hYm115) ⟨rfl, rfl⟩)
              have hDw_123 : zDw 0 Zc114 Ym115 := (zDw_f (zDw_f hDw hF.1 hG113.1 ⟨rfl, rfl⟩) (zFa_dd hI hZc114) (yFa_dm hd hYm115) ⟨rfl, rfl⟩)
              have hDl_124 : zDl 0 Zc114 Ym115 := (zDl_f (zDl_f hDl hF.1 hG113.1 ⟨rfl, rfl, rfl, rfl, rfl⟩) (zFa_dd hI hZc114) (yFa_dm hd hYm115) ⟨rfl, rfl, rfl, rfl, rfl⟩)
              have hF125 : zFc [5003] 0 Zc114 Zc114 := zFc_r
              have hG126 : yFr [5003] Ym115 Ym115 := yFr_r
              obtain ⟨Zc127, hZc127, hC⟩ := zl_x hC
              obtain ⟨Ym128, hYm128, hM⟩ := zl_x hM
              have hV129 : zV Ym128 := zV_n hV117 hYm128 (zvn_50_3 (x := a1) (by first | (omega) | (have q6 := zhx q6; have q7 := zhx q7; have q65 := zhx q65; have q66 := zhx q66; have q78 := zhx q78; have q79 := zhx q79; omega)) (by first | (omega) | (have q6 := zhx q6; have q7 := zhx q7; have q65 := zhx q65; have q66 := zhx q66; have q78 := zhx q78; have q79 := zhx q79; omega)) (by first | (omega) | (have q6 := zhx q6; have q7 := zhx q7; have q65 := zhx q65; have q66 := zhx q66; have q78 := zhx q78; have q79 := zhx q79; omega)))
              have hR130 : zRx [] 0 Zc127 Ym128 := zRx_w hR116 (ac_50_3 (by first | (omega) | (have q6 := zhx q6; have q7 := zhx q7; have q65 := zhx q65; have q66 := zhx q66; have q78 := zhx q78; have q79 := zhx q79; omega)) (by first | (omega) | (have q6 := zhx q6; have q7 := zhx q7; have q65 := zhx q65; have q66 := zhx q66; have q78 := zhx q78; have q79 := zhx q79; omega)) (by first | (omega) | (have q6 := zhx q6; have q7 := zhx q7; have q65 := zhx q65; have q66 := zhx q66; have q78 := zhx q78; have q79 := zhx q79; omega))) hZc127 hYm128 (by first | rfl | (omega) | (simp only [] <;> omega))
              have hF131 := zFc_u hF125 hZc127 rfl rfl
              have hG132 := yFr_u hG126 hYm128 (zcm_s (ac_50_3 (a := 3253 + 24 * a1) (x := a1) (by first | (omega) | (have q6 := zhx q6; have q7 := zhx q7; have q65 := zhx q65; have q66 := zhx q66; have q78 := zhx q78; have q79 := zhx q79; omega)) (by first | (omega) | (have q6 := zhx q6; have q7 := zhx q7; have q65 := zhx q65; have q66 := zhx q66; have q78 := zhx q78; have q79 := zhx q79; omega)) (by first | (omega) | (have q6 := zhx q6; have q7 := zhx q7; have q65 := zhx q65; have q66 := zhx q66; have q78 := zhx q78; have q79 := zhx q79; omega)))) rfl
              have th9 := (((zu_ne (k' := 1) (b' := 0) (i' := 0) (j' := 2) hYm128 (fun q => absurd q.1 (by decide))).trans (zTh_dm hd hYm115 (by decide))).trans (zu_at hYm110))
              have q133 := zhd (((((yFa_dm hd hYm115 (3253 + 24 * a1) rfl).trans (zu_ne (k' := 2) (b' := 0) (i' := 0) (j' := 3253 + 24 * a1) hYm110 (fun q => absurd q.1 (by decide)))).trans (zu_ne (k' := 2) (b' := 0) (i' := 0) (j' := 3253 + 24 * a1) hYm105 (fun q => absurd q.1 (by decide)))).trans (zu_ne (k' := 2) (b' := 0) (i' := 0) (j' := 3253 + 24 * a1) hYm100 (fun q => absurd q.1 (by decide)))))
              have q134 := zhd (((zRl_50_3 (x := a1) (a := 3253 + 24 * a1) (zRx_1 hR116) (by first | (omega) | (have q6 := zhx q6; have q7 := zhx q7; have q65 := zhx q65; have q66 := zhx q66; have q78 := zhx q78; have q79 := zhx q79; omega)) (by first | (omega) | (have q6 := zhx q6; have q7 := zhx q7; have q65 := zhx q65; have q66 := zhx q66; have q78 := zhx q78; have q79 := zhx q79; omega)) (by first | (omega) | (have q6 := zhx q6; have q7 := zhx q7; have q65 := zhx q65; have q66 := zhx q66; have q78 := zhx q78; have q79 := zhx q79; omega))).trans (zhx q133)))
              obtain rfl : C = _ := hC
              obtain rfl : M = _ := hM
              exact ⟨zRx_1 hR130, hV129, ⟨Zc114, Ym115, .inr ⟨21, a1, a2, 0, 0, 0, 0, 22, Ym110, hZc114, yFr_w hG113 (by decide), hYm115, (by unfold zcode; omega)⟩, zFc_w hF131 (by decide), yFr_w hG132 (by decide)⟩, zThr_a th9 (by first | rfl | (have q6 := zhx q6; have q7 := zhx q7; have q65 := zhx q65; have q66 := zhx q66; have q78 := zhx q78; have q79 := zhx q79; have q133 := zhx q133; have q134 := zhx q134; omega) | (simp only [zhx q6, zhx q7, zhx q65, zhx q66, zhx q78, zhx q79, zhx q133, zhx q134] <;> omega) | (have q6 := zhx q6; have q7 := zhx q7; have q65 := zhx q65; have q66 := zhx q66; have q78 := zhx q78; have q79 := zhx q79; have q133 := zhx q133; have q134 := zhx q134; refine w3z ?_ ?_ ?_ <;> omega) | (have q6 := zhx q6; have q7 := zhx q7; have q65 := zhx q65; have q66 := zhx q66; have q78 := zhx q78; have q79 := zhx q79; have q133 := zhx q133; have q134 := zhx q134; refine w3y ?_ ?_ ?_ <;> omega) | (have q6 := zhx q6; have q7 := zhx q7; have q65 := zhx q65; have q66 := zhx q66; have q78 := zhx q78; have q79 := zhx q79; have q133 := zhx q133; have q134 := zhx q134; refine z2o ?_ ?_ ?_ <;> omega))⟩
          · replace hM := zE_n hM (by first | (have q6 := zhx q6; have q7 := zhx q7; have q65 := zhx q65; have q66 := zhx q66; omega) | (simp only [zhx q6, zhx q7, zhx q65, zhx q66] at h1 h8 h9 h67 h77 ⊢ <;> omega))
            replace hM := zE_n hM (by first | (have q6 := zhx q6; have q7 := zhx q7; have q65 := zhx q65; have q66 := zhx q66; omega) | (simp only [zhx q6, zhx q7, zhx q65, zhx q66] at h1 h8 h9 h67 h77 ⊢ <;> omega))
            obtain ⟨Ym135, hYm135, hM⟩ := zl_x hM
            have hR136 : zRx [] 0 Z Ym135 := zRx_o hRb hYm135 rfl
            have hV137 : zV Ym135 := zV_o hV hYm135 rfl
            have hG138 := yFr_o hG hYm135 rfl (.inr rfl) rfl
            replace hM := zE_n hM (by first | (have q6 := zhx q6; have q7 := zhx q7; have q65 := zhx q65; have q66 := zhx q66; omega) | (simp only [zhx q6, zhx q7, zhx q65, zhx q66] at h1 h8 h9 h67 h77 ⊢ <;> omega))
            have q139 := zhd ((zu_ne (k' := 2) (b' := 0) (i' := 0) (j' := 0) hYm135 (fun q => absurd q.1 (by decide))))
            replace hM := zE_n hM (by first | (have q6 := zhx q6; have q7 := zhx q7; have q65 := zhx q65; have q66 := zhx q66; have q139 := zhx q139; omega) | (simp only [zhx q6, zhx q7, zhx q65, zhx q66, zhx q139] at h1 h8 h9 h67 h77 ⊢ <;> omega))
            replace hM := zE_p hM (by first | (have q6 := zhx q6; have q7 := zhx q7; have q65 := zhx q65; have q66 := zhx q66; omega) | (simp only [zhx q6, zhx q7, zhx q65, zhx q66] at h1 h8 h9 h67 h77 ⊢ <;> omega))
            obtain ⟨Ym140, hYm140, hM⟩ := zl_x hM
            have hR141 : zRx [] 0 Z Ym140 := zRx_o hR136 hYm140 rfl
            have hV142 : zV Ym140 := zV_o hV137 hYm140 rfl
            have hG143 := yFr_o hG138 hYm140 rfl (.inr rfl) rfl
            have th9 := (zu_at hYm140)
            obtain rfl : C = _ := hC
            obtain rfl : M = _ := hM
            exact ⟨zRx_1 hR141, hV142, ⟨Z, _, .inl ⟨rfl, yFr_w hG143 (by decide)⟩, zFc_r, yFr_r⟩, zThr_e th9 (by decide)⟩
    · replace hM := zE_n hM (by first | (have q6 := zhx q6; have q7 := zhx q7; omega) | (simp only [zhx q6, zhx q7] at h1 h8 ⊢ <;> omega))
      replace hM := zE_p hM (by first | (have q6 := zhx q6; have q7 := zhx q7; omega) | (simp only [zhx q6, zhx q7] at h1 h8 ⊢ <;> omega))
      obtain ⟨Ym144, hYm144, hM⟩ := zl_x hM
      have hR145 : zRx [] 0 Z Ym144 := zRx_o hRb hYm144 rfl
      have hV146 : zV Ym144 := zV_o hV hYm144 rfl
      have hG147 := yFr_o hG hYm144 rfl (.inr rfl) rfl
      have th9 := (zu_at hYm144)
      obtain rfl : C = _ := hC
      obtain rfl : M = _ := hM
      exact ⟨zRx_1 hR145, hV146, ⟨Z, _, .inl ⟨rfl, yFr_w hG147 (by decide)⟩, zFc_r, yFr_r⟩, zThr_e th9 (by decide)⟩

/- face hand -/
theorem rf_hand {Z Y : qz_Z} {dm : qz_Z → Int → Int → Int → Int → Int → Int → Int → qz_Z} {a1 a2 : Int} (hRa : zR 0 Z Y) (hV : zV Y) (hI : zI none Z) (hd : zDf dm) (hD1 : zD1 0 Z Y) (hD4 : zD4 0 Z Y) (hN1 : zN1 Y) (hN4 : zN4 Y) (hDs : zDs 0 Z Y) (hDw : zDw 0 Z Y) (hDl : zDl 0 Z Y)  {C : qz_Z × Int × Int} {M : qz_Z × Int} (hC : zE C (zx_206 Z a1 a2)) (hM : zE M (zy_349 Y a1 a2)) : zR 0 C.1 M.1 ∧ zV M.1 ∧ zDd [] [99999] Z Y dm C.1 M.1 ∧ zThr [(24, 1), (13, 2)] C.2 (M.1 1 0 0 2) M.2 := by
  have hRb := zRx_0 hRa
  have hF : zFc [] 0 Z Z := zFc_r
  have hG : yFr [99999] Y Y := yFr_r
  unfold zx_206 at hC
  unfold zy_349 at hM
  have q1 := zhd (zVr_11_7 (a := 3000) hV (by omega))
  have q2 := zhd ((zRl_11_7 (a := 3000) hRa (by omega)))
  rcases zE_c hC with ⟨h3, hC⟩ | ⟨h3, hC⟩
  · rcases zE_c hC with ⟨h4, hC⟩ | ⟨h4, hC⟩
    · rcases zE_c hC with ⟨h5, hC⟩ | ⟨h5, hC⟩
      · replace hM := zE_n hM (by first | (have q1 := zhx q1; have q2 := zhx q2; omega) | (simp only [zhx q1, zhx q2] at h3 h4 h5 ⊢ <;> omega))
        replace hM := zE_n hM (by first | (have q1 := zhx q1; have q2 := zhx q2; omega) | (simp only [zhx q1, zhx q2] at h3 h4 h5 ⊢ <;> omega))
        obtain ⟨Ym6, hYm6, hM⟩ := zl_x hM
        have hR7 : zRx [] 0 Z Ym6 := zRx_o hRb hYm6 rfl
        have hV8 : zV Ym6 := zV_o hV hYm6 rfl
        have hG9 := yFr_o hG hYm6 rfl (.inr rfl) rfl
        replace hM := zE_n hM (by first | (have q1 := zhx q1; have q2 := zhx q2; omega) | (simp only [zhx q1, zhx q2] at h3 h4 h5 ⊢ <;> omega))
        replace hM := zE_n hM (by first | (have q1 := zhx q1; have q2 := zhx q2; omega) | (simp only [zhx q1, zhx q2] at h3 h4 h5 ⊢ <;> omega))
        obtain ⟨Ym10, hYm10, hM⟩ := zl_x hM
        have hR11 : zRx [] 0 Z Ym10 := zRx_o hR7 hYm10 rfl
        have hV12 : zV Ym10 := zV_o hV8 hYm10 rfl
        have hG13 := yFr_o hG9 hYm10 rfl (.inr rfl) rfl
        replace hM := zE_p hM (by first | (have q1 := zhx q1; have q2 := zhx q2; omega) | (simp only [zhx q1, zhx q2] at h3 h4 h5 ⊢ <;> omega))
        have th9 := (zu_at hYm10)
        have q14 := zhd (((zRb_48_0 (x := a1) (j := a2) (a := 3010 + 60 * a1 + a2) (zRx_1 hR11) (by have q1 := zhx q1; have q2 := zhx q2; omega) (by have q1 := zhx q1; have q2 := zhx q2; omega) (by have q1 := zhx q1; have q2 := zhx q2; omega) (by have q1 := zhx q1; have q2 := zhx q2; omega) (by have q1 := zhx q1; have q2 := zhx q2; omega)).trans (((zu_ne (k' := 2) (b' := 0) (i' := 0) (j' := 3010 + 60 * a1 + a2) hYm10 (fun q => absurd q.1 (by decide))).trans (zu_ne (k' := 2) (b' := 0) (i' := 0) (j' := 3010 + 60 * a1 + a2) hYm6 (fun q => absurd q.1 (by decide)))))))
        have q15 := zhd (((zu_ne (k' := 2) (b' := 0) (i' := 0) (j' := 3010 + 60 * a1 + a2) hYm10 (fun q => absurd q.1 (by decide))).trans (zu_ne (k' := 2) (b' := 0) (i' := 0) (j' := 3010 + 60 * a1 + a2) hYm6 (fun q => absurd q.1 (by decide)))))
        obtain rfl : C = _ := hC
        obtain rfl : M = _ := hM
        exact ⟨zRx_1 hR11, hV12, ⟨Z, _, .inl ⟨rfl, yFr_w hG13 (by decide)⟩, zFc_r, yFr_r⟩, zThr_a th9 (by first | rfl | (have q1 := zhx q1; have q2 := zhx q2; have q14 := zhx q14; have q15 := zhx q15; omega) | (simp only [zhx q1, zhx q2, zhx q14, zhx q15] <;> omega) | (have q1 := zhx q1; have q2 := zhx q2; have q14 := zhx q14; have q15 := zhx q15; refine w3z ?_ ?_ ?_ <;> omega) | (have q1 := zhx q1; have q2 := zhx q2; have q14 := zhx q14; have q15 := zhx q15; refine w3y ?_ ?_ ?_ <;> omega) | (have q1 := zhx q1; have q2 := zhx q2; have q14 := zhx q14; have q15 := zhx q15; refine z2o ?_ ?_ ?_ <;> omega))⟩
      · have q16 := zhd (zVr_11_13 (a := 0) hV (by omega))
        have q17 := zhd ((zRl_11_13 (a := 0) hRa (by omega)))
        have q18 := zhd ((zRl_48_0 (x := a1) (a := 3010 + 60 * a1) hRa (by have q1 := zhx q1; have q2 := zhx q2; omega) (by have q1 := zhx q1; have q2 := zhx q2; omega) (by have q1 := zhx q1; have q2 := zhx q2; omega)))
        rcases zE_c hC with ⟨h19, hC⟩ | ⟨h19, hC⟩
        · replace hM := zE_n hM (by first | (have q1 := zhx q1; have q2 := zhx q2; have q16 := zhx q16; have q17 := zhx q17; have q18 := zhx q18; omega) | (simp only [zhx q1, zhx q2, zhx q16, zhx q17, zhx q18] at h3 h4 h5 h19 ⊢ <;> omega))
          replace hM := zE_n hM (by first | (have q1 := zhx q1; have q2 := zhx q2; have q16 := zhx q16; have q17 := zhx q17; have q18 := zhx q18; omega) | (simp only [zhx q1, zhx q2, zhx q16, zhx q17, zhx q18] at h3 h4 h5 h19 ⊢ <;> omega))
          obtain ⟨Ym20, hYm20, hM⟩ := zl_x hM
          have hR21 : zRx [] 0 Z Ym20 := zRx_o hRb hYm20 rfl
          have hV22 : zV Ym20 := zV_o hV hYm20 rfl
          have hG23 := yFr_o hG hYm20 rfl (.inr rfl) rfl
          replace hM := zE_n hM (by first | (have q1 := zhx q1; have q2 := zhx q2; have q16 := zhx q16; have q17 := zhx q17; have q18 := zhx q18; omega) | (simp only [zhx q1, zhx q2, zhx q16, zhx q17, zhx q18] at h3 h4 h5 h19 ⊢ <;> omega))
          replace hM := zE_n hM (by first | (have q1 := zhx q1; have q2 := zhx q2; have q16 := zhx q16; have q17 := zhx q17; have q18 := zhx q18; omega) | (simp only [zhx q1, zhx q2, zhx q16, zhx q17, zhx q18] at h3 h4 h5 h19 ⊢ <;> omega))
          obtain ⟨Ym24, hYm24, hM⟩ := zl_x hM
          have hR25 : zRx [] 0 Z Ym24 := zRx_o hR21 hYm24 rfl
          have hV26 : zV Ym24 := zV_o hV22 hYm24 rfl
          have hG27 := yFr_o hG23 hYm24 rfl (.inr rfl) rfl
          replace hM := zE_n hM (by first | (have q1 := zhx q1; have q2 := zhx q2; have q16 := zhx q16; have q17 := zhx q17; have q18 := zhx q18; omega) | (simp only [zhx q1, zhx q2, zhx q16, zhx q17, zhx q18] at h3 h4 h5 h19 ⊢ <;> omega))
          have q28 := zhd (((zu_ne (k' := 2) (b' := 0) (i' := 0) (j' := 0) hYm24 (fun q => absurd q.1 (by decide))).trans (zu_ne (k' := 2) (b' := 0) (i' := 0) (j' := 0) hYm20 (fun q => absurd q.1 (by decide)))))
          have q29 := zhd (((zu_ne (k' := 2) (b' := 0) (i' := 0) (j' := 3010 + 60 * a1) hYm24 (fun q => absurd q.1 (by decide))).trans (zu_ne (k' := 2) (b' := 0) (i' := 0) (j' := 3010 + 60 * a1) hYm20 (fun q => absurd q.1 (by decide)))))
          replace hM := zE_p hM (by first | (have q1 := zhx q1; have q2 := zhx q2; have q16 := zhx q16; have q17 := zhx q17; have q18 := zhx q18; have q28 := zhx q28; have q29 := zhx q29; omega) | (simp only [zhx q1, zhx q2, zhx q16, zhx q17, zhx q18, zhx q28, zhx q29] at h3 h4 h5 h19 ⊢ <;> omega))
          have th9 := (zu_at hYm24)
          obtain rfl : C = _ := hC
          obtain rfl : M = _ := hM
          exact ⟨zRx_1 hR25, hV26, ⟨Z, _, .inl ⟨rfl, yFr_w hG27 (by decide)⟩, zFc_r, yFr_r⟩, zThr_a th9 (by first | rfl | (have q1 := zhx q1; have q2 := zhx q2; have q16 := zhx q16; have q17 := zhx q17; have q18 := zhx q18; omega) | (simp only [zhx q1, zhx q2, zhx q16, zhx q17, zhx q18] <;> omega) | (have q1 := zhx q1; have q2 := zhx q2; have q16 := zhx q16; have q17 := zhx q17; have q18 := zhx q18; refine w3z ?_ ?_ ?_ <;> omega) | (have q1 := zhx q1; have q2 := zhx q2; have q16 := zhx q16; have q17 := zhx q17; have q18 := zhx q18; refine w3y ?_ ?_ ?_ <;> omega) | (have q1 := zhx q1; have q2 := zhx q2; have q16 := zhx q16; have q17 := zhx q17; have q18 := zhx q18; refine z2o ?_ ?_ ?_ <;> omega))⟩
        · have q30 := zhd ((zRl_48_1 (x := a1) (a := 3011 + 60 * a1) hRa (by first | (omega) | (have q1 := zhx q1; have q2 := zhx q2; have q16 := zhx q16; have q17 := zhx q17; have q18 := zhx q18; omega)) (by first | (omega) | (have q1 := zhx q1; have q2 := zhx q2; have q16 := zhx q16; have q17 := zhx q17; have q18 := zhx q18; omega)) (by first | (omega) | (have q1 := zhx q1; have q2 := zhx q2; have q16 := zhx q16; have q17 := zhx q17; have q18 := zhx q18; omega))))
          rcases zE_c hC with ⟨h31, hC⟩ | ⟨h31, hC⟩
          · replace hM := zE_n hM (by first | (have q1 := zhx q1; have q2 := zhx q2; have q16 := zhx q16; have q17 := zhx q17; have q18 := zhx q18; have q30 := zhx q30; omega) | (simp only [zhx q1, zhx q2, zhx q16, zhx q17, zhx q18, zhx q30] at h3 h4 h5 h19 h31 ⊢ <;> omega))
            replace hM := zE_n hM (by first | (have q1 := zhx q1; have q2 := zhx q2; have q16 := zhx q16; have q17 := zhx q17; have q18 := zhx q18; have q30 := zhx q30; omega) | (simp only [zhx q1, zhx q2, zhx q16, zhx q17, zhx q18, zhx q30] at h3 h4 h5 h19 h31 ⊢ <;> omega))
            obtain ⟨Ym32, hYm32, hM⟩ := zl_x hM
            have hR33 : zRx [] 0 Z Ym32 := zRx_o hRb hYm32 rfl
            have hV34 : zV Ym32 := zV_o hV hYm32 rfl
            have hG35 := yFr_o hG hYm32 rfl (.inr rfl) rfl
            replace hM := zE_n hM (by first | (have q1 := zhx q1; have q2 := zhx q2; have q16 := zhx q16; have q17 := zhx q17; have q18 := zhx q18; have q30 := zhx q30; omega) | (simp only [zhx q1, zhx q2, zhx q16, zhx q17, zhx q18, zhx q30] at h3 h4 h5 h19 h31 ⊢ <;> omega))
            replace hM := zE_n hM (by first | (have q1 := zhx q1; have q2 := zhx q2; have q16 := zhx q16; have q17 := zhx q17; have q18 := zhx q18; have q30 := zhx q30; omega) | (simp only [zhx q1, zhx q2, zhx q16, zhx q17, zhx q18, zhx q30] at h3 h4 h5 h19 h31 ⊢ <;> omega))
            obtain ⟨Ym36, hYm36, hM⟩ := zl_x hM
            have hR37 : zRx [] 0 Z Ym36 := zRx_o hR33 hYm36 rfl
            have hV38 : zV Ym36 := zV_o hV34 hYm36 rfl
            have hG39 := yFr_o hG35 hYm36 rfl (.inr rfl) rfl
            replace hM := zE_n hM (by first | (have q1 := zhx q1; have q2 := zhx q2; have q16 := zhx q16; have q17 := zhx q17; have q18 := zhx q18; have q30 := zhx q30; omega) | (simp only [zhx q1, zhx q2, zhx q16, zhx q17, zhx q18, zhx q30] at h3 h4 h5 h19 h31 ⊢ <;> omega))
            have q40 := zhd (((zu_ne (k' := 2) (b' := 0) (i' := 0) (j' := 0) hYm36 (fun q => absurd q.1 (by decide))).trans (zu_ne (k' := 2) (b' := 0) (i' := 0) (j' := 0) hYm32 (fun q => absurd q.1 (by decide)))))
            have q41 := zhd (((zu_ne (k' := 2) (b' := 0) (i' := 0) (j' := 3010 + 60 * a1) hYm36 (fun q => absurd q.1 (by decide))).trans (zu_ne (k' := 2) (b' := 0) (i' := 0) (j' := 3010 + 60 * a1) hYm32 (fun q => absurd q.1 (by decide)))))
            replace hM := zE_n hM (by first | (have q1 := zhx q1; have q2 := zhx q2; have q16 := zhx q16; have q17 := zhx q17; have q18 := zhx q18; have q30 := zhx q30; have q40 := zhx q40; have q41 := zhx q41; omega) | (simp only [zhx q1, zhx q2, zhx q16, zhx q17, zhx q18, zhx q30, zhx q40, zhx q41] at h3 h4 h5 h19 h31 ⊢ <;> omega))
            have q42 := zhd (((zu_ne (k' := 2) (b' := 0) (i' := 0) (j' := 3011 + 60 * a1) hYm36 (fun q => absurd q.1 (by decide))).trans (zu_ne (k' := 2) (b' := 0) (i' := 0) (j' := 3011 + 60 * a1) hYm32 (fun q => absurd q.1 (by decide)))))
            replace hM := zE_p hM (by first | (have q1 := zhx q1; have q2 := zhx q2; have q16 := zhx q16; have q17 := zhx q17; have q18 := zhx q18; have q30 := zhx q30; have q40 := zhx q40; have q41 := zhx q41; have q42 := zhx q42; omega) | (simp only [zhx q1, zhx q2, zhx q16, zhx q17, zhx q18, zhx q30, zhx q40, zhx q41, zhx q42] at h3 h4 h5 h19 h31 ⊢ <;> omega))
            have th9 := (zu_at hYm36)
            obtain rfl : C = _ := hC
            obtain rfl : M = _ := hM
            exact ⟨zRx_1 hR37, hV38, ⟨Z, _, .inl ⟨rfl, yFr_w hG39 (by decide)⟩, zFc_r, yFr_r⟩, zThr_a th9 (by first | rfl | (have q1 := zhx q1; have q2 := zhx q2; have q16 := zhx q16; have q17 := zhx q17; have q18 := zhx q18; have q30 := zhx q30; omega) | (simp only [zhx q1, zhx q2, zhx q16, zhx q17, zhx q18, zhx q30] <;> omega) | (have q1 := zhx q1; have q2 := zhx q2; have q16 := zhx q16; have q17 := zhx q17; have q18 := zhx q18; have q30 := zhx q30; refine w3z ?_ ?_ ?_ <;> omega) | (have q1 := zhx q1; have q2 := zhx q2; have q16 := zhx q16; have q17 := zhx q17; have q18 := zhx q18; have q30 := zhx q30; refine w3y ?_ ?_ ?_ <;> omega) | (have q1 := zhx q1; have q2 := zhx q2; have q16 := zhx q16; have q17 := zhx q17; have q18 := zhx q18; have q30 := zhx q30; refine z2o ?_ ?_ ?_ <;> omega))⟩
          · replace hM := zE_n hM (by first | (have q1 := zhx q1; have q2 := zhx q2; have q16 := zhx q16; have q17 := zhx q17; have q18 := zhx q18; have q30 := zhx q30; omega) | (simp only [zhx q1, zhx q2, zhx q16, zhx q17, zhx q18, zhx q30] at h3 h4 h5 h19 h31 ⊢ <;> omega))
            replace hM := zE_n hM (by first | (have q1 := zhx q1; have q2 := zhx q2; have q16 := zhx q16; have q17 := zhx q17; have q18 := zhx q18; have q30 := zhx q30; omega) | (simp only [zhx q1, zhx q2, zhx q16, zhx q17, zhx q18, zhx q30] at h3 h4 h5 h19 h31 ⊢ <;> omega))
            obtain ⟨Ym43, hYm43, hM⟩ := zl_x hM
            have hR44 : zRx [] 0 Z Ym43 := zRx_o hRb hYm43 rfl
            have hV45 : zV Ym43 := zV_o hV hYm43 rfl
            have hG46 := yFr_o hG hYm43 rfl (.inr rfl) rfl
            replace hM := zE_n hM (by first | (have q1 := zhx q1; have q2 := zhx q2; have q16 := zhx q16; have q17 := zhx q17; have q18 := zhx q18; have q30 := zhx q30; omega) | (simp only [zhx q1, zhx q2, zhx q16, zhx q17, zhx q18, zhx q30] at h3 h4 h5 h19 h31 ⊢ <;> omega))
            replace hM := zE_n hM (by first | (have q1 := zhx q1; have q2 := zhx q2; have q16 := zhx q16; have q17 := zhx q17; have q18 := zhx q18; have q30 := zhx q30; omega) | (simp only [zhx q1, zhx q2, zhx q16, zhx q17, zhx q18, zhx q30] at h3 h4 h5 h19 h31 ⊢ <;> omega))
            obtain ⟨Ym47, hYm47, hM⟩ := zl_x hM
            have hR48 : zRx [] 0 Z Ym47 := zRx_o hR44 hYm47 rfl
            have hV49 : zV Ym47 := zV_o hV45 hYm47 rfl
            have hG50 := yFr_o hG46 hYm47 rfl (.inr rfl) rfl
            replace hM := zE_n hM (by first | (have q1 := zhx q1; have q2 := zhx q2; have q16 := zhx q16; have q17 := zhx q17; have q18 := zhx q18; have q30 := zhx q30; omega) | (simp only [zhx q1, zhx q2, zhx q16, zhx q17, zhx q18, zhx q30] at h3 h4 h5 h19 h31 ⊢ <;> omega))
            have q51 := zhd (((zu_ne (k' := 2) (b' := 0) (i' := 0) (j' := 0) hYm47 (fun q => absurd q.1 (by decide))).trans (zu_ne (k' := 2) (b' := 0) (i' := 0) (j' := 0) hYm43 (fun q => absurd q.1 (by decide)))))
            have q52 := zhd (((zu_ne (k' := 2) (b' := 0) (i' := 0) (j' := 3010 + 60 * a1) hYm47 (fun q => absurd q.1 (by decide))).trans (zu_ne (k' := 2) (b' := 0) (i' := 0) (j' := 3010 + 60 * a1) hYm43 (fun q => absurd q.1 (by decide)))))
            replace hM := zE_n hM (by first | (have q1 := zhx q1; have q2 := zhx q2; have q16 := zhx q16; have q17 := zhx q17; have q18 := zhx q18; have q30 := zhx q30; have q51 := zhx q51; have q52 := zhx q52; omega) | (simp only [zhx q1, zhx q2, zhx q16, zhx q17, zhx q18, zhx q30, zhx q51, zhx q52] at h3 h4 h5 h19 h31 ⊢ <;> omega))
            have q53 := zhd (((zu_ne (k' := 2) (b' := 0) (i' := 0) (j' := 3011 + 60 * a1) hYm47 (fun q => absurd q.1 (by decide))).trans (zu_ne (k' := 2) (b' := 0) (i' := 0) (j' := 3011 + 60 * a1) hYm43 (fun q => absurd q.1 (by decide)))))
            replace hM := zE_n hM (by first | (have q1 := zhx q1; have q2 := zhx q2; have q16 := zhx q16; have q17 := zhx q17; have q18 := zhx q18; have q30 := zhx q30; have q51 := zhx q51; have q52 := zhx q52; have q53 := zhx q53; omega) | (simp only [zhx q1, zhx q2, zhx q16, zhx q17, zhx q18, zhx q30, zhx q51, zhx q52, zhx q53] at h3 h4 h5 h19 h31 ⊢ <;> omega))
            have th9 := (zu_at hYm47)
            obtain rfl : C = _ := hC
            obtain rfl : M = _ := hM
            exact ⟨zRx_1 hR48, hV49, ⟨Z, _, .inl ⟨rfl, yFr_w hG50 (by decide)⟩, zFc_r, yFr_r⟩, zThr_a th9 (by first | rfl | (have q1 := zhx q1; have q2 := zhx q2; have q16 := zhx q16; have q17 := zhx q17; have q18 := zhx q18; have q30 := zhx q30; omega) | (simp only [zhx q1, zhx q2, zhx q16, zhx q17, zhx q18, zhx q30] <;> omega) | (have q1 := zhx q1; have q2 := zhx q2; have q16 := zhx q16; have q17 := zhx q17; have q18 := zhx q18; have q30 := zhx q30; refine w3z ?_ ?_ ?_ <;> omega) | (have q1 := zhx q1; have q2 := zhx q2; have q16 := zhx q16; have q17 := zhx q17; have q18 := zhx q18; have q30 := zhx q30; refine w3y ?_ ?_ ?_ <;> omega) | (have q1 := zhx q1; have q2 := zhx q2; have q16 := zhx q16; have q17 := zhx q17; have q18 := zhx q18; have q30 := zhx q30; refine z2o ?_ ?_ ?_ <;> omega))⟩
    · replace hM := zE_n hM (by first | (have q1 := zhx q1; have q2 := zhx q2; omega) | (simp only [zhx q1, zhx q2] at h3 h4 ⊢ <;> omega))
      replace hM := zE_n hM (by first | (have q1 := zhx q1; have q2 := zhx q2; omega) | (simp only [zhx q1, zhx q2] at h3 h4 ⊢ <;> omega))
      obtain ⟨Ym54, hYm54, hM⟩ := zl_x hM
      have hR55 : zRx [] 0 Z Ym54 := zRx_o hRb hYm54 rfl
      have hV56 : zV Ym54 := zV_o hV hYm54 rfl
      have hG57 := yFr_o hG hYm54 rfl (.inr rfl) rfl
      rcases zE_c hM with ⟨h58, hM⟩ | ⟨h58, hM⟩
      · obtain ⟨Ym59, hYm59, hM⟩ := zl_x hM
        have hR60 : zRx [] 0 Z Ym59 := zRx_o hR55 hYm59 rfl
        have hV61 : zV Ym59 := zV_o hV56 hYm59 rfl
        have hG62 := yFr_o hG57 hYm59 rfl (.inr rfl) rfl
        have th9 := (zu_at hYm59)
        obtain rfl : C = _ := hC
        obtain rfl : M = _ := hM
        exact ⟨zRx_1 hR60, hV61, ⟨Z, _, .inl ⟨rfl, yFr_w hG62 (by decide)⟩, zFc_r, yFr_r⟩, zThr_e th9 (by decide)⟩
      · rcases zE_c hM with ⟨h63, hM⟩ | ⟨h63, hM⟩
        · obtain ⟨Ym64, hYm64, hM⟩ := zl_x hM
          have hR65 : zRx [] 0 Z Ym64 := zRx_o hR55 hYm64 rfl
          have hV66 : zV Ym64 := zV_o hV56 hYm64 rfl
          have hG67 := yFr_o hG57 hYm64 rfl (.inr rfl) rfl
          have th9 := (zu_at hYm64)
          obtain rfl : C = _ := hC
          obtain rfl : M = _ := hM
          exact ⟨zRx_1 hR65, hV66, ⟨Z, _, .inl ⟨rfl, yFr_w hG67 (by decide)⟩, zFc_r, yFr_r⟩, zThr_e th9 (by decide)⟩
        · obtain ⟨Ym68, hYm68, hM⟩ := zl_x hM
          have hR69 : zRx [] 0 Z Ym68 := zRx_o hR55 hYm68 rfl
          have hV70 : zV Ym68 := zV_o hV56 hYm68 rfl
          have hG71 := yFr_o hG57 hYm68 rfl (.inr rfl) rfl
          rcases zE_c hM with ⟨h72, hM⟩ | ⟨h72, hM⟩
          · exact False.elim (by have q1 := zhx q1; have q2 := zhx q2; first | omega | grind)
          · have q73 := zhd (zVr_11_13 (a := 0) hV (by omega))
            have q74 := zhd (((zu_ne (k' := 2) (b' := 0) (i' := 0) (j' := 0) hYm68 (fun q => absurd q.1 (by decide))).trans (zu_ne (k' := 2) (b' := 0) (i' := 0) (j' := 0) hYm54 (fun q => absurd q.1 (by decide)))))
            have q75 := zhd (((zu_ne (k' := 2) (b' := 0) (i' := 0) (j' := 3010 + 60 * a1) hYm68 (fun q => absurd q.1 (by decide))).trans (zu_ne (k' := 2) (b' := 0) (i' := 0) (j' := 3010 + 60 * a1) hYm54 (fun q => absurd q.1 (by decide)))))
            rcases zE_c hM with ⟨h76, hM⟩ | ⟨h76, hM⟩
            · exact False.elim (by have q1 := zhx q1; have q2 := zhx q2; have q73 := zhx q73; have q74 := zhx q74; have q75 := zhx q75; first | omega | grind)
            · have q77 := zhd (((zu_ne (k' := 2) (b' := 0) (i' := 0) (j' := 3011 + 60 * a1) hYm68 (fun q => absurd q.1 (by decide))).trans (zu_ne (k' := 2) (b' := 0) (i' := 0) (j' := 3011 + 60 * a1) hYm54 (fun q => absurd q.1 (by decide)))))
              rcases zE_c hM with ⟨h78, hM⟩ | ⟨h78, hM⟩
              · exact False.elim (by have q1 := zhx q1; have q2 := zhx q2; have q73 := zhx q73; have q74 := zhx q74; have q75 := zhx q75; have q77 := zhx q77; first | omega | grind)
              · exact False.elim (by have q1 := zhx q1; have q2 := zhx q2; have q73 := zhx q73; have q74 := zhx q74; have q75 := zhx q75; have q77 := zhx q77; first | omega | grind)
  · rcases zE_c hM with ⟨h79, hM⟩ | ⟨h79, hM⟩
    · obtain ⟨Ym80, hYm80, hM⟩ := zl_x hM
      have hR81 : zRx [] 0 Z Ym80 := zRx_o hRb hYm80 rfl
      have hV82 : zV Ym80 := zV_o hV hYm80 rfl
      have hG83 := yFr_o hG hYm80 rfl (.inr rfl) rfl
      have th9 := (zu_at hYm80)
      obtain rfl : C = _ := hC
      obtain rfl : M = _ := hM
      exact ⟨zRx_1 hR81, hV82, ⟨Z, _, .inl ⟨rfl, yFr_w hG83 (by decide)⟩, zFc_r, yFr_r⟩, zThr_e th9 (by decide)⟩
    · rcases zE_c hM with ⟨h84, hM⟩ | ⟨h84, hM⟩
      · obtain ⟨Ym85, hYm85, hM⟩ := zl_x hM
        have hR86 : zRx [] 0 Z Ym85 := zRx_o hRb hYm85 rfl
        have hV87 : zV Ym85 := zV_o hV hYm85 rfl
        have hG88 := yFr_o hG hYm85 rfl (.inr rfl) rfl
        have th9 := (zu_at hYm85)
        obtain rfl : C = _ := hC
        obtain rfl : M = _ := hM
        exact ⟨zRx_1 hR86, hV87, ⟨Z, _, .inl ⟨rfl, yFr_w hG88 (by decide)⟩, zFc_r, yFr_r⟩, zThr_e th9 (by decide)⟩
      · obtain ⟨Ym89, hYm89, hM⟩ := zl_x hM
        have hR90 : zRx [] 0 Z Ym89 := zRx_o hRb hYm89 rfl
        have hV91 : zV Ym89 := zV_o hV hYm89 rfl
        have hG92 := yFr_o hG hYm89 rfl (.inr rfl) rfl
        rcases zE_c hM with ⟨h93, hM⟩ | ⟨h93, hM⟩
        · obtain ⟨Ym94, hYm94, hM⟩ := zl_x hM
          have hR95 : zRx [] 0 Z Ym94 := zRx_o hR90 hYm94 rfl
          have hV96 : zV Ym94 := zV_o hV91 hYm94 rfl
          have hG97 := yFr_o hG92 hYm94 rfl (.inr rfl) rfl
          exact False.elim (by have q1 := zhx q1; have q2 := zhx q2; first | omega | grind)
        · rcases zE_c hM with ⟨h98, hM⟩ | ⟨h98, hM⟩
          · obtain ⟨Ym99, hYm99, hM⟩ := zl_x hM
            have hR100 : zRx [] 0 Z Ym99 := zRx_o hR90 hYm99 rfl
            have hV101 : zV Ym99 := zV_o hV91 hYm99 rfl
            have hG102 := yFr_o hG92 hYm99 rfl (.inr rfl) rfl
            exact False.elim (by have q1 := zhx q1; have q2 := zhx q2; first | omega | grind)
          · obtain ⟨Ym103, hYm103, hM⟩ := zl_x hM
            have hR104 : zRx [] 0 Z Ym103 := zRx_o hR90 hYm103 rfl
            have hV105 : zV Ym103 := zV_o hV91 hYm103 rfl
            have hG106 := yFr_o hG92 hYm103 rfl (.inr rfl) rfl
            rcases zE_c hM with ⟨h107, hM⟩ | ⟨h107, hM⟩
            · exact False.elim (by have q1 := zhx q1; have q2 := zhx q2; first | omega | grind)
            · have q108 := zhd (zVr_11_13 (a := 0) hV (by omega))
              have q109 := zhd (((zu_ne (k' := 2) (b' := 0) (i' := 0) (j' := 0) hYm103 (fun q => absurd q.1 (by decide))).trans (zu_ne (k' := 2) (b' := 0) (i' := 0) (j' := 0) hYm89 (fun q => absurd q.1 (by decide)))))
              have q110 := zhd (((zu_ne (k' := 2) (b' := 0) (i' := 0) (j' := 3010 + 60 * a1) hYm103 (fun q => absurd q.1 (by decide))).trans (zu_ne (k' := 2) (b' := 0) (i' := 0) (j' := 3010 + 60 * a1) hYm89 (fun q => absurd q.1 (by decide)))))
              rcases zE_c hM with ⟨h111, hM⟩ | ⟨h111, hM⟩
              · exact False.elim (by have q1 := zhx q1; have q2 := zhx q2; have q108 := zhx q108; have q109 := zhx q109; have q110 := zhx q110; first | omega | grind)
              · have q112 := zhd (((zu_ne (k' := 2) (b' := 0) (i' := 0) (j' := 3011 + 60 * a1) hYm103 (fun q => absurd q.1 (by decide))).trans (zu_ne (k' := 2) (b' := 0) (i' := 0) (j' := 3011 + 60 * a1) hYm89 (fun q => absurd q.1 (by decide)))))
                rcases zE_c hM with ⟨h113, hM⟩ | ⟨h113, hM⟩
                · exact False.elim (by have q1 := zhx q1; have q2 := zhx q2; have q108 := zhx q108; have q109 := zhx q109; have q110 := zhx q110; have q112 := zhx q112; first | omega | grind)
                · exact False.elim (by have q1 := zhx q1; have q2 := zhx q2; have q108 := zhx q108; have q109 := zhx q109; have q110 := zhx q110; have q112 := zhx q112; first | omega | grind)

/- face entry -/
theorem rf_entry {Z Y : qz_Z} {dm : qz_Z → Int → Int → Int → Int → Int → Int → Int → qz_Z} {a1 a2 : Int} (hRa : zR 0 Z Y) (hV : zV Y) (hI : zI none Z) (hd : zDf dm) (hD1 : zD1 0 Z Y) (hD4 : zD4 0 Z Y) (hN1 : zN1 Y) (hN4 : zN4 Y) (hDs : zDs 0 Z Y) (hDw : zDw 0 Z Y) (hDl : zDl 0 Z Y)  {C : qz_Z × Int × Int} {M : qz_Z × Int} (hC : zE C (zx_199 Z a1 a2)) (hM : zE M (zy_339 Y a1 a2)) : zR 0 C.1 M.1 ∧ zV M.1 ∧ zDd [] [99999] Z Y dm C.1 M.1 ∧ zThr [(24, 1), (13, 2)] C.2 (M.1 1 0 0 2) M.2 := by
  have hRb := zRx_0 hRa
  have hF : zFc [] 0 Z Z := zFc_r
  have hG : yFr [99999] Y Y := yFr_r
  unfold zx_199 at hC
  unfold zy_339 at hM
  have q1 := zhd ((zRl_11_12 (a := 3814) hRa (by omega)))
  rcases zE_c hC with ⟨h2, hC⟩ | ⟨h2, hC⟩
  · rcases zE_c hC with ⟨h3, hC⟩ | ⟨h3, hC⟩
    · rcases zE_c hM with ⟨h4, hM⟩ | ⟨h4, hM⟩
      · replace hM := zE_n hM (by first | (have q1 := zhx q1; omega) | (simp only [zhx q1] at h2 h3 h4 ⊢ <;> omega))
        rcases zE_c hM with ⟨h5, hM⟩ | ⟨h5, hM⟩
        · obtain ⟨Ym6, hYm6, hM⟩ := zl_x hM
          have hR7 : zRx [] 0 Z Ym6 := zRx_o hRb hYm6 rfl
          have hV8 : zV Ym6 := zV_o hV hYm6 rfl
          have hG9 := yFr_o hG hYm6 rfl (.inr rfl) rfl
          exact False.elim (by have q1 := zhx q1; first | omega | grind)
        · obtain ⟨Ym10, hYm10, hM⟩ := zl_x hM
          have hR11 : zRx [] 0 Z Ym10 := zRx_o hRb hYm10 rfl
          have hV12 : zV Ym10 := zV_o hV hYm10 rfl
          have hG13 := yFr_o hG hYm10 rfl (.inr rfl) rfl
          replace hM := zE_n hM (by first | (have q1 := zhx q1; omega) | (simp only [zhx q1] at h2 h3 h4 h5 ⊢ <;> omega))
          replace hM := zE_n hM (by first | (have q1 := zhx q1; omega) | (simp only [zhx q1] at h2 h3 h4 h5 ⊢ <;> omega))
          obtain ⟨Ym14, hYm14, hM⟩ := zl_x hM
          have hR15 : zRx [] 0 Z Ym14 := zRx_o hR11 hYm14 rfl
          have hV16 : zV Ym14 := zV_o hV12 hYm14 rfl
          have hG17 := yFr_o hG13 hYm14 rfl (.inr rfl) rfl
          have th9 := (zu_at hYm14)
          have q18 := zhd (((zRb_53_0 (x := (((Z 11 0 0 12) - 1 - a1) % 60)) (j := a2) (a := 3950 + 5 * ((-1 + (Y 2 0 0 3814) + -1 * a1) % 60) + a2) (zRx_1 hR15) (by have q1 := zhx q1; omega) (by have q1 := zhx q1; omega) (by have q1 := zhx q1; omega) (by have q1 := zhx q1; omega) (by have q1 := zhx q1; omega)).trans (((zu_ne (k' := 2) (b' := 0) (i' := 0) (j' := 3950 + 5 * ((-1 + (Y 2 0 0 3814) + -1 * a1) % 60) + a2) hYm14 (fun q => absurd q.1 (by decide))).trans (zu_ne (k' := 2) (b' := 0) (i' := 0) (j' := 3950 + 5 * ((-1 + (Y 2 0 0 3814) + -1 * a1) % 60) + a2) hYm10 (fun q => absurd q.1 (by decide)))))))
          have q19 := zhd (((zu_ne (k' := 2) (b' := 0) (i' := 0) (j' := 3814) hYm14 (fun q => absurd q.1 (by decide))).trans (zu_ne (k' := 2) (b' := 0) (i' := 0) (j' := 3814) hYm10 (fun q => absurd q.1 (by decide)))))
          have q20 := zhd (congrArg (Ym14 2 0 0) (show (3950 + 5 * (((Ym14 2 0 0 3814) - 1 - a1) % 60) + a2) = 3950 + 5 * ((-1 + (Y 2 0 0 3814) + -1 * a1) % 60) + a2 from (by have q1 := zhx q1; have q19 := zhx q19; omega)))
          have q21 := zhd (((zu_ne (k' := 2) (b' := 0) (i' := 0) (j' := 3950 + 5 * ((-1 + (Y 2 0 0 3814) + -1 * a1) % 60) + a2) hYm14 (fun q => absurd q.1 (by decide))).trans (zu_ne (k' := 2) (b' := 0) (i' := 0) (j' := 3950 + 5 * ((-1 + (Y 2 0 0 3814) + -1 * a1) % 60) + a2) hYm10 (fun q => absurd q.1 (by decide)))))
          obtain rfl : C = _ := hC
          obtain rfl : M = _ := hM
          exact ⟨zRx_1 hR15, hV16, ⟨Z, _, .inl ⟨rfl, yFr_w hG17 (by decide)⟩, zFc_r, yFr_r⟩, zThr_a th9 (by first | rfl | (have q1 := zhx q1; have q18 := zhx q18; have q19 := zhx q19; have q20 := zhx q20; have q21 := zhx q21; omega) | (simp only [zhx q1, zhx q18, zhx q19, zhx q20, zhx q21] <;> omega) | (have q1 := zhx q1; have q18 := zhx q18; have q19 := zhx q19; have q20 := zhx q20; have q21 := zhx q21; refine w3z ?_ ?_ ?_ <;> omega) | (have q1 := zhx q1; have q18 := zhx q18; have q19 := zhx q19; have q20 := zhx q20; have q21 := zhx q21; refine w3y ?_ ?_ ?_ <;> omega) | (have q1 := zhx q1; have q18 := zhx q18; have q19 := zhx q19; have q20 := zhx q20; have q21 := zhx q21; refine z2o ?_ ?_ ?_ <;> omega))⟩
      · replace hM := zE_n hM (by first | (have q1 := zhx q1; omega) | (simp only [zhx q1] at h2 h3 h4 ⊢ <;> omega))
        rcases zE_c hM with ⟨h22, hM⟩ | ⟨h22, hM⟩
        · obtain ⟨Ym23, hYm23, hM⟩ := zl_x hM
          have hR24 : zRx [] 0 Z Ym23 := zRx_o hRb hYm23 rfl
          have hV25 : zV Ym23 := zV_o hV hYm23 rfl
          have hG26 := yFr_o hG hYm23 rfl (.inr rfl) rfl
          exact False.elim (by have q1 := zhx q1; first | omega | grind)
        · obtain ⟨Ym27, hYm27, hM⟩ := zl_x hM
          have hR28 : zRx [] 0 Z Ym27 := zRx_o hRb hYm27 rfl
          have hV29 : zV Ym27 := zV_o hV hYm27 rfl
          have hG30 := yFr_o hG hYm27 rfl (.inr rfl) rfl
          replace hM := zE_n hM (by first | (have q1 := zhx q1; omega) | (simp only [zhx q1] at h2 h3 h4 h22 ⊢ <;> omega))
          replace hM := zE_n hM (by first | (have q1 := zhx q1; omega) | (simp only [zhx q1] at h2 h3 h4 h22 ⊢ <;> omega))
          obtain ⟨Ym31, hYm31, hM⟩ := zl_x hM
          have hR32 : zRx [] 0 Z Ym31 := zRx_o hR28 hYm31 rfl
          have hV33 : zV Ym31 := zV_o hV29 hYm31 rfl
          have hG34 := yFr_o hG30 hYm31 rfl (.inr rfl) rfl
          have th9 := (zu_at hYm31)
          have q35 := zhd (((zRb_53_0 (x := (((Z 11 0 0 12) - 1 - a1) % 60)) (j := a2) (a := 3950 + 5 * ((-1 + (Y 2 0 0 3814) + -1 * a1) % 60) + a2) (zRx_1 hR32) (by have q1 := zhx q1; omega) (by have q1 := zhx q1; omega) (by have q1 := zhx q1; omega) (by have q1 := zhx q1; omega) (by have q1 := zhx q1; omega)).trans (((zu_ne (k' := 2) (b' := 0) (i' := 0) (j' := 3950 + 5 * ((-1 + (Y 2 0 0 3814) + -1 * a1) % 60) + a2) hYm31 (fun q => absurd q.1 (by decide))).trans (zu_ne (k' := 2) (b' := 0) (i' := 0) (j' := 3950 + 5 * ((-1 + (Y 2 0 0 3814) + -1 * a1) % 60) + a2) hYm27 (fun q => absurd q.1 (by decide)))))))
          have q36 := zhd (((zu_ne (k' := 2) (b' := 0) (i' := 0) (j' := 3814) hYm31 (fun q => absurd q.1 (by decide))).trans (zu_ne (k' := 2) (b' := 0) (i' := 0) (j' := 3814) hYm27 (fun q => absurd q.1 (by decide)))))
          have q37 := zhd (congrArg (Ym31 2 0 0) (show (3950 + 5 * (((Ym31 2 0 0 3814) - 1 - a1) % 60) + a2) = 3950 + 5 * ((-1 + (Y 2 0 0 3814) + -1 * a1) % 60) + a2 from (by have q1 := zhx q1; have q36 := zhx q36; omega)))
          have q38 := zhd (((zu_ne (k' := 2) (b' := 0) (i' := 0) (j' := 3950 + 5 * ((-1 + (Y 2 0 0 3814) + -1 * a1) % 60) + a2) hYm31 (fun q => absurd q.1 (by decide))).trans (zu_ne (k' := 2) (b' := 0) (i' := 0) (j' := 3950 + 5 * ((-1 + (Y 2 0 0 3814) + -1 * a1) % 60) + a2) hYm27 (fun q => absurd q.1 (by decide)))))
          obtain rfl : C = _ := hC
          obtain rfl : M = _ := hM
          exact ⟨zRx_1 hR32, hV33, ⟨Z, _, .inl ⟨rfl, yFr_w hG34 (by decide)⟩, zFc_r, yFr_r⟩, zThr_a th9 (by first | rfl | (have q1 := zhx q1; have q35 := zhx q35; have q36 := zhx q36; have q37 := zhx q37; have q38 := zhx q38; omega) | (simp only [zhx q1, zhx q35, zhx q36, zhx q37, zhx q38] <;> omega) | (have q1 := zhx q1; have q35 := zhx q35; have q36 := zhx q36; have q37 := zhx q37; have q38 := zhx q38; refine w3z ?_ ?_ ?_ <;> omega) | (have q1 := zhx q1; have q35 := zhx q35; have q36 := zhx q36; have q37 := zhx q37; have q38 := zhx q38; refine w3y ?_ ?_ ?_ <;> omega) | (have q1 := zhx q1; have q35 := zhx q35; have q36 := zhx q36; have q37 := zhx q37; have q38 := zhx q38; refine z2o ?_ ?_ ?_ <;> omega))⟩
    · rcases zE_c hM with ⟨h39, hM⟩ | ⟨h39, hM⟩
      · replace hM := zE_n hM (by first | (have q1 := zhx q1; omega) | (simp only [zhx q1] at h2 h3 h39 ⊢ <;> omega))
        rcases zE_c hM with ⟨h40, hM⟩ | ⟨h40, hM⟩
        · obtain ⟨Ym41, hYm41, hM⟩ := zl_x hM
          have hR42 : zRx [] 0 Z Ym41 := zRx_o hRb hYm41 rfl
          have hV43 : zV Ym41 := zV_o hV hYm41 rfl
          have hG44 := yFr_o hG hYm41 rfl (.inr rfl) rfl
          exact False.elim (by have q1 := zhx q1; first | omega | grind)
        · obtain ⟨Ym45, hYm45, hM⟩ := zl_x hM
          have hR46 : zRx [] 0 Z Ym45 := zRx_o hRb hYm45 rfl
          have hV47 : zV Ym45 := zV_o hV hYm45 rfl
          have hG48 := yFr_o hG hYm45 rfl (.inr rfl) rfl
          rcases zE_c hM with ⟨h49, hM⟩ | ⟨h49, hM⟩
          · obtain ⟨Ym50, hYm50, hM⟩ := zl_x hM
            have hR51 : zRx [] 0 Z Ym50 := zRx_o hR46 hYm50 rfl
            have hV52 : zV Ym50 := zV_o hV47 hYm50 rfl
            have hG53 := yFr_o hG48 hYm50 rfl (.inr rfl) rfl
            have th9 := (zu_at hYm50)
            obtain rfl : C = _ := hC
            obtain rfl : M = _ := hM
            exact ⟨zRx_1 hR51, hV52, ⟨Z, _, .inl ⟨rfl, yFr_w hG53 (by decide)⟩, zFc_r, yFr_r⟩, zThr_e th9 (by decide)⟩
          · rcases zE_c hM with ⟨h54, hM⟩ | ⟨h54, hM⟩
            · obtain ⟨Ym55, hYm55, hM⟩ := zl_x hM
              have hR56 : zRx [] 0 Z Ym55 := zRx_o hR46 hYm55 rfl
              have hV57 : zV Ym55 := zV_o hV47 hYm55 rfl
              have hG58 := yFr_o hG48 hYm55 rfl (.inr rfl) rfl
              have th9 := (zu_at hYm55)
              obtain rfl : C = _ := hC
              obtain rfl : M = _ := hM
              exact ⟨zRx_1 hR56, hV57, ⟨Z, _, .inl ⟨rfl, yFr_w hG58 (by decide)⟩, zFc_r, yFr_r⟩, zThr_e th9 (by decide)⟩
            · obtain ⟨Ym59, hYm59, hM⟩ := zl_x hM
              have hR60 : zRx [] 0 Z Ym59 := zRx_o hR46 hYm59 rfl
              have hV61 : zV Ym59 := zV_o hV47 hYm59 rfl
              have hG62 := yFr_o hG48 hYm59 rfl (.inr rfl) rfl
              exact False.elim (by have q1 := zhx q1; first | omega | grind)
      · replace hM := zE_n hM (by first | (have q1 := zhx q1; omega) | (simp only [zhx q1] at h2 h3 h39 ⊢ <;> omega))
        rcases zE_c hM with ⟨h63, hM⟩ | ⟨h63, hM⟩
        · obtain ⟨Ym64, hYm64, hM⟩ := zl_x hM
          have hR65 : zRx [] 0 Z Ym64 := zRx_o hRb hYm64 rfl
          have hV66 : zV Ym64 := zV_o hV hYm64 rfl
          have hG67 := yFr_o hG hYm64 rfl (.inr rfl) rfl
          exact False.elim (by have q1 := zhx q1; first | omega | grind)
        · obtain ⟨Ym68, hYm68, hM⟩ := zl_x hM
          have hR69 : zRx [] 0 Z Ym68 := zRx_o hRb hYm68 rfl
          have hV70 : zV Ym68 := zV_o hV hYm68 rfl
          have hG71 := yFr_o hG hYm68 rfl (.inr rfl) rfl
          rcases zE_c hM with ⟨h72, hM⟩ | ⟨h72, hM⟩
          · obtain ⟨Ym73, hYm73, hM⟩ := zl_x hM
            have hR74 : zRx [] 0 Z Ym73 := zRx_o hR69 hYm73 rfl
            have hV75 : zV Ym73 := zV_o hV70 hYm73 rfl
            have hG76 := yFr_o hG71 hYm73 rfl (.inr rfl) rfl
            have th9 := (zu_at hYm73)
            obtain rfl : C = _ := hC
            obtain rfl : M = _ := hM
            exact ⟨zRx_1 hR74, hV75, ⟨Z, _, .inl ⟨rfl, yFr_w hG76 (by decide)⟩, zFc_r, yFr_r⟩, zThr_e th9 (by decide)⟩
          · rcases zE_c hM with ⟨h77, hM⟩ | ⟨h77, hM⟩
            · obtain ⟨Ym78, hYm78, hM⟩ := zl_x hM
              have hR79 : zRx [] 0 Z Ym78 := zRx_o hR69 hYm78 rfl
              have hV80 : zV Ym78 := zV_o hV70 hYm78 rfl
              have hG81 := yFr_o hG71 hYm78 rfl (.inr rfl) rfl
              have th9 := (zu_at hYm78)
              obtain rfl : C = _ := hC
              obtain rfl : M = _ := hM
              exact ⟨zRx_1 hR79, hV80, ⟨Z, _, .inl ⟨rfl, yFr_w hG81 (by decide)⟩, zFc_r, yFr_r⟩, zThr_e th9 (by decide)⟩
            · obtain ⟨Ym82, hYm82, hM⟩ := zl_x hM
              have hR83 : zRx [] 0 Z Ym82 := zRx_o hR69 hYm82 rfl
              have hV84 : zV Ym82 := zV_o hV70 hYm82 rfl
              have hG85 := yFr_o hG71 hYm82 rfl (.inr rfl) rfl
              exact False.elim (by have q1 := zhx q1; first | omega | grind)
  · rcases zE_c hM with ⟨h86, hM⟩ | ⟨h86, hM⟩
    · rcases zE_c hM with ⟨h87, hM⟩ | ⟨h87, hM⟩
      · obtain ⟨Ym88, hYm88, hM⟩ := zl_x hM
        have hR89 : zRx [] 0 Z Ym88 := zRx_o hRb hYm88 rfl
        have hV90 : zV Ym88 := zV_o hV hYm88 rfl
        have hG91 := yFr_o hG hYm88 rfl (.inr rfl) rfl
        have th9 := (zu_at hYm88)
        obtain rfl : C = _ := hC
        obtain rfl : M = _ := hM
        exact ⟨zRx_1 hR89, hV90, ⟨Z, _, .inl ⟨rfl, yFr_w hG91 (by decide)⟩, zFc_r, yFr_r⟩, zThr_e th9 (by decide)⟩
      · rcases zE_c hM with ⟨h92, hM⟩ | ⟨h92, hM⟩
        · obtain ⟨Ym93, hYm93, hM⟩ := zl_x hM
          have hR94 : zRx [] 0 Z Ym93 := zRx_o hRb hYm93 rfl
          have hV95 : zV Ym93 := zV_o hV hYm93 rfl
          have hG96 := yFr_o hG hYm93 rfl (.inr rfl) rfl
          have th9 := (zu_at hYm93)
          obtain rfl : C = _ := hC
          obtain rfl : M = _ := hM
          exact ⟨zRx_1 hR94, hV95, ⟨Z, _, .inl ⟨rfl, yFr_w hG96 (by decide)⟩, zFc_r, yFr_r⟩, zThr_e th9 (by decide)⟩
        · obtain ⟨Ym97, hYm97, hM⟩ := zl_x hM
          have hR98 : zRx [] 0 Z Ym97 := zRx_o hRb hYm97 rfl
          have hV99 : zV Ym97 := zV_o hV hYm97 rfl
          have hG100 := yFr_o hG hYm97 rfl (.inr rfl) rfl
          rcases zE_c hM with ⟨h101, hM⟩ | ⟨h101, hM⟩
          · obtain ⟨Ym102, hYm102, hM⟩ := zl_x hM
            have hR103 : zRx [] 0 Z Ym102 := zRx_o hR98 hYm102 rfl
            have hV104 : zV Ym102 := zV_o hV99 hYm102 rfl
            have hG105 := yFr_o hG100 hYm102 rfl (.inr rfl) rfl
            exact False.elim (by have q1 := zhx q1; first | omega | grind)
          · rcases zE_c hM with ⟨h106, hM⟩ | ⟨h106, hM⟩
            · obtain ⟨Ym107, hYm107, hM⟩ := zl_x hM
              have hR108 : zRx [] 0 Z Ym107 := zRx_o hR98 hYm107 rfl
              have hV109 : zV Ym107 := zV_o hV99 hYm107 rfl
              have hG110 := yFr_o hG100 hYm107 rfl (.inr rfl) rfl
              exact False.elim (by have q1 := zhx q1; first | omega | grind)
            · obtain ⟨Ym111, hYm111, hM⟩ := zl_x hM
              have hR112 : zRx [] 0 Z Ym111 := zRx_o hR98 hYm111 rfl
              have hV113 : zV Ym111 := zV_o hV99 hYm111 rfl
              have hG114 := yFr_o hG100 hYm111 rfl (.inr rfl) rfl
              exact False.elim (by have q1 := zhx q1; first | omega | grind)
    · rcases zE_c hM with ⟨h115, hM⟩ | ⟨h115, hM⟩
      · obtain ⟨Ym116, hYm116, hM⟩ := zl_x hM
        have hR117 : zRx [] 0 Z Ym116 := zRx_o hRb hYm116 rfl
        have hV118 : zV Ym116 := zV_o hV hYm116 rfl
        have hG119 := yFr_o hG hYm116 rfl (.inr rfl) rfl
        have th9 := (zu_at hYm116)
        obtain rfl : C = _ := hC
        obtain rfl : M = _ := hM
        exact ⟨zRx_1 hR117, hV118, ⟨Z, _, .inl ⟨rfl, yFr_w hG119 (by decide)⟩, zFc_r, yFr_r⟩, zThr_e th9 (by decide)⟩
      · rcases zE_c hM with ⟨h120, hM⟩ | ⟨h120, hM⟩
        · obtain ⟨Ym121, hYm121, hM⟩ := zl_x hM
          have hR122 : zRx [] 0 Z Ym121 := zRx_o hRb hYm121 rfl
          have hV123 : zV Ym121 := zV_o hV hYm121 rfl
          have hG124 := yFr_o hG hYm121 rfl (.inr rfl) rfl
          have th9 := (zu_at hYm121)
          obtain rfl : C = _ := hC
          obtain rfl : M = _ := hM
          exact ⟨zRx_1 hR122, hV123, ⟨Z, _, .inl ⟨rfl, yFr_w hG124 (by decide)⟩, zFc_r, yFr_r⟩, zThr_e th9 (by decide)⟩
        · obtain ⟨Ym125, hYm125, hM⟩ := zl_x hM
          have hR126 : zRx [] 0 Z Ym125 := zRx_o hRb hYm125 rfl
          have hV127 : zV Ym125 := zV_o hV hYm125 rfl
          have hG128 := yFr_o hG hYm125 rfl (.inr rfl) rfl
          rcases zE_c hM with ⟨h129, hM⟩ | ⟨h129, hM⟩
          · obtain ⟨Ym130, hYm130, hM⟩ := zl_x hM
            have hR131 : zRx [] 0 Z Ym130 := zRx_o hR126 hYm130 rfl
            have hV132 : zV Ym130 := zV_o hV127 hYm130 rfl
            have hG133 := yFr_o hG128 hYm130 rfl (.inr rfl) rfl
            exact False.elim (by have q1 := zhx q1; first | omega | grind)
          · rcases zE_c hM with ⟨h134, hM⟩ | ⟨h134, hM⟩
            · obtain ⟨Ym135, hYm135, hM⟩ := zl_x hM
              have hR136 : zRx [] 0 Z Ym135 := zRx_o hR126 hYm135 rfl
              have hV137 : zV Ym135 := zV_o hV127 hYm135 rfl
              have hG138 := yFr_o hG128 hYm135 rfl (.inr rfl) rfl
              exact False.elim (by have q1 := zhx q1; first | omega | grind)
            · obtain ⟨Ym139, hYm139, hM⟩ := zl_x hM
              have hR140 : zRx [] 0 Z Ym139 := zRx_o hR126 hYm139 rfl
              have hV141 : zV Ym139 := zV_o hV127 hYm139 rfl
              have hG142 := yFr_o hG128 hYm139 rfl (.inr rfl) rfl
              exact False.elim (by have q1 := zhx q1; first | omega | grind)

/- face owed -/
theorem rf_owed {Z Y : qz_Z} {dm : qz_Z → Int → Int → Int → Int → Int → Int → Int → qz_Z} {a1 a2 : Int} (hRa : zR 0 Z Y) (hV : zV Y) (hI : zI none Z) (hd : zDf dm) (hD1 : zD1 0 Z Y) (hD4 : zD4 0 Z Y) (hN1 : zN1 Y) (hN4 : zN4 Y) (hDs : zDs 0 Z Y) (hDw : zDw 0 Z Y) (hDl : zDl 0 Z Y)  {C : qz_Z × Int × Int} {M : qz_Z × Int} (hC : zE C (zx_223 Z a1 a2)) (hM : zE M (zy_444 Y a1 a2)) : zR 0 C.1 M.1 ∧ zV M.1 ∧ zDd [] [99999] Z Y dm C.1 M.1 ∧ zThr [(24, 1), (13, 2)] C.2 (M.1 1 0 0 2) M.2 := by
  have hRb := zRx_0 hRa
  have hF : zFc [] 0 Z Z := zFc_r
  have hG : yFr [99999] Y Y := yFr_r
  unfold zx_223 at hC
  unfold zy_444 at hM
  have q1 := zhd (zVr_11_1 (a := 101) hV (by omega))
  have q2 := zhd ((zRl_11_1 (a := 101) hRa (by omega)))
  rcases zE_c hC with ⟨h3, hC⟩ | ⟨h3, hC⟩
  · rcases zE_c hC with ⟨h4, hC⟩ | ⟨h4, hC⟩
    · replace hM := zE_n hM (by first | (have q1 := zhx q1; have q2 := zhx q2; omega) | (simp only [zhx q1, zhx q2] at h3 h4 ⊢ <;> omega))
      replace hM := zE_n hM (by first | (have q1 := zhx q1; have q2 := zhx q2; omega) | (simp only [zhx q1, zhx q2] at h3 h4 ⊢ <;> omega))
      obtain ⟨Ym5, hYm5, hM⟩ := zl_x hM
      have hR6 : zRx [] 0 Z Ym5 := zRx_o hRb hYm5 rfl
      have hV7 : zV Ym5 := zV_o hV hYm5 rfl
      have hG8 := yFr_o hG hYm5 rfl (.inr rfl) rfl
      replace hM := zE_n hM (by first | (have q1 := zhx q1; have q2 := zhx q2; omega) | (simp only [zhx q1, zhx q2] at h3 h4 ⊢ <;> omega))
      replace hM := zE_n hM (by first | (have q1 := zhx q1; have q2 := zhx q2; omega) | (simp only [zhx q1, zhx q2] at h3 h4 ⊢ <;> omega))
      obtain ⟨Ym9, hYm9, hM⟩ := zl_x hM
      have hR10 : zRx [] 0 Z Ym9 := zRx_o hR6 hYm9 rfl
      have hV11 : zV Ym9 := zV_o hV7 hYm9 rfl
      have hG12 := yFr_o hG8 hYm9 rfl (.inr rfl) rfl
      have th9 := (zu_at hYm9)
      have q13 := zhd (((zRb_42_2 (x := a1) (j := (2 + a2)) (a := 3820 + 5 * a1 + a2) (zRx_1 hR10) (by have q1 := zhx q1; have q2 := zhx q2; omega) (by have q1 := zhx q1; have q2 := zhx q2; omega) (by have q1 := zhx q1; have q2 := zhx q2; omega) (by have q1 := zhx q1; have q2 := zhx q2; omega) (by have q1 := zhx q1; have q2 := zhx q2; omega)).trans (((zu_ne (k' := 2) (b' := 0) (i' := 0) (j' := 3820 + 5 * a1 + a2) hYm9 (fun q => absurd q.1 (by decide))).trans (zu_ne (k' := 2) (b' := 0) (i' := 0) (j' := 3820 + 5 * a1 + a2) hYm5 (fun q => absurd q.1 (by decide)))))))
      have q14 := zhd (((zu_ne (k' := 2) (b' := 0) (i' := 0) (j' := 3820 + 5 * a1 + a2) hYm9 (fun q => absurd q.1 (by decide))).trans (zu_ne (k' := 2) (b' := 0) (i' := 0) (j' := 3820 + 5 * a1 + a2) hYm5 (fun q => absurd q.1 (by decide)))))
      obtain rfl : C = _ := hC
      obtain rfl : M = _ := hM
      exact ⟨zRx_1 hR10, hV11, ⟨Z, _, .inl ⟨rfl, yFr_w hG12 (by decide)⟩, zFc_r, yFr_r⟩, zThr_a th9 (by first | rfl | (have q1 := zhx q1; have q2 := zhx q2; have q13 := zhx q13; have q14 := zhx q14; omega) | (simp only [zhx q1, zhx q2, zhx q13, zhx q14] <;> omega) | (have q1 := zhx q1; have q2 := zhx q2; have q13 := zhx q13; have q14 := zhx q14; refine w3z ?_ ?_ ?_ <;> omega) | (have q1 := zhx q1; have q2 := zhx q2; have q13 := zhx q13; have q14 := zhx q14; refine w3y ?_ ?_ ?_ <;> omega) | (have q1 := zhx q1; have q2 := zhx q2; have q13 := zhx q13; have q14 := zhx q14; refine z2o ?_ ?_ ?_ <;> omega))⟩
    · replace hM := zE_n hM (by first | (have q1 := zhx q1; have q2 := zhx q2; omega) | (simp only [zhx q1, zhx q2] at h3 h4 ⊢ <;> omega))
      replace hM := zE_n hM (by first | (have q1 := zhx q1; have q2 := zhx q2; omega) | (simp only [zhx q1, zhx q2] at h3 h4 ⊢ <;> omega))
      obtain ⟨Ym15, hYm15, hM⟩ := zl_x hM
      have hR16 : zRx [] 0 Z Ym15 := zRx_o hRb hYm15 rfl
      have hV17 : zV Ym15 := zV_o hV hYm15 rfl
      have hG18 := yFr_o hG hYm15 rfl (.inr rfl) rfl
      rcases zE_c hM with ⟨h19, hM⟩ | ⟨h19, hM⟩
      · obtain ⟨Ym20, hYm20, hM⟩ := zl_x hM
        have hR21 : zRx [] 0 Z Ym20 := zRx_o hR16 hYm20 rfl
        have hV22 : zV Ym20 := zV_o hV17 hYm20 rfl
        have hG23 := yFr_o hG18 hYm20 rfl (.inr rfl) rfl
        have th9 := (zu_at hYm20)
        obtain rfl : C = _ := hC
        obtain rfl : M = _ := hM
        exact ⟨zRx_1 hR21, hV22, ⟨Z, _, .inl ⟨rfl, yFr_w hG23 (by decide)⟩, zFc_r, yFr_r⟩, zThr_e th9 (by decide)⟩
      · rcases zE_c hM with ⟨h24, hM⟩ | ⟨h24, hM⟩
        · obtain ⟨Ym25, hYm25, hM⟩ := zl_x hM
          have hR26 : zRx [] 0 Z Ym25 := zRx_o hR16 hYm25 rfl
          have hV27 : zV Ym25 := zV_o hV17 hYm25 rfl
          have hG28 := yFr_o hG18 hYm25 rfl (.inr rfl) rfl
          have th9 := (zu_at hYm25)
          obtain rfl : C = _ := hC
          obtain rfl : M = _ := hM
          exact ⟨zRx_1 hR26, hV27, ⟨Z, _, .inl ⟨rfl, yFr_w hG28 (by decide)⟩, zFc_r, yFr_r⟩, zThr_e th9 (by decide)⟩
        · obtain ⟨Ym29, hYm29, hM⟩ := zl_x hM
          have hR30 : zRx [] 0 Z Ym29 := zRx_o hR16 hYm29 rfl
          have hV31 : zV Ym29 := zV_o hV17 hYm29 rfl
          have hG32 := yFr_o hG18 hYm29 rfl (.inr rfl) rfl
          exact False.elim (by have q1 := zhx q1; have q2 := zhx q2; first | omega | grind)
  · rcases zE_c hM with ⟨h33, hM⟩ | ⟨h33, hM⟩
    · obtain ⟨Ym34, hYm34, hM⟩ := zl_x hM
      have hR35 : zRx [] 0 Z Ym34 := zRx_o hRb hYm34 rfl
      have hV36 : zV Ym34 := zV_o hV hYm34 rfl
      have hG37 := yFr_o hG hYm34 rfl (.inr rfl) rfl
      have th9 := (zu_at hYm34)
      obtain rfl : C = _ := hC
      obtain rfl : M = _ := hM
      exact ⟨zRx_1 hR35, hV36, ⟨Z, _, .inl ⟨rfl, yFr_w hG37 (by decide)⟩, zFc_r, yFr_r⟩, zThr_e th9 (by decide)⟩
    · rcases zE_c hM with ⟨h38, hM⟩ | ⟨h38, hM⟩
      · obtain ⟨Ym39, hYm39, hM⟩ := zl_x hM
        have hR40 : zRx [] 0 Z Ym39 := zRx_o hRb hYm39 rfl
        have hV41 : zV Ym39 := zV_o hV hYm39 rfl
        have hG42 := yFr_o hG hYm39 rfl (.inr rfl) rfl
        have th9 := (zu_at hYm39)
        obtain rfl : C = _ := hC
        obtain rfl : M = _ := hM
        exact ⟨zRx_1 hR40, hV41, ⟨Z, _, .inl ⟨rfl, yFr_w hG42 (by decide)⟩, zFc_r, yFr_r⟩, zThr_e th9 (by decide)⟩
      · obtain ⟨Ym43, hYm43, hM⟩ := zl_x hM
        have hR44 : zRx [] 0 Z Ym43 := zRx_o hRb hYm43 rfl
        have hV45 : zV Ym43 := zV_o hV hYm43 rfl
        have hG46 := yFr_o hG hYm43 rfl (.inr rfl) rfl
        rcases zE_c hM with ⟨h47, hM⟩ | ⟨h47, hM⟩
        · obtain ⟨Ym48, hYm48, hM⟩ := zl_x hM
          have hR49 : zRx [] 0 Z Ym48 := zRx_o hR44 hYm48 rfl
          have hV50 : zV Ym48 := zV_o hV45 hYm48 rfl
          have hG51 := yFr_o hG46 hYm48 rfl (.inr rfl) rfl
          exact False.elim (by have q1 := zhx q1; have q2 := zhx q2; first | omega | grind)
        · rcases zE_c hM with ⟨h52, hM⟩ | ⟨h52, hM⟩
          · obtain ⟨Ym53, hYm53, hM⟩ := zl_x hM
            have hR54 : zRx [] 0 Z Ym53 := zRx_o hR44 hYm53 rfl
            have hV55 : zV Ym53 := zV_o hV45 hYm53 rfl
            have hG56 := yFr_o hG46 hYm53 rfl (.inr rfl) rfl
            exact False.elim (by have q1 := zhx q1; have q2 := zhx q2; first | omega | grind)
          · obtain ⟨Ym57, hYm57, hM⟩ := zl_x hM
            have hR58 : zRx [] 0 Z Ym57 := zRx_o hR44 hYm57 rfl
            have hV59 : zV Ym57 := zV_o hV45 hYm57 rfl
            have hG60 := yFr_o hG46 hYm57 rfl (.inr rfl) rfl
            exact False.elim (by have q1 := zhx q1; have q2 := zhx q2; first | omega | grind)

/- face quarrelled -/
theorem rf_quarrelled {Z Y : qz_Z} {dm : qz_Z → Int → Int → Int → Int → Int → Int → Int → qz_Z} {a1 a2 : Int} (hRa : zR 0 Z Y) (hV : zV Y) (hI : zI none Z) (hd : zDf dm) (hD1 : zD1 0 Z Y) (hD4 : zD4 0 Z Y) (hN1 : zN1 Y) (hN4 : zN4 Y) (hDs : zDs 0 Z Y) (hDw : zDw 0 Z Y) (hDl : zDl 0 Z Y)  {C : qz_Z × Int × Int} {M : qz_Z × Int} (hC : zE C (zx_232 Z a1 a2)) (hM : zE M (zy_458 Y a1 a2)) : zR 0 C.1 M.1 ∧ zV M.1 ∧ zDd [] [99999] Z Y dm C.1 M.1 ∧ zThr [(24, 1), (13, 2)] C.2 (M.1 1 0 0 2) M.2 := by
  have hRb := zRx_0 hRa
  have hF : zFc [] 0 Z Z := zFc_r
  have hG : yFr [99999] Y Y := yFr_r
  unfold zx_232 at hC
  unfold zy_458 at hM
  have q1 := zhd (zVr_11_10 (a := 3815) hV (by omega))
  have q2 := zhd ((zRl_11_10 (a := 3815) hRa (by omega)))
  rcases zE_c hC with ⟨h3, hC⟩ | ⟨h3, hC⟩
  · rcases zE_c hC with ⟨h4, hC⟩ | ⟨h4, hC⟩
    · replace hM := zE_n hM (by first | (have q1 := zhx q1; have q2 := zhx q2; omega) | (simp only [zhx q1, zhx q2] at h3 h4 ⊢ <;> omega))
      replace hM := zE_n hM (by first | (have q1 := zhx q1; have q2 := zhx q2; omega) | (simp only [zhx q1, zhx q2] at h3 h4 ⊢ <;> omega))
      obtain ⟨Ym5, hYm5, hM⟩ := zl_x hM
      have hR6 : zRx [] 0 Z Ym5 := zRx_o hRb hYm5 rfl
      have hV7 : zV Ym5 := zV_o hV hYm5 rfl
      have hG8 := yFr_o hG hYm5 rfl (.inr rfl) rfl
      replace hM := zE_n hM (by first | (have q1 := zhx q1; have q2 := zhx q2; omega) | (simp only [zhx q1, zhx q2] at h3 h4 ⊢ <;> omega))
      replace hM := zE_n hM (by first | (have q1 := zhx q1; have q2 := zhx q2; omega) | (simp only [zhx q1, zhx q2] at h3 h4 ⊢ <;> omega))
      obtain ⟨Ym9, hYm9, hM⟩ := zl_x hM
      have hR10 : zRx [] 0 Z Ym9 := zRx_o hR6 hYm9 rfl
      have hV11 : zV Ym9 := zV_o hV7 hYm9 rfl
      have hG12 := yFr_o hG8 hYm9 rfl (.inr rfl) rfl
      have th9 := (zu_at hYm9)
      have q13 := zhd (((zRb_54_0 (x := a1) (j := a2) (a := 3850 + 8 * a1 + a2) (zRx_1 hR10) (by have q1 := zhx q1; have q2 := zhx q2; omega) (by have q1 := zhx q1; have q2 := zhx q2; omega) (by have q1 := zhx q1; have q2 := zhx q2; omega) (by have q1 := zhx q1; have q2 := zhx q2; omega) (by have q1 := zhx q1; have q2 := zhx q2; omega)).trans (((zu_ne (k' := 2) (b' := 0) (i' := 0) (j' := 3850 + 8 * a1 + a2) hYm9 (fun q => absurd q.1 (by decide))).trans (zu_ne (k' := 2) (b' := 0) (i' := 0) (j' := 3850 + 8 * a1 + a2) hYm5 (fun q => absurd q.1 (by decide)))))))
      have q14 := zhd (((zu_ne (k' := 2) (b' := 0) (i' := 0) (j' := 3850 + 8 * a1 + a2) hYm9 (fun q => absurd q.1 (by decide))).trans (zu_ne (k' := 2) (b' := 0) (i' := 0) (j' := 3850 + 8 * a1 + a2) hYm5 (fun q => absurd q.1 (by decide)))))
      obtain rfl : C = _ := hC
      obtain rfl : M = _ := hM
      exact ⟨zRx_1 hR10, hV11, ⟨Z, _, .inl ⟨rfl, yFr_w hG12 (by decide)⟩, zFc_r, yFr_r⟩, zThr_a th9 (by first | rfl | (have q1 := zhx q1; have q2 := zhx q2; have q13 := zhx q13; have q14 := zhx q14; omega) | (simp only [zhx q1, zhx q2, zhx q13, zhx q14] <;> omega) | (have q1 := zhx q1; have q2 := zhx q2; have q13 := zhx q13; have q14 := zhx q14; refine w3z ?_ ?_ ?_ <;> omega) | (have q1 := zhx q1; have q2 := zhx q2; have q13 := zhx q13; have q14 := zhx q14; refine w3y ?_ ?_ ?_ <;> omega) | (have q1 := zhx q1; have q2 := zhx q2; have q13 := zhx q13; have q14 := zhx q14; refine z2o ?_ ?_ ?_ <;> omega))⟩
    · replace hM := zE_n hM (by first | (have q1 := zhx q1; have q2 := zhx q2; omega) | (simp only [zhx q1, zhx q2] at h3 h4 ⊢ <;> omega))
      replace hM := zE_n hM (by first | (have q1 := zhx q1; have q2 := zhx q2; omega) | (simp only [zhx q1, zhx q2] at h3 h4 ⊢ <;> omega))
      obtain ⟨Ym15, hYm15, hM⟩ := zl_x hM
      have hR16 : zRx [] 0 Z Ym15 := zRx_o hRb hYm15 rfl
      have hV17 : zV Ym15 := zV_o hV hYm15 rfl
      have hG18 := yFr_o hG hYm15 rfl (.inr rfl) rfl
      rcases zE_c hM with ⟨h19, hM⟩ | ⟨h19, hM⟩
      · obtain ⟨Ym20, hYm20, hM⟩ := zl_x hM
        have hR21 : zRx [] 0 Z Ym20 := zRx_o hR16 hYm20 rfl
        have hV22 : zV Ym20 := zV_o hV17 hYm20 rfl
        have hG23 := yFr_o hG18 hYm20 rfl (.inr rfl) rfl
        have th9 := (zu_at hYm20)
        obtain rfl : C = _ := hC
        obtain rfl : M = _ := hM
        exact ⟨zRx_1 hR21, hV22, ⟨Z, _, .inl ⟨rfl, yFr_w hG23 (by decide)⟩, zFc_r, yFr_r⟩, zThr_e th9 (by decide)⟩
      · rcases zE_c hM with ⟨h24, hM⟩ | ⟨h24, hM⟩
        · obtain ⟨Ym25, hYm25, hM⟩ := zl_x hM
          have hR26 : zRx [] 0 Z Ym25 := zRx_o hR16 hYm25 rfl
          have hV27 : zV Ym25 := zV_o hV17 hYm25 rfl
          have hG28 := yFr_o hG18 hYm25 rfl (.inr rfl) rfl
          have th9 := (zu_at hYm25)
          obtain rfl : C = _ := hC
          obtain rfl : M = _ := hM
          exact ⟨zRx_1 hR26, hV27, ⟨Z, _, .inl ⟨rfl, yFr_w hG28 (by decide)⟩, zFc_r, yFr_r⟩, zThr_e th9 (by decide)⟩
        · obtain ⟨Ym29, hYm29, hM⟩ := zl_x hM
          have hR30 : zRx [] 0 Z Ym29 := zRx_o hR16 hYm29 rfl
          have hV31 : zV Ym29 := zV_o hV17 hYm29 rfl
          have hG32 := yFr_o hG18 hYm29 rfl (.inr rfl) rfl
          exact False.elim (by have q1 := zhx q1; have q2 := zhx q2; first | omega | grind)
  · rcases zE_c hM with ⟨h33, hM⟩ | ⟨h33, hM⟩
    · obtain ⟨Ym34, hYm34, hM⟩ := zl_x hM
      have hR35 : zRx [] 0 Z Ym34 := zRx_o hRb hYm34 rfl
      have hV36 : zV Ym34 := zV_o hV hYm34 rfl
      have hG37 := yFr_o hG hYm34 rfl (.inr rfl) rfl
      have th9 := (zu_at hYm34)
      obtain rfl : C = _ := hC
      obtain rfl : M = _ := hM
      exact ⟨zRx_1 hR35, hV36, ⟨Z, _, .inl ⟨rfl, yFr_w hG37 (by decide)⟩, zFc_r, yFr_r⟩, zThr_e th9 (by decide)⟩
    · rcases zE_c hM with ⟨h38, hM⟩ | ⟨h38, hM⟩
      · obtain ⟨Ym39, hYm39, hM⟩ := zl_x hM
        have hR40 : zRx [] 0 Z Ym39 := zRx_o hRb hYm39 rfl
        have hV41 : zV Ym39 := zV_o hV hYm39 rfl
        have hG42 := yFr_o hG hYm39 rfl (.inr rfl) rfl
        have th9 := (zu_at hYm39)
        obtain rfl : C = _ := hC
        obtain rfl : M = _ := hM
        exact ⟨zRx_1 hR40, hV41, ⟨Z, _, .inl ⟨rfl, yFr_w hG42 (by decide)⟩, zFc_r, yFr_r⟩, zThr_e th9 (by decide)⟩
      · obtain ⟨Ym43, hYm43, hM⟩ := zl_x hM
        have hR44 : zRx [] 0 Z Ym43 := zRx_o hRb hYm43 rfl
        have hV45 : zV Ym43 := zV_o hV hYm43 rfl
        have hG46 := yFr_o hG hYm43 rfl (.inr rfl) rfl
        rcases zE_c hM with ⟨h47, hM⟩ | ⟨h47, hM⟩
        · obtain ⟨Ym48, hYm48, hM⟩ := zl_x hM
          have hR49 : zRx [] 0 Z Ym48 := zRx_o hR44 hYm48 rfl
          have hV50 : zV Ym48 := zV_o hV45 hYm48 rfl
          have hG51 := yFr_o hG46 hYm48 rfl (.inr rfl) rfl
          exact False.elim (by have q1 := zhx q1; have q2 := zhx q2; first | omega | grind)
        · rcases zE_c hM with ⟨h52, hM⟩ | ⟨h52, hM⟩
          · obtain ⟨Ym53, hYm53, hM⟩ := zl_x hM
            have hR54 : zRx [] 0 Z Ym53 := zRx_o hR44 hYm53 rfl
            have hV55 : zV Ym53 := zV_o hV45 hYm53 rfl
            have hG56 := yFr_o hG46 hYm53 rfl (.inr rfl) rfl
            exact False.elim (by have q1 := zhx q1; have q2 := zhx q2; first | omega | grind)
          · obtain ⟨Ym57, hYm57, hM⟩ := zl_x hM
            have hR58 : zRx [] 0 Z Ym57 := zRx_o hR44 hYm57 rfl
            have hV59 : zV Ym57 := zV_o hV45 hYm57 rfl
            have hG60 := yFr_o hG46 hYm57 rfl (.inr rfl) rfl
            exact False.elim (by have q1 := zhx q1; have q2 := zhx q2; first | omega | grind)
