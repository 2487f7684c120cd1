/- face load -/
theorem rf_load {Z Y : qz_Z} {dm : qz_Z → Int → Int → Int → Int → Int → Int → Int → qz_Z} {a1 a2 : Int} (hRa : zR 0 Z Y) (hV : zV Y) (hI : zI none Z) (hd : zDf dm) (hD4 : zD4 0 Z Y) (hN4 : zN4 Y) (hN1 : zN1 Y) (hN8 : zN8 Y) (hNL : zNL Y) (hDs : zDs 0 Z Y) (hNr : zNr Y) (hN9 : zN9 Y)  {C : qz_Z × Int × Int} {M : qz_Z × Int} (hC : zE C (zx_9215 Z a1 a2)) (hM : zE M (zy_9426 Y dm a1 a2)) : zR 0 C.1 M.1 ∧ zV M.1 ∧ zDd [4307, 4410, 4412, 4709, 4710, 4711, 4712, 4714, 4715, 4716] [4307, 4410, 4412, 4709, 4710, 4714, 4715, 4716, 10001, 10002, 99999] Z Y dm C.1 M.1 ∧ zThr [(24, 1), (15, 2)] C.2 (M.1 1 0 0 2) M.2 ∧ zD4 0 C.1 M.1 ∧ zN4 M.1 ∧ zN1 M.1 ∧ zN8 M.1 ∧ zNL M.1 ∧ zNr M.1 := by
  have hRb := zRx_0 hRa
  have hF : zFc [] 0 Z Z := zFc_r
  have hG : yFr [99999] Y Y := yFr_r
  unfold zx_9215 at hC
  unfold zy_9426 at hM
  rcases zE_c hC with ⟨h1, hC⟩ | ⟨h1, hC⟩
  · replace hM := zE_p hM (by omega)
    obtain ⟨Ym2, hYm2, hM⟩ := zl_x hM
    have hR3 : zRx [] 0 Z Ym2 := zRx_o hRb hYm2 rfl
    have hV4 : zV Ym2 := zV_o hV hYm2 rfl
    have hG5 := yFr_o hG hYm2 rfl (.inr rfl) rfl
    have th9 := (zu_at hYm2)
    obtain rfl : C = _ := hC
    obtain rfl : M = _ := hM
    exact ⟨zRx_1 hR3, hV4, ⟨Z, _, .inl ⟨rfl, yFr_w hG5 (by decide)⟩, zFc_r, yFr_r⟩, zThr_e th9 (by decide), (zD4_f hD4 hF.1 hG5.1 ⟨⟨rfl, rfl⟩, rfl, rfl, rfl⟩), (zN4_f hN4 hG5.1 ⟨rfl, rfl, rfl⟩), (zN1_f hN1 hG5.1 ⟨rfl, rfl, rfl, rfl⟩), (zN8_f hN8 hG5.1 ⟨rfl, rfl, rfl⟩), (zNL_f hNL hV hG5.1 ⟨rfl, rfl, rfl, rfl, rfl⟩), (zNr_f hNr hV hG5.1 ⟨rfl, rfl, rfl⟩)⟩
  · have q6 := zhd (zVr_11_6 (a := 2000) hV (by omega))
    have q7 := zhd ((zRl_11_6 (a := 2000) hRa (by omega)))
    rcases zE_c hC with ⟨h8, hC⟩ | ⟨h8, hC⟩
    · replace hM := zE_n hM (by first | (have q6 := zhx q6; have q7 := zhx q7; omega) | (simp only [zhx q6, zhx q7] at h1 h8 ⊢ <;> omega))
      replace hM := zE_p hM (by first | (have q6 := zhx q6; have q7 := zhx q7; omega) | (simp only [zhx q6, zhx q7] at h1 h8 ⊢ <;> omega))
      obtain ⟨Ym9, hYm9, hM⟩ := zl_x hM
      have hR10 : zRx [] 0 Z Ym9 := zRx_o hRb hYm9 rfl
      have hV11 : zV Ym9 := zV_o hV hYm9 rfl
      have hG12 := yFr_o hG hYm9 rfl (.inr rfl) rfl
      have th9 := (zu_at hYm9)
      obtain rfl : C = _ := hC
      obtain rfl : M = _ := hM
      exact ⟨zRx_1 hR10, hV11, ⟨Z, _, .inl ⟨rfl, yFr_w hG12 (by decide)⟩, zFc_r, yFr_r⟩, zThr_e th9 (by decide), (zD4_f hD4 hF.1 hG12.1 ⟨⟨rfl, rfl⟩, rfl, rfl, rfl⟩), (zN4_f hN4 hG12.1 ⟨rfl, rfl, rfl⟩), (zN1_f hN1 hG12.1 ⟨rfl, rfl, rfl, rfl⟩), (zN8_f hN8 hG12.1 ⟨rfl, rfl, rfl⟩), (zNL_f hNL hV hG12.1 ⟨rfl, rfl, rfl, rfl, rfl⟩), (zNr_f hNr hV hG12.1 ⟨rfl, rfl, rfl⟩)⟩
    · rcases zE_c hC with ⟨h13, hC⟩ | ⟨h13, hC⟩
      · replace hM := zE_n hM (by first | (have q6 := zhx q6; have q7 := zhx q7; omega) | (simp only [zhx q6, zhx q7] at h1 h8 h13 ⊢ <;> omega))
        replace hM := zE_n hM (by first | (have q6 := zhx q6; have q7 := zhx q7; omega) | (simp only [zhx q6, zhx q7] at h1 h8 h13 ⊢ <;> omega))
        replace hM := zE_p hM (by first | (have q6 := zhx q6; have q7 := zhx q7; omega) | (simp only [zhx q6, zhx q7] at h1 h8 h13 ⊢ <;> omega))
        obtain ⟨Ym14, hYm14, hM⟩ := zl_x hM
        have hR15 : zRx [] 0 Z Ym14 := zRx_o hRb hYm14 rfl
        have hV16 : zV Ym14 := zV_o hV hYm14 rfl
        have hG17 := yFr_o hG hYm14 rfl (.inr rfl) rfl
        have th9 := (zu_at hYm14)
        obtain rfl : C = _ := hC
        obtain rfl : M = _ := hM
        exact ⟨zRx_1 hR15, hV16, ⟨Z, _, .inl ⟨rfl, yFr_w hG17 (by decide)⟩, zFc_r, yFr_r⟩, zThr_e th9 (by decide), (zD4_f hD4 hF.1 hG17.1 ⟨⟨rfl, rfl⟩, rfl, rfl, rfl⟩), (zN4_f hN4 hG17.1 ⟨rfl, rfl, rfl⟩), (zN1_f hN1 hG17.1 ⟨rfl, rfl, rfl, rfl⟩), (zN8_f hN8 hG17.1 ⟨rfl, rfl, rfl⟩), (zNL_f hNL hV hG17.1 ⟨rfl, rfl, rfl, rfl, rfl⟩), (zNr_f hNr hV hG17.1 ⟨rfl, rfl, rfl⟩)⟩
      · have q18 := zhd (zVr_11_8 (a := 3200) hV (by omega))
        have q19 := zhd ((zRl_11_8 (a := 3200) hRa (by omega)))
        rcases zE_c hC with ⟨h20, hC⟩ | ⟨h20, hC⟩
        · replace hM := zE_n hM (by first | (have q6 := zhx q6; have q7 := zhx q7; have q18 := zhx q18; have q19 := zhx q19; omega) | (simp only [zhx q6, zhx q7, zhx q18, zhx q19] at h1 h8 h13 h20 ⊢ <;> omega))
          replace hM := zE_n hM (by first | (have q6 := zhx q6; have q7 := zhx q7; have q18 := zhx q18; have q19 := zhx q19; omega) | (simp only [zhx q6, zhx q7, zhx q18, zhx q19] at h1 h8 h13 h20 ⊢ <;> omega))
          replace hM := zE_n hM (by first | (have q6 := zhx q6; have q7 := zhx q7; have q18 := zhx q18; have q19 := zhx q19; omega) | (simp only [zhx q6, zhx q7, zhx q18, zhx q19] at h1 h8 h13 h20 ⊢ <;> omega))
          replace hM := zE_p hM (by first | (have q6 := zhx q6; have q7 := zhx q7; have q18 := zhx q18; have q19 := zhx q19; omega) | (simp only [zhx q6, zhx q7, zhx q18, zhx q19] at h1 h8 h13 h20 ⊢ <;> omega))
          obtain ⟨Ym21, hYm21, hM⟩ := zl_x hM
          have hR22 : zRx [] 0 Z Ym21 := zRx_o hRb hYm21 rfl
          have hV23 : zV Ym21 := zV_o hV hYm21 rfl
          have hG24 := yFr_o hG hYm21 rfl (.inr rfl) rfl
          have th9 := (zu_at hYm21)
          obtain rfl : C = _ := hC
          obtain rfl : M = _ := hM
          exact ⟨zRx_1 hR22, hV23, ⟨Z, _, .inl ⟨rfl, yFr_w hG24 (by decide)⟩, zFc_r, yFr_r⟩, zThr_e th9 (by decide), (zD4_f hD4 hF.1 hG24.1 ⟨⟨rfl, rfl⟩, rfl, rfl, rfl⟩), (zN4_f hN4 hG24.1 ⟨rfl, rfl, rfl⟩), (zN1_f hN1 hG24.1 ⟨rfl, rfl, rfl, rfl⟩), (zN8_f hN8 hG24.1 ⟨rfl, rfl, rfl⟩), (zNL_f hNL hV hG24.1 ⟨rfl, rfl, rfl, rfl, rfl⟩), (zNr_f hNr hV hG24.1 ⟨rfl, rfl, rfl⟩)⟩
        · obtain ⟨v25, hv25, hC⟩ := zl_x hC
          have q26 := zhd (show v25 = (zf_437 Y a1 a2) from hv25.trans (rr_9049 hRa hV hN4 hDs hNr (by first | (omega) | (have q6 := zhx q6; have q7 := zhx q7; have q18 := zhx q18; have q19 := zhx q19; omega)) (by first | (omega) | (have q6 := zhx q6; have q7 := zhx q7; have q18 := zhx q18; have q19 := zhx q19; omega)) (by first | (omega) | (have q6 := zhx q6; have q7 := zhx q7; have q18 := zhx q18; have q19 := zhx q19; omega)) (by first | (omega) | (have q6 := zhx q6; have q7 := zhx q7; have q18 := zhx q18; have q19 := zhx q19; omega)) rfl rfl))
          rcases zE_c hC with ⟨h27, hC⟩ | ⟨h27, hC⟩
          · replace hM := zE_n hM (by first | (have q6 := zhx q6; have q7 := zhx q7; have q18 := zhx q18; have q19 := zhx q19; have q26 := zhx q26; omega) | (simp only [zhx q6, zhx q7, zhx q18, zhx q19, zhx q26] at h1 h8 h13 h20 h27 ⊢ <;> omega))
            replace hM := zE_n hM (by first | (have q6 := zhx q6; have q7 := zhx q7; have q18 := zhx q18; have q19 := zhx q19; have q26 := zhx q26; omega) | (simp only [zhx q6, zhx q7, zhx q18, zhx q19, zhx q26] at h1 h8 h13 h20 h27 ⊢ <;> omega))
            replace hM := zE_n hM (by first | (have q6 := zhx q6; have q7 := zhx q7; have q18 := zhx q18; have q19 := zhx q19; have q26 := zhx q26; omega) | (simp only [zhx q6, zhx q7, zhx q18, zhx q19, zhx q26] at h1 h8 h13 h20 h27 ⊢ <;> omega))
            replace hM := zE_n hM (by first | (have q6 := zhx q6; have q7 := zhx q7; have q18 := zhx q18; have q19 := zhx q19; have q26 := zhx q26; omega) | (simp only [zhx q6, zhx q7, zhx q18, zhx q19, zhx q26] at h1 h8 h13 h20 h27 ⊢ <;> omega))
            obtain ⟨Ym28, hYm28, hM⟩ := zl_x hM
            have hR29 : zRx [] 0 Z Ym28 := zRx_o hRb hYm28 rfl
            have hV30 : zV Ym28 := zV_o hV hYm28 rfl
            have hG31 := yFr_o hG hYm28 rfl (.inr rfl) rfl
            obtain ⟨v32, hv32, hM⟩ := zl_x hM
            have q33 := zhd (show v25 = (zf_437 Ym28 a1 a2) from hv25.trans (rr_9049 (zRx_1 hR29) hV30 (zN4_f hN4 hG31.1 ⟨rfl, rfl, rfl⟩) (zDs_f hDs hF.1 hG31.1 ⟨rfl, rfl⟩) (zNr_f hNr hV hG31.1 ⟨rfl, rfl, rfl⟩) (by first | (omega) | (have q6 := zhx q6; have q7 := zhx q7; have q18 := zhx q18; have q19 := zhx q19; have q26 := zhx q26; omega)) (by first | (omega) | (have q6 := zhx q6; have q7 := zhx q7; have q18 := zhx q18; have q19 := zhx q19; have q26 := zhx q26; omega)) (by first | (omega) | (have q6 := zhx q6; have q7 := zhx q7; have q18 := zhx q18; have q19 := zhx q19; have q26 := zhx q26; omega)) (by first | (omega) | (have q6 := zhx q6; have q7 := zhx q7; have q18 := zhx q18; have q19 := zhx q19; have q26 := zhx q26; omega)) rfl rfl))
            have q34 := zhd (hv32)
            rcases zE_c hM with ⟨h35, hM⟩ | ⟨h35, hM⟩
            · obtain ⟨Ym36, hYm36, hM⟩ := zl_x hM
              have hR37 : zRx [] 0 Z Ym36 := zRx_o hR29 hYm36 rfl
              have hV38 : zV Ym36 := zV_o hV30 hYm36 rfl
              have hG39 := yFr_o hG31 hYm36 rfl (.inr rfl) rfl
              have th9 := (zu_at hYm36)
              obtain rfl : C = _ := hC
              obtain rfl : M = _ := hM
              exact ⟨zRx_1 hR37, hV38, ⟨Z, _, .inl ⟨rfl, yFr_w hG39 (by decide)⟩, zFc_r, yFr_r⟩, zThr_e th9 (by decide), (zD4_f hD4 hF.1 hG39.1 ⟨⟨rfl, rfl⟩, rfl, rfl, rfl⟩), (zN4_f hN4 hG39.1 ⟨rfl, rfl, rfl⟩), (zN1_f hN1 hG39.1 ⟨rfl, rfl, rfl, rfl⟩), (zN8_f hN8 hG39.1 ⟨rfl, rfl, rfl⟩), (zNL_f hNL hV hG39.1 ⟨rfl, rfl, rfl, rfl, rfl⟩), (zNr_f hNr hV hG39.1 ⟨rfl, rfl, rfl⟩)⟩
            · obtain ⟨Ym40, hYm40, hM⟩ := zl_x hM
              have hR41 : zRx [] 0 Z Ym40 := zRx_o hR29 hYm40 rfl
              have hV42 : zV Ym40 := zV_o hV30 hYm40 rfl
              have hG43 := yFr_o hG31 hYm40 rfl (.inr rfl) rfl
              exact False.elim (by have q6 := zhx q6; have q7 := zhx q7; have q18 := zhx q18; have q19 := zhx q19; have q26 := zhx q26; have q33 := zhx q33; have q34 := zhx q34; first | omega | grind)
          · replace hM := zE_n hM (by first | (have q6 := zhx q6; have q7 := zhx q7; have q18 := zhx q18; have q19 := zhx q19; have q26 := zhx q26; omega) | (simp only [zhx q6, zhx q7, zhx q18, zhx q19, zhx q26] at h1 h8 h13 h20 h27 ⊢ <;> omega))
            replace hM := zE_n hM (by first | (have q6 := zhx q6; have q7 := zhx q7; have q18 := zhx q18; have q19 := zhx q19; have q26 := zhx q26; omega) | (simp only [zhx q6, zhx q7, zhx q18, zhx q19, zhx q26] at h1 h8 h13 h20 h27 ⊢ <;> omega))
            replace hM := zE_n hM (by first | (have q6 := zhx q6; have q7 := zhx q7; have q18 := zhx q18; have q19 := zhx q19; have q26 := zhx q26; omega) | (simp only [zhx q6, zhx q7, zhx q18, zhx q19, zhx q26] at h1 h8 h13 h20 h27 ⊢ <;> omega))
            replace hM := zE_n hM (by first | (have q6 := zhx q6; have q7 := zhx q7; have q18 := zhx q18; have q19 := zhx q19; have q26 := zhx q26; omega) | (simp only [zhx q6, zhx q7, zhx q18, zhx q19, zhx q26] at h1 h8 h13 h20 h27 ⊢ <;> omega))
            obtain ⟨Ym44, hYm44, hM⟩ := zl_x hM
            have hR45 : zRx [] 0 Z Ym44 := zRx_o hRb hYm44 rfl
            have hV46 : zV Ym44 := zV_o hV hYm44 rfl
            have hG47 := yFr_o hG hYm44 rfl (.inr rfl) rfl
            obtain ⟨v48, hv48, hM⟩ := zl_x hM
            have q49 := zhd (show v25 = (zf_437 Ym44 a1 a2) from hv25.trans (rr_9049 (zRx_1 hR45) hV46 (zN4_f hN4 hG47.1 ⟨rfl, rfl, rfl⟩) (zDs_f hDs hF.1 hG47.1 ⟨rfl, rfl⟩) (zNr_f hNr hV hG47.1 ⟨rfl, rfl, rfl⟩) (by first | (omega) | (have q6 := zhx q6; have q7 := zhx q7; have q18 := zhx q18; have q19 := zhx q19; have q26 := zhx q26; omega)) (by first | (omega) | (have q6 := zhx q6; have q7 := zhx q7; have q18 := zhx q18; have q19 := zhx q19; have q26 := zhx q26; omega)) (by first | (omega) | (have q6 := zhx q6; have q7 := zhx q7; have q18 := zhx q18; have q19 := zhx q19; have q26 := zhx q26; omega)) (by first | (omega) | (have q6 := zhx q6; have q7 := zhx q7; have q18 := zhx q18; have q19 := zhx q19; have q26 := zhx q26; omega)) rfl rfl))
            have q50 := zhd (hv48)
            rcases zE_c hM with ⟨h51, hM⟩ | ⟨h51, hM⟩
            · obtain ⟨Ym52, hYm52, hM⟩ := zl_x hM
              have hR53 : zRx [] 0 Z Ym52 := zRx_o hR45 hYm52 rfl
              have hV54 : zV Ym52 := zV_o hV46 hYm52 rfl
              have hG55 := yFr_o hG47 hYm52 rfl (.inr rfl) rfl
              exact False.elim (by have q6 := zhx q6; have q7 := zhx q7; have q18 := zhx q18; have q19 := zhx q19; have q26 := zhx q26; have q49 := zhx q49; have q50 := zhx q50; first | omega | grind)
            · obtain ⟨Ym56, hYm56, hM⟩ := zl_x hM
              have hR57 : zRx [] 0 Z Ym56 := zRx_o hR45 hYm56 rfl
              have hV58 : zV Ym56 := zV_o hV46 hYm56 rfl
              have hG59 := yFr_o hG47 hYm56 rfl (.inr rfl) rfl
              obtain ⟨Zc60, hZc60, hC⟩ := zl_x hC
              obtain ⟨Ym61, hYm61, hM⟩ := zl_x hM
              have hR62 : zRx [] 0 Zc60 Ym61 := zRx_dd hR57 hI hd hZc60 hYm61
              have hV63 : zV Ym61 := zV_dm hV58 hd hYm61
              have hD4_64 : zD4 0 Zc60 Ym61 := (zD4_f (zD4_f hD4 hF.1 hG59.1 ⟨⟨rfl, rfl⟩, rfl, rfl, rfl⟩) (zFa_dd hI hZc60) (yFa_dm hd hYm61) ⟨⟨rfl, rfl⟩, rfl, rfl, rfl⟩)
              have hN4_65 : zN4 Ym61 := (zN4_f (zN4_f hN4 hG59.1 ⟨rfl, rfl, rfl⟩) (yFa_dm hd hYm61) ⟨rfl, rfl, rfl⟩)
              have hN1_66 : zN1 Ym61 := (zN1_f (zN1_f hN1 hG59.1 ⟨rfl, rfl, rfl, rfl⟩) (yFa_dm hd hYm61) ⟨rfl, rfl, rfl, rfl⟩)
              have hN8_67 : zN8 Ym61 := (zN8_f (zN8_f hN8 hG59.1 ⟨rfl, rfl, rfl⟩) (yFa_dm hd hYm61) ⟨rfl, rfl, rfl⟩)
              have hNL_68 : zNL Ym61 := (zNL_f (zNL_f hNL hV hG59.1 ⟨rfl, rfl, rfl, rfl, rfl⟩) hV58 (yFa_dm hd hYm61) ⟨rfl, rfl, rfl, rfl, rfl⟩)
              have hDs_69 : zDs 0 Zc60 Ym61 := (zDs_f (zDs_f hDs hF.1 hG59.1 ⟨rfl, rfl⟩) (zFa_dd hI hZc60) (yFa_dm hd hYm61) ⟨rfl, rfl⟩)
              have hNr_70 : zNr Ym61 := (zNr_f (zNr_f hNr hV hG59.1 ⟨rfl, rfl, rfl⟩) hV58 (yFa_dm hd hYm61) ⟨rfl, rfl, rfl⟩)
              have hN9_71 : zN9 Ym61 := (zN9_f (zN9_f hN9 hG59.1 ⟨rfl, rfl, rfl⟩) (yFa_dm hd hYm61) ⟨rfl, rfl, rfl⟩)
              have hF72 : zFc [4307, 4410, 4412, 4709, 4710, 4711, 4712, 4714, 4715, 4716] 0 Zc60 Zc60 := zFc_r
              have hG73 : yFr [4307, 4410, 4412, 4709, 4710, 4714, 4715, 4716, 10001, 10002] Ym61 Ym61 := yFr_r
              obtain ⟨Zc74, y75, g76, hC⟩ := zl_x2 hC
              obtain ⟨Ym77, y78, g79, hM⟩ := zl_x2 hM
              have q81 := zhd ((((yFa_dm hd hYm61 (2000) rfl).trans (zu_ne (k' := 2) (b' := 0) (i' := 0) (j' := 2000) hYm56 (fun q => absurd q.1 (by decide)))).trans (zu_ne (k' := 2) (b' := 0) (i' := 0) (j' := 2000) hYm44 (fun q => absurd q.1 (by decide)))))
              have g80 := rr_9050  (zRx_1 hR62) hV63 hD4_64 hN4_65 hN1_66 hN8_67 hNL_68 hNr_70 hN9_71 (by have q6 := zhx q6; have q7 := zhx q7; have q18 := zhx q18; have q19 := zhx q19; have q26 := zhx q26; have q49 := zhx q49; have q50 := zhx q50; first | omega | exact (z2_r _ _ _).1 | exact (z2_r _ _ _).2 | exact (w3_r _).1 | exact (w3_r _).2) (by have q6 := zhx q6; have q7 := zhx q7; have q18 := zhx q18; have q19 := zhx q19; have q26 := zhx q26; have q49 := zhx q49; have q50 := zhx q50; first | omega | exact (z2_r _ _ _).1 | exact (z2_r _ _ _).2 | exact (w3_r _).1 | exact (w3_r _).2) (by have q6 := zhx q6; have q7 := zhx q7; have q18 := zhx q18; have q19 := zhx q19; have q26 := zhx q26; have q49 := zhx q49; have q50 := zhx q50; first | omega | exact (z2_r _ _ _).1 | exact (z2_r _ _ _).2 | exact (w3_r _).1 | exact (w3_r _).2) (by have q6 := zhx q6; have q7 := zhx q7; have q18 := zhx q18; have q19 := zhx q19; have q26 := zhx q26; have q49 := zhx q49; have q50 := zhx q50; first | omega | exact (z2_r _ _ _).1 | exact (z2_r _ _ _).2 | exact (w3_r _).1 | exact (w3_r _).2) (by have q6 := zhx q6; have q7 := zhx q7; have q18 := zhx q18; have q19 := zhx q19; have q26 := zhx q26; have q49 := zhx q49; have q50 := zhx q50; have q81 := zhx q81; omega) g76 g79
              have hR82 : zRx [] 0 Zc74 Ym77 := zRx_0 g80.1
              have hV83 : zV Ym77 := g80.2.1
              have hF84 := zFc_t hF72 g80.2.2.1 (by decide)
              have hG85 := yFr_t hG73 g80.2.2.2.1 (by decide)
              have q86 := zhd (show y75 = y78 from g80.2.2.2.2.1)
              have hD4_87 : zD4 0 Zc74 Ym77 := g80.2.2.2.2.2.1
              have hN4_88 : zN4 Ym77 := g80.2.2.2.2.2.2.1
              have hN1_89 : zN1 Ym77 := g80.2.2.2.2.2.2.2.1
              have hN8_90 : zN8 Ym77 := g80.2.2.2.2.2.2.2.2.1
              have hNL_91 : zNL Ym77 := g80.2.2.2.2.2.2.2.2.2.1
              have hDs_92 : zDs 0 Zc74 Ym77 := (zDs_f hDs_69 (g80.2.2.1).1 (g80.2.2.2.1).1 ⟨rfl, rfl⟩)
              have hNr_93 : zNr Ym77 := g80.2.2.2.2.2.2.2.2.2.2
              have hN9_94 : zN9 Ym77 := (zN9_f hN9_71 (g80.2.2.2.1).1 ⟨rfl, rfl, rfl⟩)
              have tF95 : zFc [4307, 4410, 4412, 4709, 4710, 4711, 4712, 4714, 4715, 4716] 0 Zc60 Zc74 := zFc_w hF84 (by decide)
              have tG96 : yFr [4307, 4410, 4412, 4709, 4710, 4714, 4715, 4716, 10001, 10002, 99999] Ym61 Ym77 := yFr_w hG85 (by decide)
              have hF97 : zFc [] 0 Zc74 Zc74 := zFc_r
              have hG98 : yFr [] Ym77 Ym77 := yFr_r
              have th9 := ((((g80.2.2.2.1).2.1 rfl).trans (zTh_dm hd hYm61 (by decide))).trans (zu_at hYm56))
              obtain rfl : C = _ := hC
              obtain rfl : M = _ := hM
              exact ⟨zRx_1 hR82, hV83, ⟨Zc60, Ym61, .inr ⟨20, a1, a2, 0, 0, 0, 0, 21, Ym56, hZc60, yFr_w hG59 (by decide), hYm61, (by unfold zcode; omega)⟩, zFc_t tF95 hF97 (by decide), yFr_t tG96 hG98 (by decide)⟩, zThr_a th9 (by first | rfl | (have q6 := zhx q6; have q7 := zhx q7; have q18 := zhx q18; have q19 := zhx q19; have q26 := zhx q26; have q49 := zhx q49; have q50 := zhx q50; have q86 := zhx q86; omega) | (simp only [zhx q6, zhx q7, zhx q18, zhx q19, zhx q26, zhx q49, zhx q50, zhx q86] <;> omega) | (have q6 := zhx q6; have q7 := zhx q7; have q18 := zhx q18; have q19 := zhx q19; have q26 := zhx q26; have q49 := zhx q49; have q50 := zhx q50; have q86 := zhx q86; refine w3z ?_ ?_ ?_ <;> omega) | (have q6 := zhx q6; have q7 := zhx q7; have q18 := zhx q18; have q19 := zhx q19; have q26 := zhx q26; have q49 := zhx q49; have q50 := zhx q50; have q86 := zhx q86; refine w3y ?_ ?_ ?_ <;> omega) | (have q6 := zhx q6; have q7 := zhx q7; have q18 := zhx q18; have q19 := zhx q19; have q26 := zhx q26; have q49 := zhx q49; have q50 := zhx q50; have q86 := zhx q86; refine z2o ?_ ?_ ?_ <;> omega)), hD4_87, hN4_88, hN1_89, hN8_90, hNL_91, hNr_93⟩

/- face dump -/
theorem rf_dump {Z Y : qz_Z} {dm : qz_Z → Int → Int → Int → Int → Int → Int → Int → qz_Z} {a1 : Int} (hRa : zR 0 Z Y) (hV : zV Y) (hI : zI none Z) (hd : zDf dm) (hD1 : zD1 0 Z Y) (hD4 : zD4 0 Z Y) (hN4 : zN4 Y) (hN1 : zN1 Y) (hN8 : zN8 Y) (hNL : zNL Y) (hDl : zDl 0 Z Y) (hNr : zNr Y)  {C : qz_Z × Int × Int} {M : qz_Z × Int} (hC : zE C (zx_198 Z a1)) (hM : zE M (zy_9338 Y dm a1)) : zR 0 C.1 M.1 ∧ zV M.1 ∧ zDd [1112, 1400, 4307, 4404, 4405, 4406, 4410, 4412, 4503, 4504, 4511, 4606, 4709, 4711, 4712, 4717, 4719, 4805, 4900, 5300, 5301, 5302, 5303, 5304] [1112, 1400, 4307, 4404, 4405, 4406, 4410, 4412, 4503, 4606, 4709, 4717, 4719, 4805, 5300, 5301, 5302, 5303, 5304, 10001, 10002, 10050, 10051, 10052, 99999] Z Y dm C.1 M.1 ∧ zThr [(24, 1), (15, 2)] C.2 (M.1 1 0 0 2) M.2 ∧ zD4 0 C.1 M.1 ∧ zN4 M.1 ∧ zN1 M.1 ∧ zN8 M.1 ∧ zNL M.1 ∧ zDl 0 C.1 M.1 ∧ zNr M.1 := by
  have hRb := zRx_0 hRa
  have hF : zFc [] 0 Z Z := zFc_r
  have hG : yFr [99999] Y Y := yFr_r
  unfold zx_198 at hC
  unfold zy_9338 at hM
  rcases zE_c hC with ⟨h1, hC⟩ | ⟨h1, hC⟩
  · replace hM := zE_p hM (by omega)
    obtain ⟨Ym2, hYm2, hM⟩ := zl_x hM
    have hR3 : zRx [] 0 Z Ym2 := zRx_o hRb hYm2 rfl
    have hV4 : zV Ym2 := zV_o hV hYm2 rfl
    have hG5 := yFr_o hG hYm2 rfl (.inr rfl) rfl
    have th9 := (zu_at hYm2)
    obtain rfl : C = _ := hC
    obtain rfl : M = _ := hM
    exact ⟨zRx_1 hR3, hV4, ⟨Z, _, .inl ⟨rfl, yFr_w hG5 (by decide)⟩, zFc_r, yFr_r⟩, zThr_e th9 (by decide), (zD4_f hD4 hF.1 hG5.1 ⟨⟨rfl, rfl⟩, rfl, rfl, rfl⟩), (zN4_f hN4 hG5.1 ⟨rfl, rfl, rfl⟩), (zN1_f hN1 hG5.1 ⟨rfl, rfl, rfl, rfl⟩), (zN8_f hN8 hG5.1 ⟨rfl, rfl, rfl⟩), (zNL_f hNL hV hG5.1 ⟨rfl, rfl, rfl, rfl, rfl⟩), (zDl_f hDl hF.1 hG5.1 ⟨rfl, rfl, rfl, rfl, rfl⟩), (zNr_f hNr hV hG5.1 ⟨rfl, rfl, rfl⟩)⟩
  · have q6 := zhd (zVr_11_3 (a := 102) hV (by omega))
    have q7 := zhd ((zRl_11_3 (a := 102) hRa (by omega)))
    rcases zE_c hC with ⟨h8, hC⟩ | ⟨h8, hC⟩
    · have q9 := zhd (zVr_44_10 (x := a1) (a := 210 + 20 * a1) hV (by have q6 := zhx q6; have q7 := zhx q7; omega) (by have q6 := zhx q6; have q7 := zhx q7; omega) (by have q6 := zhx q6; have q7 := zhx q7; omega))
      have q10 := zhd ((zRl_44_10 (x := a1) (a := 210 + 20 * a1) hRa (by have q6 := zhx q6; have q7 := zhx q7; omega) (by have q6 := zhx q6; have q7 := zhx q7; omega) (by have q6 := zhx q6; have q7 := zhx q7; omega)))
      rcases zE_c hC with ⟨h11, hC⟩ | ⟨h11, hC⟩
      · replace hM := zE_n hM (by first | (have q6 := zhx q6; have q7 := zhx q7; have q9 := zhx q9; have q10 := zhx q10; omega) | (simp only [zhx q6, zhx q7, zhx q9, zhx q10] at h1 h8 h11 ⊢ <;> omega))
        replace hM := zE_n hM (by first | (have q6 := zhx q6; have q7 := zhx q7; have q9 := zhx q9; have q10 := zhx q10; omega) | (simp only [zhx q6, zhx q7, zhx q9, zhx q10] at h1 h8 h11 ⊢ <;> omega))
        obtain ⟨Ym12, hYm12, hM⟩ := zl_x hM
        have hR13 : zRx [] 0 Z Ym12 := zRx_o hRb hYm12 rfl
        have hV14 : zV Ym12 := zV_o hV hYm12 rfl
        have hG15 := yFr_o hG hYm12 rfl (.inr rfl) rfl
        have q16 := zhd ((zu_ne (k' := 2) (b' := 0) (i' := 0) (j' := 210 + 20 * a1) hYm12 (fun q => absurd q.1 (by decide))))
        replace hM := zE_n hM (by first | (have q6 := zhx q6; have q7 := zhx q7; have q9 := zhx q9; have q10 := zhx q10; have q16 := zhx q16; omega) | (simp only [zhx q6, zhx q7, zhx q9, zhx q10, zhx q16] at h1 h8 h11 ⊢ <;> omega))
        obtain ⟨Ym17, hYm17, hM⟩ := zl_x hM
        have hR18 : zRx [] 0 Z Ym17 := zRx_o hR13 hYm17 rfl
        have hV19 : zV Ym17 := zV_o hV14 hYm17 rfl
        have hG20 := yFr_o hG15 hYm17 rfl (.inr rfl) rfl
        obtain ⟨Zc21, hZc21, hC⟩ := zl_x hC
        obtain ⟨Ym22, hYm22, hM⟩ := zl_x hM
        have hR23 : zRx [] 0 Zc21 Ym22 := zRx_dd hR18 hI hd hZc21 hYm22
        have hV24 : zV Ym22 := zV_dm hV19 hd hYm22
        have hD1_25 : zD1 0 Zc21 Ym22 := (zD1_f (zD1_f hD1 hF.1 hG20.1 ⟨rfl, rfl, rfl⟩) (zFa_dd hI hZc21) (yFa_dm hd hYm22) ⟨rfl, rfl, rfl⟩)
        have hD4_26 : zD4 0 Zc21 Ym22 := (zD4_f (zD4_f hD4 hF.1 hG20.1 ⟨⟨rfl, rfl⟩, rfl, rfl, rfl⟩) (zFa_dd hI hZc21) (yFa_dm hd hYm22) ⟨⟨rfl, rfl⟩, rfl, rfl, rfl⟩)
        have hN4_27 : zN4 Ym22 := (zN4_f (zN4_f hN4 hG20.1 ⟨rfl, rfl, rfl⟩) (yFa_dm hd hYm22) ⟨rfl, rfl, rfl⟩)
        have hN1_28 : zN1 Ym22 := (zN1_f (zN1_f hN1 hG20.1 ⟨rfl, rfl, rfl, rfl⟩) (yFa_dm hd hYm22) ⟨rfl, rfl, rfl, rfl⟩)
        have hN8_29 : zN8 Ym22 := (zN8_f (zN8_f hN8 hG20.1 ⟨rfl, rfl, rfl⟩) (yFa_dm hd hYm22) ⟨rfl, rfl, rfl⟩)
        have hNL_30 : zNL Ym22 := (zNL_f (zNL_f hNL hV hG20.1 ⟨rfl, rfl, rfl, rfl, rfl⟩) hV19 (yFa_dm hd hYm22) ⟨rfl, rfl, rfl, rfl, rfl⟩)
        have hDl_31 : zDl 0 Zc21 Ym22 := (zDl_f (zDl_f hDl hF.1 hG20.1 ⟨rfl, rfl, rfl, rfl, rfl⟩) (zFa_dd hI hZc21) (yFa_dm hd hYm22) ⟨rfl, rfl, rfl, rfl, rfl⟩)
        have hNr_32 : zNr Ym22 := (zNr_f (zNr_f hNr hV hG20.1 ⟨rfl, rfl, rfl⟩) hV19 (yFa_dm hd hYm22) ⟨rfl, rfl, rfl⟩)
        have hF33 : zFc [1112, 1400, 4307, 4404, 4405, 4406, 4410, 4412, 4503, 4504, 4511, 4606, 4709, 4711, 4712, 4717, 4719, 4805, 4900, 5300, 5301, 5302, 5303, 5304] 0 Zc21 Zc21 := zFc_r
        have hG34 : yFr [1112, 1400, 4307, 4404, 4405, 4406, 4410, 4412, 4503, 4606, 4709, 4717, 4719, 4805, 5300, 5301, 5302, 5303, 5304, 10001, 10002, 10050, 10051, 10052] Ym22 Ym22 := yFr_r
        obtain ⟨Zc35, y36, g37, hC⟩ := zl_x2 hC
        obtain ⟨Ym38, y39, g40, hM⟩ := zl_x2 hM
        have q42 := zhd ((((yFa_dm hd hYm22 (102) rfl).trans (zu_ne (k' := 2) (b' := 0) (i' := 0) (j' := 102) hYm17 (fun q => absurd q.1 (by decide)))).trans (zu_ne (k' := 2) (b' := 0) (i' := 0) (j' := 102) hYm12 (fun q => absurd q.1 (by decide)))))
        have g41 := rr_105f  (zRx_1 hR23) hV24 hD1_25 hD4_26 hN4_27 hN1_28 hN8_29 hNL_30 hDl_31 hNr_32 (by have q6 := zhx q6; have q7 := zhx q7; have q9 := zhx q9; have q10 := zhx q10; first | omega | exact (z2_r _ _ _).1 | exact (z2_r _ _ _).2 | exact (w3_r _).1 | exact (w3_r _).2) (by have q6 := zhx q6; have q7 := zhx q7; have q9 := zhx q9; have q10 := zhx q10; first | omega | exact (z2_r _ _ _).1 | exact (z2_r _ _ _).2 | exact (w3_r _).1 | exact (w3_r _).2) (by have q6 := zhx q6; have q7 := zhx q7; have q9 := zhx q9; have q10 := zhx q10; first | omega | exact (z2_r _ _ _).1 | exact (z2_r _ _ _).2 | exact (w3_r _).1 | exact (w3_r _).2) (by have q6 := zhx q6; have q7 := zhx q7; have q9 := zhx q9; have q10 := zhx q10; first | omega | exact (z2_r _ _ _).1 | exact (z2_r _ _ _).2 | exact (w3_r _).1 | exact (w3_r _).2) (by have q6 := zhx q6; have q7 := zhx q7; have q9 := zhx q9; have q10 := zhx q10; have q42 := zhx q42; omega) g37 g40
        have hR43 : zRx [] 0 Zc35 Ym38 := zRx_0 g41.1
        have hV44 : zV Ym38 := g41.2.1
        have hF45 := zFc_t hF33 g41.2.2.1 (by decide)
        have hG46 := yFr_t hG34 g41.2.2.2.1 (by decide)
        have q47 := zhd (show y36 = y39 from g41.2.2.2.2.1)
        have hD1_48 : zD1 0 Zc35 Ym38 := (zD1_f hD1_25 (g41.2.2.1).1 (g41.2.2.2.1).1 ⟨rfl, rfl, rfl⟩)
        have hD4_49 : zD4 0 Zc35 Ym38 := g41.2.2.2.2.2.1
        have hN4_50 : zN4 Ym38 := g41.2.2.2.2.2.2.1
        have hN1_51 : zN1 Ym38 := g41.2.2.2.2.2.2.2.1
        have hN8_52 : zN8 Ym38 := g41.2.2.2.2.2.2.2.2.1
        have hNL_53 : zNL Ym38 := g41.2.2.2.2.2.2.2.2.2.1
        have hDl_54 : zDl 0 Zc35 Ym38 := g41.2.2.2.2.2.2.2.2.2.2.1
        have hNr_55 : zNr Ym38 := g41.2.2.2.2.2.2.2.2.2.2.2
        have tF56 : zFc [1112, 1400, 4307, 4404, 4405, 4406, 4410, 4412, 4503, 4504, 4511, 4606, 4709, 4711, 4712, 4717, 4719, 4805, 4900, 5300, 5301, 5302, 5303, 5304] 0 Zc21 Zc35 := zFc_w hF45 (by decide)
        have tG57 : yFr [1112, 1400, 4307, 4404, 4405, 4406, 4410, 4412, 4503, 4606, 4709, 4717, 4719, 4805, 5300, 5301, 5302, 5303, 5304, 10001, 10002, 10050, 10051, 10052, 99999] Ym22 Ym38 := yFr_w hG46 (by decide)
        have hF58 : zFc [] 0 Zc35 Zc35 := zFc_r
        have hG59 : yFr [] Ym38 Ym38 := yFr_r
        have th9 := ((((g41.2.2.2.1).2.1 rfl).trans (zTh_dm hd hYm22 (by decide))).trans (zu_at hYm17))
        obtain rfl : C = _ := hC
        obtain rfl : M = _ := hM
        exact ⟨zRx_1 hR43, hV44, ⟨Zc21, Ym22, .inr ⟨9, a1, 0, 0, 0, 0, 0, 10, Ym17, hZc21, yFr_w hG20 (by decide), hYm22, (by unfold zcode; omega)⟩, zFc_t tF56 hF58 (by decide), yFr_t tG57 hG59 (by decide)⟩, zThr_a th9 (by first | rfl | (have q6 := zhx q6; have q7 := zhx q7; have q9 := zhx q9; have q10 := zhx q10; have q47 := zhx q47; omega) | (simp only [zhx q6, zhx q7, zhx q9, zhx q10, zhx q47] <;> omega) | (have q6 := zhx q6; have q7 := zhx q7; have q9 := zhx q9; have q10 := zhx q10; have q47 := zhx q47; refine w3z ?_ ?_ ?_ <;> omega) | (have q6 := zhx q6; have q7 := zhx q7; have q9 := zhx q9; have q10 := zhx q10; have q47 := zhx q47; refine w3y ?_ ?_ ?_ <;> omega) | (have q6 := zhx q6; have q7 := zhx q7; have q9 := zhx q9; have q10 := zhx q10; have q47 := zhx q47; refine z2o ?_ ?_ ?_ <;> omega)), hD4_49, hN4_50, hN1_51, hN8_52, hNL_53, hDl_54, hNr_55⟩
      · rcases zE_c hC with ⟨h60, hC⟩ | ⟨h60, hC⟩
        · replace hM := zE_n hM (by first | (have q6 := zhx q6; have q7 := zhx q7; have q9 := zhx q9; have q10 := zhx q10; omega) | (simp only [zhx q6, zhx q7, zhx q9, zhx q10] at h1 h8 h11 h60 ⊢ <;> omega))
          replace hM := zE_n hM (by first | (have q6 := zhx q6; have q7 := zhx q7; have q9 := zhx q9; have q10 := zhx q10; omega) | (simp only [zhx q6, zhx q7, zhx q9, zhx q10] at h1 h8 h11 h60 ⊢ <;> omega))
          obtain ⟨Ym61, hYm61, hM⟩ := zl_x hM
          have hR62 : zRx [] 0 Z Ym61 := zRx_o hRb hYm61 rfl
          have hV63 : zV Ym61 := zV_o hV hYm61 rfl
          have hG64 := yFr_o hG hYm61 rfl (.inr rfl) rfl
          have q65 := zhd ((zu_ne (k' := 2) (b' := 0) (i' := 0) (j' := 210 + 20 * a1) hYm61 (fun q => absurd q.1 (by decide))))
          rcases zE_c hM with ⟨h66, hM⟩ | ⟨h66, hM⟩
          · obtain ⟨Ym67, hYm67, hM⟩ := zl_x hM
            have hR68 : zRx [] 0 Z Ym67 := zRx_o hR62 hYm67 rfl
            have hV69 : zV Ym67 := zV_o hV63 hYm67 rfl
            have hG70 := yFr_o hG64 hYm67 rfl (.inr rfl) rfl
            have th9 := (zu_at hYm67)
            obtain rfl : C = _ := hC
            obtain rfl : M = _ := hM
            exact ⟨zRx_1 hR68, hV69, ⟨Z, _, .inl ⟨rfl, yFr_w hG70 (by decide)⟩, zFc_r, yFr_r⟩, zThr_e th9 (by decide), (zD4_f hD4 hF.1 hG70.1 ⟨⟨rfl, rfl⟩, rfl, rfl, rfl⟩), (zN4_f hN4 hG70.1 ⟨rfl, rfl, rfl⟩), (zN1_f hN1 hG70.1 ⟨rfl, rfl, rfl, rfl⟩), (zN8_f hN8 hG70.1 ⟨rfl, rfl, rfl⟩), (zNL_f hNL hV hG70.1 ⟨rfl, rfl, rfl, rfl, rfl⟩), (zDl_f hDl hF.1 hG70.1 ⟨rfl, rfl, rfl, rfl, rfl⟩), (zNr_f hNr hV hG70.1 ⟨rfl, rfl, rfl⟩)⟩
          · obtain ⟨Ym71, hYm71, hM⟩ := zl_x hM
            have hR72 : zRx [] 0 Z Ym71 := zRx_o hR62 hYm71 rfl
            have hV73 : zV Ym71 := zV_o hV63 hYm71 rfl
            have hG74 := yFr_o hG64 hYm71 rfl (.inr rfl) rfl
            exact False.elim (by have q6 := zhx q6; have q7 := zhx q7; have q9 := zhx q9; have q10 := zhx q10; have q65 := zhx q65; first | omega | grind)
        · replace hM := zE_n hM (by first | (have q6 := zhx q6; have q7 := zhx q7; have q9 := zhx q9; have q10 := zhx q10; omega) | (simp only [zhx q6, zhx q7, zhx q9, zhx q10] at h1 h8 h11 h60 ⊢ <;> omega))
          replace hM := zE_n hM (by first | (have q6 := zhx q6; have q7 := zhx q7; have q9 := zhx q9; have q10 := zhx q10; omega) | (simp only [zhx q6, zhx q7, zhx q9, zhx q10] at h1 h8 h11 h60 ⊢ <;> omega))
          obtain ⟨Ym75, hYm75, hM⟩ := zl_x hM
          have hR76 : zRx [] 0 Z Ym75 := zRx_o hRb hYm75 rfl
          have hV77 : zV Ym75 := zV_o hV hYm75 rfl
          have hG78 := yFr_o hG hYm75 rfl (.inr rfl) rfl
          have q79 := zhd ((zu_ne (k' := 2) (b' := 0) (i' := 0) (j' := 210 + 20 * a1) hYm75 (fun q => absurd q.1 (by decide))))
          replace hM := zE_n hM (by first | (have q6 := zhx q6; have q7 := zhx q7; have q9 := zhx q9; have q10 := zhx q10; have q79 := zhx q79; omega) | (simp only [zhx q6, zhx q7, zhx q9, zhx q10, zhx q79] at h1 h8 h11 h60 ⊢ <;> omega))
          obtain ⟨Ym80, hYm80, hM⟩ := zl_x hM
          have hR81 : zRx [] 0 Z Ym80 := zRx_o hR76 hYm80 rfl
          have hV82 : zV Ym80 := zV_o hV77 hYm80 rfl
          have hG83 := yFr_o hG78 hYm80 rfl (.inr rfl) rfl
          obtain ⟨Zc84, hZc84, hC⟩ := zl_x hC
          obtain ⟨Ym85, hYm85, hM⟩ := zl_x hM
          have hR86 : zRx [] 0 Zc84 Ym85 := zRx_dd hR81 hI hd hZc84 hYm85
          have hV87 : zV Ym85 := zV_dm hV82 hd hYm85
          have hD1_88 : zD1 0 Zc84 Ym85 := (zD1_f (zD1_f hD1 hF.1 hG83.1 ⟨rfl, rfl, rfl⟩) (zFa_dd hI hZc84) (yFa_dm hd hYm85) ⟨rfl, rfl, rfl⟩)
          have hD4_89 : zD4 0 Zc84 Ym85 := (zD4_f (zD4_f hD4 hF.1 hG83.1 ⟨⟨rfl, rfl⟩, rfl, rfl, rfl⟩) (zFa_dd hI hZc84) (yFa_dm hd hYm85) ⟨⟨rfl, rfl⟩, rfl, rfl, rfl⟩)
          have hN4_90 : zN4 Ym85 := (zN4_f (zN4_f hN4 hG83.1 ⟨rfl, rfl, rfl⟩) (yFa_dm hd hYm85) ⟨rfl, rfl, rfl⟩)
          have hN1_91 : zN1 Ym85 := (zN1_f (zN1_f hN1 hG83.1 ⟨rfl, rfl, rfl, rfl⟩) (yFa_dm hd hYm85) ⟨rfl, rfl, rfl, rfl⟩)
          have hN8_92 : zN8 Ym85 := (zN8_f (zN8_f hN8 hG83.1 ⟨rfl, rfl, rfl⟩) (yFa_dm hd hYm85) ⟨rfl, rfl, rfl⟩)
          have hNL_93 : zNL Ym85 := (zNL_f (zNL_f hNL hV hG83.1 ⟨rfl, rfl, rfl, rfl, rfl⟩) hV82 (yFa_dm hd hYm85) ⟨rfl, rfl, rfl, rfl, rfl⟩)
          have hDl_94 : zDl 0 Zc84 Ym85 := (zDl_f (zDl_f hDl hF.1 hG83.1 ⟨rfl, rfl, rfl, rfl, rfl⟩) (zFa_dd hI hZc84) (yFa_dm hd hYm85) ⟨rfl, rfl, rfl, rfl, rfl⟩)
          have hNr_95 : zNr Ym85 := (zNr_f (zNr_f hNr hV hG83.1 ⟨rfl, rfl, rfl⟩) hV82 (yFa_dm hd hYm85) ⟨rfl, rfl, rfl⟩)
          have hF96 : zFc [1112, 1400, 4307, 4404, 4405, 4406, 4410, 4412, 4503, 4504, 4511, 4606, 4709, 4711, 4712, 4717, 4719, 4805, 4900, 5300, 5301, 5302, 5303, 5304] 0 Zc84 Zc84 := zFc_r
          have hG97 : yFr [1112, 1400, 4307, 4404, 4405, 4406, 4410, 4412, 4503, 4606, 4709, 4717, 4719, 4805, 5300, 5301, 5302, 5303, 5304, 10001, 10002, 10050, 10051, 10052] Ym85 Ym85 := yFr_r
          obtain ⟨Zc98, y99, g100, hC⟩ := zl_x2 hC
          obtain ⟨Ym101, y102, g103, hM⟩ := zl_x2 hM
          have q105 := zhd ((((yFa_dm hd hYm85 (102) rfl).trans (zu_ne (k' := 2) (b' := 0) (i' := 0) (j' := 102) hYm80 (fun q => absurd q.1 (by decide)))).trans (zu_ne (k' := 2) (b' := 0) (i' := 0) (j' := 102) hYm75 (fun q => absurd q.1 (by decide)))))
          have g104 := rr_105f  (zRx_1 hR86) hV87 hD1_88 hD4_89 hN4_90 hN1_91 hN8_92 hNL_93 hDl_94 hNr_95 (by have q6 := zhx q6; have q7 := zhx q7; have q9 := zhx q9; have q10 := zhx q10; first | omega | exact (z2_r _ _ _).1 | exact (z2_r _ _ _).2 | exact (w3_r _).1 | exact (w3_r _).2) (by have q6 := zhx q6; have q7 := zhx q7; have q9 := zhx q9; have q10 := zhx q10; first | omega | exact (z2_r _ _ _).1 | exact (z2_r _ _ _).2 | exact (w3_r _).1 | exact (w3_r _).2) (by have q6 := zhx q6; have q7 := zhx q7; have q9 := zhx q9; have q10 := zhx q10; first | omega | exact (z2_r _ _ _).1 | exact (z2_r _ _ _).2 | exact (w3_r _).1 | exact (w3_r _).2) (by have q6 := zhx q6; have q7 := zhx q7; have q9 := zhx q9; have q10 := zhx q10; first | omega | exact (z2_r _ _ _).1 | exact (z2_r _ _ _).2 | exact (w3_r _).1 | exact (w3_r _).2) (by have q6 := zhx q6; have q7 := zhx q7; have q9 := zhx q9; have q10 := zhx q10; have q105 := zhx q105; omega) g100 g103
          have hR106 : zRx [] 0 Zc98 Ym101 := zRx_0 g104.1
          have hV107 : zV Ym101 := g104.2.1
          have hF108 := zFc_t hF96 g104.2.2.1 (by decide)
          have hG109 := yFr_t hG97 g104.2.2.2.1 (by decide)
          have q110 := zhd (show y99 = y102 from g104.2.2.2.2.1)
          have hD1_111 : zD1 0 Zc98 Ym101 := (zD1_f hD1_88 (g104.2.2.1).1 (g104.2.2.2.1).1 ⟨rfl, rfl, rfl⟩)
          have hD4_112 : zD4 0 Zc98 Ym101 := g104.2.2.2.2.2.1
          have hN4_113 : zN4 Ym101 := g104.2.2.2.2.2.2.1
          have hN1_114 : zN1 Ym101 := g104.2.2.2.2.2.2.2.1
          have hN8_115 : zN8 Ym101 := g104.2.2.2.2.2.2.2.2.1
          have hNL_116 : zNL Ym101 := g104.2.2.2.2.2.2.2.2.2.1
          have hDl_117 : zDl 0 Zc98 Ym101 := g104.2.2.2.2.2.2.2.2.2.2.1
          have hNr_118 : zNr Ym101 := g104.2.2.2.2.2.2.2.2.2.2.2
          have tF119 : zFc [1112, 1400, 4307, 4404, 4405, 4406, 4410, 4412, 4503, 4504, 4511, 4606, 4709, 4711, 4712, 4717, 4719, 4805, 4900, 5300, 5301, 5302, 5303, 5304] 0 Zc84 Zc98 := zFc_w hF108 (by decide)
          have tG120 : yFr [1112, 1400, 4307, 4404, 4405, 4406, 4410, 4412, 4503, 4606, 4709, 4717, 4719, 4805, 5300, 5301, 5302, 5303, 5304, 10001, 10002, 10050, 10051, 10052, 99999] Ym85 Ym101 := yFr_w hG109 (by decide)
          have hF121 : zFc [] 0 Zc98 Zc98 := zFc_r
          have hG122 : yFr [] Ym101 Ym101 := yFr_r
          have th9 := ((((g104.2.2.2.1).2.1 rfl).trans (zTh_dm hd hYm85 (by decide))).trans (zu_at hYm80))
          obtain rfl : C = _ := hC
          obtain rfl : M = _ := hM
          exact ⟨zRx_1 hR106, hV107, ⟨Zc84, Ym85, .inr ⟨9, a1, 0, 0, 0, 0, 0, 10, Ym80, hZc84, yFr_w hG83 (by decide), hYm85, (by unfold zcode; omega)⟩, zFc_t tF119 hF121 (by decide), yFr_t tG120 hG122 (by decide)⟩, zThr_a th9 (by first | rfl | (have q6 := zhx q6; have q7 := zhx q7; have q9 := zhx q9; have q10 := zhx q10; have q110 := zhx q110; omega) | (simp only [zhx q6, zhx q7, zhx q9, zhx q10, zhx q110] <;> omega) | (have q6 := zhx q6; have q7 := zhx q7; have q9 := zhx q9; have q10 := zhx q10; have q110 := zhx q110; refine w3z ?_ ?_ ?_ <;> omega) | (have q6 := zhx q6; have q7 := zhx q7; have q9 := zhx q9; have q10 := zhx q10; have q110 := zhx q110; refine w3y ?_ ?_ ?_ <;> omega) | (have q6 := zhx q6; have q7 := zhx q7; have q9 := zhx q9; have q10 := zhx q10; have q110 := zhx q110; refine z2o ?_ ?_ ?_ <;> omega)), hD4_112, hN4_113, hN1_114, hN8_115, hNL_116, hDl_117, hNr_118⟩
    · replace hM := zE_n hM (by first | (have q6 := zhx q6; have q7 := zhx q7; omega) | (simp only [zhx q6, zhx q7] at h1 h8 ⊢ <;> omega))
      replace hM := zE_p hM (by first | (have q6 := zhx q6; have q7 := zhx q7; omega) | (simp only [zhx q6, zhx q7] at h1 h8 ⊢ <;> omega))
      obtain ⟨Ym123, hYm123, hM⟩ := zl_x hM
      have hR124 : zRx [] 0 Z Ym123 := zRx_o hRb hYm123 rfl
      have hV125 : zV Ym123 := zV_o hV hYm123 rfl
      have hG126 := yFr_o hG hYm123 rfl (.inr rfl) rfl
      have th9 := (zu_at hYm123)
      obtain rfl : C = _ := hC
      obtain rfl : M = _ := hM
      exact ⟨zRx_1 hR124, hV125, ⟨Z, _, .inl ⟨rfl, yFr_w hG126 (by decide)⟩, zFc_r, yFr_r⟩, zThr_e th9 (by decide), (zD4_f hD4 hF.1 hG126.1 ⟨⟨rfl, rfl⟩, rfl, rfl, rfl⟩), (zN4_f hN4 hG126.1 ⟨rfl, rfl, rfl⟩), (zN1_f hN1 hG126.1 ⟨rfl, rfl, rfl, rfl⟩), (zN8_f hN8 hG126.1 ⟨rfl, rfl, rfl⟩), (zNL_f hNL hV hG126.1 ⟨rfl, rfl, rfl, rfl, rfl⟩), (zDl_f hDl hF.1 hG126.1 ⟨rfl, rfl, rfl, rfl, rfl⟩), (zNr_f hNr hV hG126.1 ⟨rfl, rfl, rfl⟩)⟩
