/- face put -/
theorem rf_put {Z Y : qz_Z} {dm : qz_Z → Int → Int → Int → Int → Int → Int → Int → qz_Z} {a1 a2 : Int} (hRa : zR 0 Z Y) (hV : zV Y) (hI : zI none Z) (hd : zDf dm) (hN1 : zN1 Y) (hN8 : zN8 Y) (hDs : zDs 0 Z Y) (hNr : zNr Y)  {C : qz_Z × Int × Int} {M : qz_Z × Int} (hC : zE C (zx_9230 Z a1 a2)) (hM : zE M (zy_453 Y dm a1 a2)) : zR 0 C.1 M.1 ∧ zV M.1 ∧ zDd [4307, 4412] [4307, 4412, 99999] Z Y dm C.1 M.1 ∧ zThr [(24, 1), (15, 2)] C.2 (M.1 1 0 0 2) M.2 ∧ zN1 M.1 ∧ zN8 M.1 ∧ zNr M.1 := by
  have hRb := zRx_0 hRa
  have hF : zFc [] 0 Z Z := zFc_r
  have hG : yFr [99999] Y Y := yFr_r
  unfold zx_9230 at hC
  unfold zy_453 at hM
  rcases zE_c hC with ⟨h1, hC⟩ | ⟨h1, hC⟩
  · rcases zE_c hM with ⟨h2, hM⟩ | ⟨h2, hM⟩
    · replace hM := zE_p hM (by omega)
      obtain ⟨Ym3, hYm3, hM⟩ := zl_x hM
      have hR4 : zRx [] 0 Z Ym3 := zRx_o hRb hYm3 rfl
      have hV5 : zV Ym3 := zV_o hV hYm3 rfl
      have hG6 := yFr_o hG hYm3 rfl (.inr rfl) rfl
      have th9 := (zu_at hYm3)
      obtain rfl : C = _ := hC
      obtain rfl : M = _ := hM
      exact ⟨zRx_1 hR4, hV5, ⟨Z, _, .inl ⟨rfl, yFr_w hG6 (by decide)⟩, zFc_r, yFr_r⟩, zThr_e th9 (by decide), (zN1_f hN1 hG6.1 ⟨rfl, rfl, rfl, rfl⟩), (zN8_f hN8 hG6.1 ⟨rfl, rfl, rfl⟩), (zNr_f hNr hV hG6.1 ⟨rfl, rfl, rfl⟩)⟩
    · replace hM := zE_p hM (by omega)
      obtain ⟨Ym7, hYm7, hM⟩ := zl_x hM
      have hR8 : zRx [] 0 Z Ym7 := zRx_o hRb hYm7 rfl
      have hV9 : zV Ym7 := zV_o hV hYm7 rfl
      have hG10 := yFr_o hG hYm7 rfl (.inr rfl) rfl
      have th9 := (zu_at hYm7)
      obtain rfl : C = _ := hC
      obtain rfl : M = _ := hM
      exact ⟨zRx_1 hR8, hV9, ⟨Z, _, .inl ⟨rfl, yFr_w hG10 (by decide)⟩, zFc_r, yFr_r⟩, zThr_e th9 (by decide), (zN1_f hN1 hG10.1 ⟨rfl, rfl, rfl, rfl⟩), (zN8_f hN8 hG10.1 ⟨rfl, rfl, rfl⟩), (zNr_f hNr hV hG10.1 ⟨rfl, rfl, rfl⟩)⟩
  · have q11 := zhd (zVr_11_3 (a := 102) hV (by omega))
    have q12 := zhd ((zRl_11_3 (a := 102) hRa (by omega)))
    rcases zE_c hC with ⟨h13, hC⟩ | ⟨h13, hC⟩
    · rcases zE_c hM with ⟨h14, hM⟩ | ⟨h14, hM⟩
      · replace hM := zE_n hM (by first | (have q11 := zhx q11; have q12 := zhx q12; omega) | (simp only [zhx q11, zhx q12] at h1 h13 h14 ⊢ <;> omega))
        replace hM := zE_p hM (by first | (have q11 := zhx q11; have q12 := zhx q12; omega) | (simp only [zhx q11, zhx q12] at h1 h13 h14 ⊢ <;> omega))
        obtain ⟨Ym15, hYm15, hM⟩ := zl_x hM
        have hR16 : zRx [] 0 Z Ym15 := zRx_o hRb hYm15 rfl
        have hV17 : zV Ym15 := zV_o hV hYm15 rfl
        have hG18 := yFr_o hG hYm15 rfl (.inr rfl) rfl
        have th9 := (zu_at hYm15)
        obtain rfl : C = _ := hC
        obtain rfl : M = _ := hM
        exact ⟨zRx_1 hR16, hV17, ⟨Z, _, .inl ⟨rfl, yFr_w hG18 (by decide)⟩, zFc_r, yFr_r⟩, zThr_e th9 (by decide), (zN1_f hN1 hG18.1 ⟨rfl, rfl, rfl, rfl⟩), (zN8_f hN8 hG18.1 ⟨rfl, rfl, rfl⟩), (zNr_f hNr hV hG18.1 ⟨rfl, rfl, rfl⟩)⟩
      · replace hM := zE_n hM (by first | (have q11 := zhx q11; have q12 := zhx q12; omega) | (simp only [zhx q11, zhx q12] at h1 h13 h14 ⊢ <;> omega))
        replace hM := zE_p hM (by first | (have q11 := zhx q11; have q12 := zhx q12; omega) | (simp only [zhx q11, zhx q12] at h1 h13 h14 ⊢ <;> omega))
        obtain ⟨Ym19, hYm19, hM⟩ := zl_x hM
        have hR20 : zRx [] 0 Z Ym19 := zRx_o hRb hYm19 rfl
        have hV21 : zV Ym19 := zV_o hV hYm19 rfl
        have hG22 := yFr_o hG hYm19 rfl (.inr rfl) rfl
        have th9 := (zu_at hYm19)
        obtain rfl : C = _ := hC
        obtain rfl : M = _ := hM
        exact ⟨zRx_1 hR20, hV21, ⟨Z, _, .inl ⟨rfl, yFr_w hG22 (by decide)⟩, zFc_r, yFr_r⟩, zThr_e th9 (by decide), (zN1_f hN1 hG22.1 ⟨rfl, rfl, rfl, rfl⟩), (zN8_f hN8 hG22.1 ⟨rfl, rfl, rfl⟩), (zNr_f hNr hV hG22.1 ⟨rfl, rfl, rfl⟩)⟩
    · rcases zE_c hC with ⟨h23, hC⟩ | ⟨h23, hC⟩
      · replace hM := zE_p hM (by first | (have q11 := zhx q11; have q12 := zhx q12; omega) | (simp only [zhx q11, zhx q12] at h1 h13 h23 ⊢ <;> omega))
        replace hM := zE_n hM (by first | (have q11 := zhx q11; have q12 := zhx q12; omega) | (simp only [zhx q11, zhx q12] at h1 h13 h23 ⊢ <;> omega))
        replace hM := zE_n hM (by first | (have q11 := zhx q11; have q12 := zhx q12; omega) | (simp only [zhx q11, zhx q12] at h1 h13 h23 ⊢ <;> omega))
        replace hM := zE_n hM (by first | (have q11 := zhx q11; have q12 := zhx q12; omega) | (simp only [zhx q11, zhx q12] at h1 h13 h23 ⊢ <;> omega))
        replace hM := zE_p hM (by first | (have q11 := zhx q11; have q12 := zhx q12; omega) | (simp only [zhx q11, zhx q12] at h1 h13 h23 ⊢ <;> omega))
        obtain ⟨Ym24, hYm24, hM⟩ := zl_x hM
        have hR25 : zRx [] 0 Z Ym24 := zRx_o hRb hYm24 rfl
        have hV26 : zV Ym24 := zV_o hV hYm24 rfl
        have hG27 := yFr_o hG hYm24 rfl (.inr rfl) rfl
        have th9 := (zu_at hYm24)
        obtain rfl : C = _ := hC
        obtain rfl : M = _ := hM
        exact ⟨zRx_1 hR25, hV26, ⟨Z, _, .inl ⟨rfl, yFr_w hG27 (by decide)⟩, zFc_r, yFr_r⟩, zThr_e th9 (by decide), (zN1_f hN1 hG27.1 ⟨rfl, rfl, rfl, rfl⟩), (zN8_f hN8 hG27.1 ⟨rfl, rfl, rfl⟩), (zNr_f hNr hV hG27.1 ⟨rfl, rfl, rfl⟩)⟩
      · have q28 := zhd (zVr_11_2 (a := 1200) hV (by omega))
        have q29 := zhd ((zRl_11_2 (a := 1200) hRa (by omega)))
        rcases zE_c hC with ⟨h30, hC⟩ | ⟨h30, hC⟩
        · rcases zE_c hC with ⟨h31, hC⟩ | ⟨h31, hC⟩
          · obtain ⟨v32, hv32, hC⟩ := zl_x hC
            have q33 := zhd (show v32 = (zf_477 Y a1 a2) from hv32.trans (rr_9178 hRa hV hN1 hDs hNr (by first | (omega) | (have q11 := zhx q11; have q12 := zhx q12; have q28 := zhx q28; have q29 := zhx q29; omega)) (by first | (omega) | (have q11 := zhx q11; have q12 := zhx q12; have q28 := zhx q28; have q29 := zhx q29; omega)) (by first | (omega) | (have q11 := zhx q11; have q12 := zhx q12; have q28 := zhx q28; have q29 := zhx q29; omega)) (by first | (omega) | (have q11 := zhx q11; have q12 := zhx q12; have q28 := zhx q28; have q29 := zhx q29; omega)) rfl rfl))
            rcases zE_c hC with ⟨h34, hC⟩ | ⟨h34, hC⟩
            · replace hM := zE_p hM (by first | (have q11 := zhx q11; have q12 := zhx q12; have q28 := zhx q28; have q29 := zhx q29; have q33 := zhx q33; omega) | (simp only [zhx q11, zhx q12, zhx q28, zhx q29, zhx q33] at h1 h13 h23 h30 h31 h34 ⊢ <;> omega))
              replace hM := zE_n hM (by first | (have q11 := zhx q11; have q12 := zhx q12; have q28 := zhx q28; have q29 := zhx q29; have q33 := zhx q33; omega) | (simp only [zhx q11, zhx q12, zhx q28, zhx q29, zhx q33] at h1 h13 h23 h30 h31 h34 ⊢ <;> omega))
              replace hM := zE_n hM (by first | (have q11 := zhx q11; have q12 := zhx q12; have q28 := zhx q28; have q29 := zhx q29; have q33 := zhx q33; omega) | (simp only [zhx q11, zhx q12, zhx q28, zhx q29, zhx q33] at h1 h13 h23 h30 h31 h34 ⊢ <;> omega))
              replace hM := zE_n hM (by first | (have q11 := zhx q11; have q12 := zhx q12; have q28 := zhx q28; have q29 := zhx q29; have q33 := zhx q33; omega) | (simp only [zhx q11, zhx q12, zhx q28, zhx q29, zhx q33] at h1 h13 h23 h30 h31 h34 ⊢ <;> omega))
              replace hM := zE_n hM (by first | (have q11 := zhx q11; have q12 := zhx q12; have q28 := zhx q28; have q29 := zhx q29; have q33 := zhx q33; omega) | (simp only [zhx q11, zhx q12, zhx q28, zhx q29, zhx q33] at h1 h13 h23 h30 h31 h34 ⊢ <;> omega))
              replace hM := zE_n hM (by first | (have q11 := zhx q11; have q12 := zhx q12; have q28 := zhx q28; have q29 := zhx q29; have q33 := zhx q33; omega) | (simp only [zhx q11, zhx q12, zhx q28, zhx q29, zhx q33] at h1 h13 h23 h30 h31 h34 ⊢ <;> omega))
              obtain ⟨Ym35, hYm35, hM⟩ := zl_x hM
              have hR36 : zRx [] 0 Z Ym35 := zRx_o hRb hYm35 rfl
              have hV37 : zV Ym35 := zV_o hV hYm35 rfl
              have hG38 := yFr_o hG hYm35 rfl (.inr rfl) rfl
              obtain ⟨v39, hv39, hM⟩ := zl_x hM
              have q40 := zhd (show v32 = (zf_477 Ym35 a1 a2) from hv32.trans (rr_9178 (zRx_1 hR36) hV37 (zN1_f hN1 hG38.1 ⟨rfl, rfl, rfl, rfl⟩) (zDs_f hDs hF.1 hG38.1 ⟨rfl, rfl⟩) (zNr_f hNr hV hG38.1 ⟨rfl, rfl, rfl⟩) (by first | (omega) | (have q11 := zhx q11; have q12 := zhx q12; have q28 := zhx q28; have q29 := zhx q29; have q33 := zhx q33; omega)) (by first | (omega) | (have q11 := zhx q11; have q12 := zhx q12; have q28 := zhx q28; have q29 := zhx q29; have q33 := zhx q33; omega)) (by first | (omega) | (have q11 := zhx q11; have q12 := zhx q12; have q28 := zhx q28; have q29 := zhx q29; have q33 := zhx q33; omega)) (by first | (omega) | (have q11 := zhx q11; have q12 := zhx q12; have q28 := zhx q28; have q29 := zhx q29; have q33 := zhx q33; omega)) rfl rfl))
              have q41 := zhd (hv39)
              rcases zE_c hM with ⟨h42, hM⟩ | ⟨h42, hM⟩
              · obtain ⟨Ym43, hYm43, hM⟩ := zl_x hM
                have hR44 : zRx [] 0 Z Ym43 := zRx_o hR36 hYm43 rfl
                have hV45 : zV Ym43 := zV_o hV37 hYm43 rfl
                have hG46 := yFr_o hG38 hYm43 rfl (.inr rfl) rfl
                have th9 := (zu_at hYm43)
                obtain rfl : C = _ := hC
                obtain rfl : M = _ := hM
                exact ⟨zRx_1 hR44, hV45, ⟨Z, _, .inl ⟨rfl, yFr_w hG46 (by decide)⟩, zFc_r, yFr_r⟩, zThr_e th9 (by decide), (zN1_f hN1 hG46.1 ⟨rfl, rfl, rfl, rfl⟩), (zN8_f hN8 hG46.1 ⟨rfl, rfl, rfl⟩), (zNr_f hNr hV hG46.1 ⟨rfl, rfl, rfl⟩)⟩
              · obtain ⟨Ym47, hYm47, hM⟩ := zl_x hM
                have hR48 : zRx [] 0 Z Ym47 := zRx_o hR36 hYm47 rfl
                have hV49 : zV Ym47 := zV_o hV37 hYm47 rfl
                have hG50 := yFr_o hG38 hYm47 rfl (.inr rfl) rfl
                exact False.elim (by have q11 := zhx q11; have q12 := zhx q12; have q28 := zhx q28; have q29 := zhx q29; have q33 := zhx q33; have q40 := zhx q40; have q41 := zhx q41; first | omega | grind)
            · replace hM := zE_p hM (by first | (have q11 := zhx q11; have q12 := zhx q12; have q28 := zhx q28; have q29 := zhx q29; have q33 := zhx q33; omega) | (simp only [zhx q11, zhx q12, zhx q28, zhx q29, zhx q33] at h1 h13 h23 h30 h31 h34 ⊢ <;> omega))
              replace hM := zE_n hM (by first | (have q11 := zhx q11; have q12 := zhx q12; have q28 := zhx q28; have q29 := zhx q29; have q33 := zhx q33; omega) | (simp only [zhx q11, zhx q12, zhx q28, zhx q29, zhx q33] at h1 h13 h23 h30 h31 h34 ⊢ <;> omega))
              replace hM := zE_n hM (by first | (have q11 := zhx q11; have q12 := zhx q12; have q28 := zhx q28; have q29 := zhx q29; have q33 := zhx q33; omega) | (simp only [zhx q11, zhx q12, zhx q28, zhx q29, zhx q33] at h1 h13 h23 h30 h31 h34 ⊢ <;> omega))
              replace hM := zE_n hM (by first | (have q11 := zhx q11; have q12 := zhx q12; have q28 := zhx q28; have q29 := zhx q29; have q33 := zhx q33; omega) | (simp only [zhx q11, zhx q12, zhx q28, zhx q29, zhx q33] at h1 h13 h23 h30 h31 h34 ⊢ <;> omega))
              replace hM := zE_n hM (by first | (have q11 := zhx q11; have q12 := zhx q12; have q28 := zhx q28; have q29 := zhx q29; have q33 := zhx q33; omega) | (simp only [zhx q11, zhx q12, zhx q28, zhx q29, zhx q33] at h1 h13 h23 h30 h31 h34 ⊢ <;> omega))
              replace hM := zE_n hM (by first | (have q11 := zhx q11; have q12 := zhx q12; have q28 := zhx q28; have q29 := zhx q29; have q33 := zhx q33; omega) | (simp only [zhx q11, zhx q12, zhx q28, zhx q29, zhx q33] at h1 h13 h23 h30 h31 h34 ⊢ <;> omega))
              obtain ⟨Ym51, hYm51, hM⟩ := zl_x hM
              have hR52 : zRx [] 0 Z Ym51 := zRx_o hRb hYm51 rfl
              have hV53 : zV Ym51 := zV_o hV hYm51 rfl
              have hG54 := yFr_o hG hYm51 rfl (.inr rfl) rfl
              obtain ⟨v55, hv55, hM⟩ := zl_x hM
              have q56 := zhd (show v32 = (zf_477 Ym51 a1 a2) from hv32.trans (rr_9178 (zRx_1 hR52) hV53 (zN1_f hN1 hG54.1 ⟨rfl, rfl, rfl, rfl⟩) (zDs_f hDs hF.1 hG54.1 ⟨rfl, rfl⟩) (zNr_f hNr hV hG54.1 ⟨rfl, rfl, rfl⟩) (by first | (omega) | (have q11 := zhx q11; have q12 := zhx q12; have q28 := zhx q28; have q29 := zhx q29; have q33 := zhx q33; omega)) (by first | (omega) | (have q11 := zhx q11; have q12 := zhx q12; have q28 := zhx q28; have q29 := zhx q29; have q33 := zhx q33; omega)) (by first | (omega) | (have q11 := zhx q11; have q12 := zhx q12; have q28 := zhx q28; have q29 := zhx q29; have q33 := zhx q33; omega)) (by first | (omega) | (have q11 := zhx q11; have q12 := zhx q12; have q28 := zhx q28; have q29 := zhx q29; have q33 := zhx q33; omega)) rfl rfl))
              have q57 := zhd (hv55)
              rcases zE_c hM with ⟨h58, hM⟩ | ⟨h58, hM⟩
              · obtain ⟨Ym59, hYm59, hM⟩ := zl_x hM
                have hR60 : zRx [] 0 Z Ym59 := zRx_o hR52 hYm59 rfl
                have hV61 : zV Ym59 := zV_o hV53 hYm59 rfl
                have hG62 := yFr_o hG54 hYm59 rfl (.inr rfl) rfl
                exact False.elim (by have q11 := zhx q11; have q12 := zhx q12; have q28 := zhx q28; have q29 := zhx q29; have q33 := zhx q33; have q56 := zhx q56; have q57 := zhx q57; first | omega | grind)
              · obtain ⟨Ym63, hYm63, hM⟩ := zl_x hM
                have hR64 : zRx [] 0 Z Ym63 := zRx_o hR52 hYm63 rfl
                have hV65 : zV Ym63 := zV_o hV53 hYm63 rfl
                have hG66 := yFr_o hG54 hYm63 rfl (.inr rfl) rfl
                obtain ⟨Zc67, hZc67, hC⟩ := zl_x hC
                obtain ⟨Ym68, hYm68, hM⟩ := zl_x hM
                have hR69 : zRx [] 0 Zc67 Ym68 := zRx_dd hR64 hI hd hZc67 hYm68
                have hV70 : zV Ym68 := zV_dm hV65 hd hYm68
                have hN1_71 : zN1 Ym68 := (zN1_f (zN1_f hN1 hG66.1 ⟨rfl, rfl, rfl, rfl⟩) (yFa_dm hd hYm68) ⟨rfl, rfl, rfl, rfl⟩)
                have hN8_72 : zN8 Ym68 := (zN8_f (zN8_f hN8 hG66.1 ⟨rfl, rfl, rfl⟩) (yFa_dm hd hYm68) ⟨rfl, rfl, rfl⟩)
                have hDs_73 : zDs 0 Zc67 Ym68 := (zDs_f (zDs_f hDs hF.1 hG66.1 ⟨rfl, rfl⟩) (zFa_dd hI hZc67) (yFa_dm hd hYm68) ⟨rfl, rfl⟩)
                have hNr_74 : zNr Ym68 := (zNr_f (zNr_f hNr hV hG66.1 ⟨rfl, rfl, rfl⟩) hV65 (yFa_dm hd hYm68) ⟨rfl, rfl, rfl⟩)
                have hF75 : zFc [4307, 4412] 0 Zc67 Zc67 := zFc_r
                have hG76 : yFr [4307, 4412] Ym68 Ym68 := yFr_r
                obtain ⟨Zc77, g78, hC⟩ := zl_x hC
                obtain ⟨Ym79, g80, hM⟩ := zl_x hM
                have q82 := zhd (zVr_44_10 (x := a1) (a := 210 + 20 * a1) hV (by first | (omega) | (have q11 := zhx q11; have q12 := zhx q12; have q28 := zhx q28; have q29 := zhx q29; have q33 := zhx q33; have q56 := zhx q56; have q57 := zhx q57; omega)) (by first | (omega) | (have q11 := zhx q11; have q12 := zhx q12; have q28 := zhx q28; have q29 := zhx q29; have q33 := zhx q33; have q56 := zhx q56; have q57 := zhx q57; omega)) (by first | (omega) | (have q11 := zhx q11; have q12 := zhx q12; have q28 := zhx q28; have q29 := zhx q29; have q33 := zhx q33; have q56 := zhx q56; have q57 := zhx q57; omega)))
                have q83 := zhd ((zu_ne (k' := 2) (b' := 0) (i' := 0) (j' := 210 + 20 * a1) hYm51 (fun q => absurd q.1 (by decide))))
                have q84 := zhd (z477_s hv55 (by have q11 := zhx q11; have q12 := zhx q12; have q28 := zhx q28; have q29 := zhx q29; have q33 := zhx q33; have q56 := zhx q56; have q57 := zhx q57; omega))
                have q85 := zhd ((((yFa_dm hd hYm68 (210 + 20 * a1) rfl).trans (zu_ne (k' := 2) (b' := 0) (i' := 0) (j' := 210 + 20 * a1) hYm63 (fun q => absurd q.1 (by decide)))).trans (zu_ne (k' := 2) (b' := 0) (i' := 0) (j' := 210 + 20 * a1) hYm51 (fun q => absurd q.1 (by decide)))))
                have q86 := zhd ((((yFa_dm hd hYm68 (1200) rfl).trans (zu_ne (k' := 2) (b' := 0) (i' := 0) (j' := 1200) hYm63 (fun q => absurd q.1 (by decide)))).trans (zu_ne (k' := 2) (b' := 0) (i' := 0) (j' := 1200) hYm51 (fun q => absurd q.1 (by decide)))))
                have q87 := zhd ((((yFa_dm hd hYm68 (102) rfl).trans (zu_ne (k' := 2) (b' := 0) (i' := 0) (j' := 102) hYm63 (fun q => absurd q.1 (by decide)))).trans (zu_ne (k' := 2) (b' := 0) (i' := 0) (j' := 102) hYm51 (fun q => absurd q.1 (by decide)))))
                have g81 := rr_175p  (zRx_1 hR69) hV70 hN1_71 hN8_72 hNr_74 (by have q11 := zhx q11; have q12 := zhx q12; have q28 := zhx q28; have q29 := zhx q29; have q33 := zhx q33; have q56 := zhx q56; have q57 := zhx q57; first | omega | exact (z2_r _ _ _).1 | exact (z2_r _ _ _).2 | exact (w3_r _).1 | exact (w3_r _).2) (by have q11 := zhx q11; have q12 := zhx q12; have q28 := zhx q28; have q29 := zhx q29; have q33 := zhx q33; have q56 := zhx q56; have q57 := zhx q57; first | omega | exact (z2_r _ _ _).1 | exact (z2_r _ _ _).2 | exact (w3_r _).1 | exact (w3_r _).2) (by have q11 := zhx q11; have q12 := zhx q12; have q28 := zhx q28; have q29 := zhx q29; have q33 := zhx q33; have q56 := zhx q56; have q57 := zhx q57; first | omega | exact (z2_r _ _ _).1 | exact (z2_r _ _ _).2 | exact (w3_r _).1 | exact (w3_r _).2) (by have q11 := zhx q11; have q12 := zhx q12; have q28 := zhx q28; have q29 := zhx q29; have q33 := zhx q33; have q56 := zhx q56; have q57 := zhx q57; first | omega | exact (z2_r _ _ _).1 | exact (z2_r _ _ _).2 | exact (w3_r _).1 | exact (w3_r _).2) (by first | (have q82 := zhx q82; have q83 := zhx q83; have q84 := zhx q84; have q85 := zhx q85; omega) | (have q11 := zhx q11; have q12 := zhx q12; have q28 := zhx q28; have q29 := zhx q29; have q33 := zhx q33; have q56 := zhx q56; have q57 := zhx q57; have q82 := zhx q82; have q83 := zhx q83; have q84 := zhx q84; have q85 := zhx q85; omega)) (by have q11 := zhx q11; have q12 := zhx q12; have q28 := zhx q28; have q29 := zhx q29; have q33 := zhx q33; have q56 := zhx q56; have q57 := zhx q57; have q86 := zhx q86; omega) (by have q11 := zhx q11; have q12 := zhx q12; have q28 := zhx q28; have q29 := zhx q29; have q33 := zhx q33; have q56 := zhx q56; have q57 := zhx q57; have q87 := zhx q87; omega) g78 g80
                have hR88 : zRx [] 0 Zc77 Ym79 := zRx_0 g81.1
                have hV89 : zV Ym79 := g81.2.1
                have hF90 := zFc_t hF75 g81.2.2.1 (by decide)
                have hG91 := yFr_t hG76 g81.2.2.2.1 (by decide)
                have hN1_92 : zN1 Ym79 := g81.2.2.2.2.1
                have hN8_93 : zN8 Ym79 := g81.2.2.2.2.2.1
                have hDs_94 : zDs 0 Zc77 Ym79 := (zDs_f hDs_73 (g81.2.2.1).1 (g81.2.2.2.1).1 ⟨rfl, rfl⟩)
                have hNr_95 : zNr Ym79 := g81.2.2.2.2.2.2
                have tF96 : zFc [4307, 4412] 0 Zc67 Zc77 := zFc_w hF90 (by decide)
                have tG97 : yFr [4307, 4412, 99999] Ym68 Ym79 := yFr_w hG91 (by decide)
                have hF98 : zFc [] 0 Zc77 Zc77 := zFc_r
                have hG99 : yFr [] Ym79 Ym79 := yFr_r
                obtain ⟨v100, hv100, hC⟩ := zl_x hC
                have q101 := zhd (show v100 = (zf_488 Ym79 a2) from hv100.trans (rr_182 (zRx_1 hR88) hV89 hN1_92 (by first | (omega) | (have q11 := zhx q11; have q12 := zhx q12; have q28 := zhx q28; have q29 := zhx q29; have q33 := zhx q33; have q56 := zhx q56; have q57 := zhx q57; omega)) rfl rfl))
                obtain ⟨v102, hv102, hM⟩ := zl_x hM
                have q103 := zhd (hv102)
                have th9 := ((((g81.2.2.2.1).2.1 rfl).trans (zTh_dm hd hYm68 (by decide))).trans (zu_at hYm63))
                have q104 := zhd (((((yFr_at 4300 (g81.2.2.2.1).1 rfl (zcm_s (ac_43_0 (a := 1210 + 12 * a2) (x := a2) (by first | (omega) | (have q11 := zhx q11; have q12 := zhx q12; have q28 := zhx q28; have q29 := zhx q29; have q33 := zhx q33; have q56 := zhx q56; have q57 := zhx q57; omega)) (by first | (omega) | (have q11 := zhx q11; have q12 := zhx q12; have q28 := zhx q28; have q29 := zhx q29; have q33 := zhx q33; have q56 := zhx q56; have q57 := zhx q57; omega)) (by first | (omega) | (have q11 := zhx q11; have q12 := zhx q12; have q28 := zhx q28; have q29 := zhx q29; have q33 := zhx q33; have q56 := zhx q56; have q57 := zhx q57; omega))))).trans (yFa_dm hd hYm68 (1210 + 12 * a2) rfl)).trans (zu_ne (k' := 2) (b' := 0) (i' := 0) (j' := 1210 + 12 * a2) hYm63 (fun q => absurd q.1 (by decide)))).trans (zu_ne (k' := 2) (b' := 0) (i' := 0) (j' := 1210 + 12 * a2) hYm51 (fun q => absurd q.1 (by decide)))))
                have q105 := zhd (((zRl_43_0 (x := a2) (a := 1210 + 12 * a2) (zRx_1 hR88) (by first | (omega) | (have q11 := zhx q11; have q12 := zhx q12; have q28 := zhx q28; have q29 := zhx q29; have q33 := zhx q33; have q56 := zhx q56; have q57 := zhx q57; omega)) (by first | (omega) | (have q11 := zhx q11; have q12 := zhx q12; have q28 := zhx q28; have q29 := zhx q29; have q33 := zhx q33; have q56 := zhx q56; have q57 := zhx q57; omega)) (by first | (omega) | (have q11 := zhx q11; have q12 := zhx q12; have q28 := zhx q28; have q29 := zhx q29; have q33 := zhx q33; have q56 := zhx q56; have q57 := zhx q57; omega))).trans (zhx q104)))
                obtain rfl : C = _ := hC
                obtain rfl : M = _ := hM
                exact ⟨zRx_1 hR88, hV89, ⟨Zc67, Ym68, .inr ⟨8, a1, a2, 0, 0, 0, 0, 9, Ym63, hZc67, yFr_w hG66 (by decide), hYm68, (by unfold zcode; omega)⟩, zFc_t tF96 hF98 (by decide), yFr_t tG97 hG99 (by decide)⟩, zThr_a th9 (by first | rfl | (have q11 := zhx q11; have q12 := zhx q12; have q28 := zhx q28; have q29 := zhx q29; have q33 := zhx q33; have q56 := zhx q56; have q57 := zhx q57; have q101 := zhx q101; have q103 := zhx q103; have q104 := zhx q104; have q105 := zhx q105; omega) | (simp only [zhx q11, zhx q12, zhx q28, zhx q29, zhx q33, zhx q56, zhx q57, zhx q101, zhx q103, zhx q104, zhx q105] <;> omega) | (have q11 := zhx q11; have q12 := zhx q12; have q28 := zhx q28; have q29 := zhx q29; have q33 := zhx q33; have q56 := zhx q56; have q57 := zhx q57; have q101 := zhx q101; have q103 := zhx q103; have q104 := zhx q104; have q105 := zhx q105; refine w3z ?_ ?_ ?_ <;> omega) | (have q11 := zhx q11; have q12 := zhx q12; have q28 := zhx q28; have q29 := zhx q29; have q33 := zhx q33; have q56 := zhx q56; have q57 := zhx q57; have q101 := zhx q101; have q103 := zhx q103; have q104 := zhx q104; have q105 := zhx q105; refine w3y ?_ ?_ ?_ <;> omega) | (have q11 := zhx q11; have q12 := zhx q12; have q28 := zhx q28; have q29 := zhx q29; have q33 := zhx q33; have q56 := zhx q56; have q57 := zhx q57; have q101 := zhx q101; have q103 := zhx q103; have q104 := zhx q104; have q105 := zhx q105; refine z2o ?_ ?_ ?_ <;> omega)), hN1_92, hN8_93, hNr_95⟩
          · obtain ⟨v106, hv106, hC⟩ := zl_x hC
            have q107 := zhd (show v106 = (zf_477 Y a1 6) from hv106.trans (rr_9178 hRa hV hN1 hDs hNr (by first | (omega) | (have q11 := zhx q11; have q12 := zhx q12; have q28 := zhx q28; have q29 := zhx q29; omega)) (by first | (omega) | (have q11 := zhx q11; have q12 := zhx q12; have q28 := zhx q28; have q29 := zhx q29; omega)) (by first | (omega) | (have q11 := zhx q11; have q12 := zhx q12; have q28 := zhx q28; have q29 := zhx q29; omega)) (by first | (omega) | (have q11 := zhx q11; have q12 := zhx q12; have q28 := zhx q28; have q29 := zhx q29; omega)) rfl rfl))
            rcases zE_c hC with ⟨h108, hC⟩ | ⟨h108, hC⟩
            · replace hM := zE_n hM (by first | (have q11 := zhx q11; have q12 := zhx q12; have q28 := zhx q28; have q29 := zhx q29; have q107 := zhx q107; omega) | (simp only [zhx q11, zhx q12, zhx q28, zhx q29, zhx q107] at h1 h13 h23 h30 h31 h108 ⊢ <;> omega))
              replace hM := zE_n hM (by first | (have q11 := zhx q11; have q12 := zhx q12; have q28 := zhx q28; have q29 := zhx q29; have q107 := zhx q107; omega) | (simp only [zhx q11, zhx q12, zhx q28, zhx q29, zhx q107] at h1 h13 h23 h30 h31 h108 ⊢ <;> omega))
              replace hM := zE_n hM (by first | (have q11 := zhx q11; have q12 := zhx q12; have q28 := zhx q28; have q29 := zhx q29; have q107 := zhx q107; omega) | (simp only [zhx q11, zhx q12, zhx q28, zhx q29, zhx q107] at h1 h13 h23 h30 h31 h108 ⊢ <;> omega))
              obtain ⟨Ym109, hYm109, hM⟩ := zl_x hM
              have hR110 : zRx [] 0 Z Ym109 := zRx_o hRb hYm109 rfl
              have hV111 : zV Ym109 := zV_o hV hYm109 rfl
              have hG112 := yFr_o hG hYm109 rfl (.inr rfl) rfl
              obtain ⟨v113, hv113, hM⟩ := zl_x hM
              have q114 := zhd (show v106 = (zf_477 Ym109 a1 6) from hv106.trans (rr_9178 (zRx_1 hR110) hV111 (zN1_f hN1 hG112.1 ⟨rfl, rfl, rfl, rfl⟩) (zDs_f hDs hF.1 hG112.1 ⟨rfl, rfl⟩) (zNr_f hNr hV hG112.1 ⟨rfl, rfl, rfl⟩) (by first | (omega) | (have q11 := zhx q11; have q12 := zhx q12; have q28 := zhx q28; have q29 := zhx q29; have q107 := zhx q107; omega)) (by first | (omega) | (have q11 := zhx q11; have q12 := zhx q12; have q28 := zhx q28; have q29 := zhx q29; have q107 := zhx q107; omega)) (by first | (omega) | (have q11 := zhx q11; have q12 := zhx q12; have q28 := zhx q28; have q29 := zhx q29; have q107 := zhx q107; omega)) (by first | (omega) | (have q11 := zhx q11; have q12 := zhx q12; have q28 := zhx q28; have q29 := zhx q29; have q107 := zhx q107; omega)) rfl rfl))
              have q115 := zhd (hv113)
              rcases zE_c hM with ⟨h116, hM⟩ | ⟨h116, hM⟩
              · obtain ⟨Ym117, hYm117, hM⟩ := zl_x hM
                have hR118 : zRx [] 0 Z Ym117 := zRx_o hR110 hYm117 rfl
                have hV119 : zV Ym117 := zV_o hV111 hYm117 rfl
                have hG120 := yFr_o hG112 hYm117 rfl (.inr rfl) rfl
                have th9 := (zu_at hYm117)
                obtain rfl : C = _ := hC
                obtain rfl : M = _ := hM
                exact ⟨zRx_1 hR118, hV119, ⟨Z, _, .inl ⟨rfl, yFr_w hG120 (by decide)⟩, zFc_r, yFr_r⟩, zThr_e th9 (by decide), (zN1_f hN1 hG120.1 ⟨rfl, rfl, rfl, rfl⟩), (zN8_f hN8 hG120.1 ⟨rfl, rfl, rfl⟩), (zNr_f hNr hV hG120.1 ⟨rfl, rfl, rfl⟩)⟩
              · obtain ⟨Ym121, hYm121, hM⟩ := zl_x hM
                have hR122 : zRx [] 0 Z Ym121 := zRx_o hR110 hYm121 rfl
                have hV123 : zV Ym121 := zV_o hV111 hYm121 rfl
                have hG124 := yFr_o hG112 hYm121 rfl (.inr rfl) rfl
                exact False.elim (by have q11 := zhx q11; have q12 := zhx q12; have q28 := zhx q28; have q29 := zhx q29; have q107 := zhx q107; have q114 := zhx q114; have q115 := zhx q115; first | omega | grind)
            · replace hM := zE_n hM (by first | (have q11 := zhx q11; have q12 := zhx q12; have q28 := zhx q28; have q29 := zhx q29; have q107 := zhx q107; omega) | (simp only [zhx q11, zhx q12, zhx q28, zhx q29, zhx q107] at h1 h13 h23 h30 h31 h108 ⊢ <;> omega))
              replace hM := zE_n hM (by first | (have q11 := zhx q11; have q12 := zhx q12; have q28 := zhx q28; have q29 := zhx q29; have q107 := zhx q107; omega) | (simp only [zhx q11, zhx q12, zhx q28, zhx q29, zhx q107] at h1 h13 h23 h30 h31 h108 ⊢ <;> omega))
              replace hM := zE_n hM (by first | (have q11 := zhx q11; have q12 := zhx q12; have q28 := zhx q28; have q29 := zhx q29; have q107 := zhx q107; omega) | (simp only [zhx q11, zhx q12, zhx q28, zhx q29, zhx q107] at h1 h13 h23 h30 h31 h108 ⊢ <;> omega))
              obtain ⟨Ym125, hYm125, hM⟩ := zl_x hM
              have hR126 : zRx [] 0 Z Ym125 := zRx_o hRb hYm125 rfl
              have hV127 : zV Ym125 := zV_o hV hYm125 rfl
              have hG128 := yFr_o hG hYm125 rfl (.inr rfl) rfl
              obtain ⟨v129, hv129, hM⟩ := zl_x hM
              have q130 := zhd (show v106 = (zf_477 Ym125 a1 6) from hv106.trans (rr_9178 (zRx_1 hR126) hV127 (zN1_f hN1 hG128.1 ⟨rfl, rfl, rfl, rfl⟩) (zDs_f hDs hF.1 hG128.1 ⟨rfl, rfl⟩) (zNr_f hNr hV hG128.1 ⟨rfl, rfl, rfl⟩) (by first | (omega) | (have q11 := zhx q11; have q12 := zhx q12; have q28 := zhx q28; have q29 := zhx q29; have q107 := zhx q107; omega)) (by first | (omega) | (have q11 := zhx q11; have q12 := zhx q12; have q28 := zhx q28; have q29 := zhx q29; have q107 := zhx q107; omega)) (by first | (omega) | (have q11 := zhx q11; have q12 := zhx q12; have q28 := zhx q28; have q29 := zhx q29; have q107 := zhx q107; omega)) (by first | (omega) | (have q11 := zhx q11; have q12 := zhx q12; have q28 := zhx q28; have q29 := zhx q29; have q107 := zhx q107; omega)) rfl rfl))
              have q131 := zhd (hv129)
              rcases zE_c hM with ⟨h132, hM⟩ | ⟨h132, hM⟩
              · obtain ⟨Ym133, hYm133, hM⟩ := zl_x hM
                have hR134 : zRx [] 0 Z Ym133 := zRx_o hR126 hYm133 rfl
                have hV135 : zV Ym133 := zV_o hV127 hYm133 rfl
                have hG136 := yFr_o hG128 hYm133 rfl (.inr rfl) rfl
                exact False.elim (by have q11 := zhx q11; have q12 := zhx q12; have q28 := zhx q28; have q29 := zhx q29; have q107 := zhx q107; have q130 := zhx q130; have q131 := zhx q131; first | omega | grind)
              · obtain ⟨Ym137, hYm137, hM⟩ := zl_x hM
                have hR138 : zRx [] 0 Z Ym137 := zRx_o hR126 hYm137 rfl
                have hV139 : zV Ym137 := zV_o hV127 hYm137 rfl
                have hG140 := yFr_o hG128 hYm137 rfl (.inr rfl) rfl
                obtain ⟨Zc141, hZc141, hC⟩ := zl_x hC
                obtain ⟨Ym142, hYm142, hM⟩ := zl_x hM
                have hR143 : zRx [] 0 Zc141 Ym142 := zRx_dd hR138 hI hd hZc141 hYm142
                have hV144 : zV Ym142 := zV_dm hV139 hd hYm142
                have hN1_145 : zN1 Ym142 := (zN1_f (zN1_f hN1 hG140.1 ⟨rfl, rfl, rfl, rfl⟩) (yFa_dm hd hYm142) ⟨rfl, rfl, rfl, rfl⟩)
                have hN8_146 : zN8 Ym142 := (zN8_f (zN8_f hN8 hG140.1 ⟨rfl, rfl, rfl⟩) (yFa_dm hd hYm142) ⟨rfl, rfl, rfl⟩)
                have hDs_147 : zDs 0 Zc141 Ym142 := (zDs_f (zDs_f hDs hF.1 hG140.1 ⟨rfl, rfl⟩) (zFa_dd hI hZc141) (yFa_dm hd hYm142) ⟨rfl, rfl⟩)
                have hNr_148 : zNr Ym142 := (zNr_f (zNr_f hNr hV hG140.1 ⟨rfl, rfl, rfl⟩) hV139 (yFa_dm hd hYm142) ⟨rfl, rfl, rfl⟩)
                have hF149 : zFc [4307, 4412] 0 Zc141 Zc141 := zFc_r
                have hG150 : yFr [4307, 4412] Ym142 Ym142 := yFr_r
                obtain ⟨Zc151, g152, hC⟩ := zl_x hC
                obtain ⟨Ym153, g154, hM⟩ := zl_x hM
                have q156 := zhd (zVr_44_10 (x := a1) (a := 210 + 20 * a1) hV (by first | (omega) | (have q11 := zhx q11; have q12 := zhx q12; have q28 := zhx q28; have q29 := zhx q29; have q107 := zhx q107; have q130 := zhx q130; have q131 := zhx q131; omega)) (by first | (omega) | (have q11 := zhx q11; have q12 := zhx q12; have q28 := zhx q28; have q29 := zhx q29; have q107 := zhx q107; have q130 := zhx q130; have q131 := zhx q131; omega)) (by first | (omega) | (have q11 := zhx q11; have q12 := zhx q12; have q28 := zhx q28; have q29 := zhx q29; have q107 := zhx q107; have q130 := zhx q130; have q131 := zhx q131; omega)))
                have q157 := zhd ((zu_ne (k' := 2) (b' := 0) (i' := 0) (j' := 210 + 20 * a1) hYm125 (fun q => absurd q.1 (by decide))))
                have q158 := zhd (z477_s hv129 (by have q11 := zhx q11; have q12 := zhx q12; have q28 := zhx q28; have q29 := zhx q29; have q107 := zhx q107; have q130 := zhx q130; have q131 := zhx q131; omega))
                have q159 := zhd ((((yFa_dm hd hYm142 (210 + 20 * a1) rfl).trans (zu_ne (k' := 2) (b' := 0) (i' := 0) (j' := 210 + 20 * a1) hYm137 (fun q => absurd q.1 (by decide)))).trans (zu_ne (k' := 2) (b' := 0) (i' := 0) (j' := 210 + 20 * a1) hYm125 (fun q => absurd q.1 (by decide)))))
                have q160 := zhd ((((yFa_dm hd hYm142 (1200) rfl).trans (zu_ne (k' := 2) (b' := 0) (i' := 0) (j' := 1200) hYm137 (fun q => absurd q.1 (by decide)))).trans (zu_ne (k' := 2) (b' := 0) (i' := 0) (j' := 1200) hYm125 (fun q => absurd q.1 (by decide)))))
                have q161 := zhd ((((yFa_dm hd hYm142 (102) rfl).trans (zu_ne (k' := 2) (b' := 0) (i' := 0) (j' := 102) hYm137 (fun q => absurd q.1 (by decide)))).trans (zu_ne (k' := 2) (b' := 0) (i' := 0) (j' := 102) hYm125 (fun q => absurd q.1 (by decide)))))
                have g155 := rr_175p  (zRx_1 hR143) hV144 hN1_145 hN8_146 hNr_148 (by have q11 := zhx q11; have q12 := zhx q12; have q28 := zhx q28; have q29 := zhx q29; have q107 := zhx q107; have q130 := zhx q130; have q131 := zhx q131; first | omega | exact (z2_r _ _ _).1 | exact (z2_r _ _ _).2 | exact (w3_r _).1 | exact (w3_r _).2) (by have q11 := zhx q11; have q12 := zhx q12; have q28 := zhx q28; have q29 := zhx q29; have q107 := zhx q107; have q130 := zhx q130; have q131 := zhx q131; first | omega | exact (z2_r _ _ _).1 | exact (z2_r _ _ _).2 | exact (w3_r _).1 | exact (w3_r _).2) (by have q11 := zhx q11; have q12 := zhx q12; have q28 := zhx q28; have q29 := zhx q29; have q107 := zhx q107; have q130 := zhx q130; have q131 := zhx q131; first | omega | exact (z2_r _ _ _).1 | exact (z2_r _ _ _).2 | exact (w3_r _).1 | exact (w3_r _).2) (by have q11 := zhx q11; have q12 := zhx q12; have q28 := zhx q28; have q29 := zhx q29; have q107 := zhx q107; have q130 := zhx q130; have q131 := zhx q131; first | omega | exact (z2_r _ _ _).1 | exact (z2_r _ _ _).2 | exact (w3_r _).1 | exact (w3_r _).2) (by first | (have q156 := zhx q156; have q157 := zhx q157; have q158 := zhx q158; have q159 := zhx q159; omega) | (have q11 := zhx q11; have q12 := zhx q12; have q28 := zhx q28; have q29 := zhx q29; have q107 := zhx q107; have q130 := zhx q130; have q131 := zhx q131; have q156 := zhx q156; have q157 := zhx q157; have q158 := zhx q158; have q159 := zhx q159; omega)) (by have q11 := zhx q11; have q12 := zhx q12; have q28 := zhx q28; have q29 := zhx q29; have q107 := zhx q107; have q130 := zhx q130; have q131 := zhx q131; have q160 := zhx q160; omega) (by have q11 := zhx q11; have q12 := zhx q12; have q28 := zhx q28; have q29 := zhx q29; have q107 := zhx q107; have q130 := zhx q130; have q131 := zhx q131; have q161 := zhx q161; omega) g152 g154
                have hR162 : zRx [] 0 Zc151 Ym153 := zRx_0 g155.1
                have hV163 : zV Ym153 := g155.2.1
                have hF164 := zFc_t hF149 g155.2.2.1 (by decide)
                have hG165 := yFr_t hG150 g155.2.2.2.1 (by decide)
                have hN1_166 : zN1 Ym153 := g155.2.2.2.2.1
                have hN8_167 : zN8 Ym153 := g155.2.2.2.2.2.1
                have hDs_168 : zDs 0 Zc151 Ym153 := (zDs_f hDs_147 (g155.2.2.1).1 (g155.2.2.2.1).1 ⟨rfl, rfl⟩)
                have hNr_169 : zNr Ym153 := g155.2.2.2.2.2.2
                have tF170 : zFc [4307, 4412] 0 Zc141 Zc151 := zFc_w hF164 (by decide)
                have tG171 : yFr [4307, 4412, 99999] Ym142 Ym153 := yFr_w hG165 (by decide)
                have hF172 : zFc [] 0 Zc151 Zc151 := zFc_r
                have hG173 : yFr [] Ym153 Ym153 := yFr_r
                obtain ⟨v174, hv174, hC⟩ := zl_x hC
                have q175 := zhd (show v174 = (zf_488 Ym153 6) from hv174.trans (rr_182 (zRx_1 hR162) hV163 hN1_166 (by first | (omega) | (have q11 := zhx q11; have q12 := zhx q12; have q28 := zhx q28; have q29 := zhx q29; have q107 := zhx q107; have q130 := zhx q130; have q131 := zhx q131; omega)) rfl rfl))
                obtain ⟨v176, hv176, hM⟩ := zl_x hM
                have q177 := zhd (hv176)
                have th9 := ((((g155.2.2.2.1).2.1 rfl).trans (zTh_dm hd hYm142 (by decide))).trans (zu_at hYm137))
                obtain rfl : C = _ := hC
                obtain rfl : M = _ := hM
                exact ⟨zRx_1 hR162, hV163, ⟨Zc141, Ym142, .inr ⟨8, a1, a2, 0, 0, 0, 0, 9, Ym137, hZc141, yFr_w hG140 (by decide), hYm142, (by unfold zcode; omega)⟩, zFc_t tF170 hF172 (by decide), yFr_t tG171 hG173 (by decide)⟩, zThr_a th9 (by first | rfl | (have q11 := zhx q11; have q12 := zhx q12; have q28 := zhx q28; have q29 := zhx q29; have q107 := zhx q107; have q130 := zhx q130; have q131 := zhx q131; have q175 := zhx q175; have q177 := zhx q177; omega) | (simp only [zhx q11, zhx q12, zhx q28, zhx q29, zhx q107, zhx q130, zhx q131, zhx q175, zhx q177] <;> omega) | (have q11 := zhx q11; have q12 := zhx q12; have q28 := zhx q28; have q29 := zhx q29; have q107 := zhx q107; have q130 := zhx q130; have q131 := zhx q131; have q175 := zhx q175; have q177 := zhx q177; refine w3z ?_ ?_ ?_ <;> omega) | (have q11 := zhx q11; have q12 := zhx q12; have q28 := zhx q28; have q29 := zhx q29; have q107 := zhx q107; have q130 := zhx q130; have q131 := zhx q131; have q175 := zhx q175; have q177 := zhx q177; refine w3y ?_ ?_ ?_ <;> omega) | (have q11 := zhx q11; have q12 := zhx q12; have q28 := zhx q28; have q29 := zhx q29; have q107 := zhx q107; have q130 := zhx q130; have q131 := zhx q131; have q175 := zhx q175; have q177 := zhx q177; refine z2o ?_ ?_ ?_ <;> omega)), hN1_166, hN8_167, hNr_169⟩
        · rcases zE_c hM with ⟨h178, hM⟩ | ⟨h178, hM⟩
          · replace hM := zE_n hM (by first | (have q11 := zhx q11; have q12 := zhx q12; have q28 := zhx q28; have q29 := zhx q29; omega) | (simp only [zhx q11, zhx q12, zhx q28, zhx q29] at h1 h13 h23 h30 h178 ⊢ <;> omega))
            replace hM := zE_n hM (by first | (have q11 := zhx q11; have q12 := zhx q12; have q28 := zhx q28; have q29 := zhx q29; omega) | (simp only [zhx q11, zhx q12, zhx q28, zhx q29] at h1 h13 h23 h30 h178 ⊢ <;> omega))
            replace hM := zE_n hM (by first | (have q11 := zhx q11; have q12 := zhx q12; have q28 := zhx q28; have q29 := zhx q29; omega) | (simp only [zhx q11, zhx q12, zhx q28, zhx q29] at h1 h13 h23 h30 h178 ⊢ <;> omega))
            replace hM := zE_n hM (by first | (have q11 := zhx q11; have q12 := zhx q12; have q28 := zhx q28; have q29 := zhx q29; omega) | (simp only [zhx q11, zhx q12, zhx q28, zhx q29] at h1 h13 h23 h30 h178 ⊢ <;> omega))
            replace hM := zE_p hM (by first | (have q11 := zhx q11; have q12 := zhx q12; have q28 := zhx q28; have q29 := zhx q29; omega) | (simp only [zhx q11, zhx q12, zhx q28, zhx q29] at h1 h13 h23 h30 h178 ⊢ <;> omega))
            obtain ⟨Ym179, hYm179, hM⟩ := zl_x hM
            have hR180 : zRx [] 0 Z Ym179 := zRx_o hRb hYm179 rfl
            have hV181 : zV Ym179 := zV_o hV hYm179 rfl
            have hG182 := yFr_o hG hYm179 rfl (.inr rfl) rfl
            have th9 := (zu_at hYm179)
            obtain rfl : C = _ := hC
            obtain rfl : M = _ := hM
            exact ⟨zRx_1 hR180, hV181, ⟨Z, _, .inl ⟨rfl, yFr_w hG182 (by decide)⟩, zFc_r, yFr_r⟩, zThr_e th9 (by decide), (zN1_f hN1 hG182.1 ⟨rfl, rfl, rfl, rfl⟩), (zN8_f hN8 hG182.1 ⟨rfl, rfl, rfl⟩), (zNr_f hNr hV hG182.1 ⟨rfl, rfl, rfl⟩)⟩
          · replace hM := zE_n hM (by first | (have q11 := zhx q11; have q12 := zhx q12; have q28 := zhx q28; have q29 := zhx q29; omega) | (simp only [zhx q11, zhx q12, zhx q28, zhx q29] at h1 h13 h23 h30 h178 ⊢ <;> omega))
            replace hM := zE_n hM (by first | (have q11 := zhx q11; have q12 := zhx q12; have q28 := zhx q28; have q29 := zhx q29; omega) | (simp only [zhx q11, zhx q12, zhx q28, zhx q29] at h1 h13 h23 h30 h178 ⊢ <;> omega))
            obtain ⟨Ym183, hYm183, hM⟩ := zl_x hM
            have hR184 : zRx [] 0 Z Ym183 := zRx_o hRb hYm183 rfl
            have hV185 : zV Ym183 := zV_o hV hYm183 rfl
            have hG186 := yFr_o hG hYm183 rfl (.inr rfl) rfl
            obtain ⟨v187, hv187, hM⟩ := zl_x hM
            rcases zE_c hM with ⟨h188, hM⟩ | ⟨h188, hM⟩
            · obtain ⟨Ym189, hYm189, hM⟩ := zl_x hM
              have hR190 : zRx [] 0 Z Ym189 := zRx_o hR184 hYm189 rfl
              have hV191 : zV Ym189 := zV_o hV185 hYm189 rfl
              have hG192 := yFr_o hG186 hYm189 rfl (.inr rfl) rfl
              exact False.elim (by have q11 := zhx q11; have q12 := zhx q12; have q28 := zhx q28; have q29 := zhx q29; first | omega | grind)
            · obtain ⟨Ym193, hYm193, hM⟩ := zl_x hM
              have hR194 : zRx [] 0 Z Ym193 := zRx_o hR184 hYm193 rfl
              have hV195 : zV Ym193 := zV_o hV185 hYm193 rfl
              have hG196 := yFr_o hG186 hYm193 rfl (.inr rfl) rfl
              exact False.elim (by have q11 := zhx q11; have q12 := zhx q12; have q28 := zhx q28; have q29 := zhx q29; first | omega | grind)
