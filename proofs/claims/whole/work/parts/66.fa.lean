/- face put -/
theorem rf_put {Z Y : qz_Z} {dm : qz_Z → Int → Int → Int → Int → Int → Int → Int → qz_Z} {a1 a2 : Int} (hRa : zR 0 Z Y) (hV : zV Y) (hI : zI none Z) (hd : zDf dm) (hN1 : zN1 Y) (hN8 : zN8 Y) (hDs : zDs 0 Z Y) (hNr : zNr Y)  {C : qz_Z × Int × Int} {M : qz_Z × Int} (hC : zE C (zx_9230 Z a1 a2)) (hM : zE M (zy_453 Y dm a1 a2)) : zR 0 C.1 M.1 ∧ zV M.1 ∧ zDd [4307, 4412] [4307, 4412, 99999] Z Y dm C.1 M.1 ∧ zThr [(24, 1), (15, 2)] C.2 (M.1 1 0 0 2) M.2 ∧ zN1 M.1 ∧ zN8 M.1 := by
  have hRb := zRx_0 hRa
  have hF : zFc [] 0 Z Z := zFc_r
  have hG : yFr [99999] Y Y := yFr_r
  unfold zx_9230 at hC
  unfold zy_453 at hM
  rcases zE_c hC with ⟨h1, hC⟩ | ⟨h1, hC⟩
  · rcases zE_c hM with ⟨h2, hM⟩ | ⟨h2, hM⟩
    · replace hM := zE_p hM (by omega)
      obtain ⟨Ym3, hYm3, hM⟩ := zl_x hM
      have hR4 : zRx [] 0 Z Ym3 := zRx_o hRb hYm3 rfl
      have hV5 : zV Ym3 := zV_o hV hYm3 rfl
      have hG6 := yFr_o hG hYm3 rfl (.inr rfl) rfl
      have th9 := (zu_at hYm3)
      obtain rfl : C = _ := hC
      obtain rfl : M = _ := hM
      exact ⟨zRx_1 hR4, hV5, ⟨Z, _, .inl ⟨rfl, yFr_w hG6 (by decide)⟩, zFc_r, yFr_r⟩, zThr_e th9 (by decide), (zN1_f hN1 hG6.1 ⟨rfl, rfl, rfl, rfl⟩), (zN8_f hN8 hG6.1 ⟨rfl, rfl, rfl⟩)⟩
    · replace hM := zE_p hM (by omega)
      obtain ⟨Ym7, hYm7, hM⟩ := zl_x hM
      have hR8 : zRx [] 0 Z Ym7 := zRx_o hRb hYm7 rfl
      have hV9 : zV Ym7 := zV_o hV hYm7 rfl
      have hG10 := yFr_o hG hYm7 rfl (.inr rfl) rfl
      have th9 := (zu_at hYm7)
      obtain rfl : C = _ := hC
      obtain rfl : M = _ := hM
      exact ⟨zRx_1 hR8, hV9, ⟨Z, _, .inl ⟨rfl, yFr_w hG10 (by decide)⟩, zFc_r, yFr_r⟩, zThr_e th9 (by decide), (zN1_f hN1 hG10.1 ⟨rfl, rfl, rfl, rfl⟩), (zN8_f hN8 hG10.1 ⟨rfl, rfl, rfl⟩)⟩
  · have q11 := zhd (zVr_11_3 (a := 102) hV (by omega))
    have q12 := zhd ((zRl_11_3 (a := 102) hRa (by omega)))
    rcases zE_c hC with ⟨h13, hC⟩ | ⟨h13, hC⟩
    · rcases zE_c hM with ⟨h14, hM⟩ | ⟨h14, hM⟩
      · replace hM := zE_n hM (by first | (have q11 := zhx q11; have q12 := zhx q12; omega) | (simp only [zhx q11, zhx q12] at h1 h13 h14 ⊢ <;> omega))
        replace hM := zE_p hM (by first | (have q11 := zhx q11; have q12 := zhx q12; omega) | (simp only [zhx q11, zhx q12] at h1 h13 h14 ⊢ <;> omega))
        obtain ⟨Ym15, hYm15, hM⟩ := zl_x hM
        have hR16 : zRx [] 0 Z Ym15 := zRx_o hRb hYm15 rfl
        have hV17 : zV Ym15 := zV_o hV hYm15 rfl
        have hG18 := yFr_o hG hYm15 rfl (.inr rfl) rfl
        have th9 := (zu_at hYm15)
        obtain rfl : C = _ := hC
        obtain rfl : M = _ := hM
        exact ⟨zRx_1 hR16, hV17, ⟨Z, _, .inl ⟨rfl, yFr_w hG18 (by decide)⟩, zFc_r, yFr_r⟩, zThr_e th9 (by decide), (zN1_f hN1 hG18.1 ⟨rfl, rfl, rfl, rfl⟩), (zN8_f hN8 hG18.1 ⟨rfl, rfl, rfl⟩)⟩
      · replace hM := zE_n hM (by first | (have q11 := zhx q11; have q12 := zhx q12; omega) | (simp only [zhx q11, zhx q12] at h1 h13 h14 ⊢ <;> omega))
        replace hM := zE_p hM (by first | (have q11 := zhx q11; have q12 := zhx q12; omega) | (simp only [zhx q11, zhx q12] at h1 h13 h14 ⊢ <;> omega))
        obtain ⟨Ym19, hYm19, hM⟩ := zl_x hM
        have hR20 : zRx [] 0 Z Ym19 := zRx_o hRb hYm19 rfl
        have hV21 : zV Ym19 := zV_o hV hYm19 rfl
        have hG22 := yFr_o hG hYm19 rfl (.inr rfl) rfl
        have th9 := (zu_at hYm19)
        obtain rfl : C = _ := hC
        obtain rfl : M = _ := hM
        exact ⟨zRx_1 hR20, hV21, ⟨Z, _, .inl ⟨rfl, yFr_w hG22 (by decide)⟩, zFc_r, yFr_r⟩, zThr_e th9 (by decide), (zN1_f hN1 hG22.1 ⟨rfl, rfl, rfl, rfl⟩), (zN8_f hN8 hG22.1 ⟨rfl, rfl, rfl⟩)⟩
    · rcases zE_c hC with ⟨h23, hC⟩ | ⟨h23, hC⟩
      · replace hM := zE_p hM (by first | (have q11 := zhx q11; have q12 := zhx q12; omega) | (simp only [zhx q11, zhx q12] at h1 h13 h23 ⊢ <;> omega))
        replace hM := zE_n hM (by first | (have q11 := zhx q11; have q12 := zhx q12; omega) | (simp only [zhx q11, zhx q12] at h1 h13 h23 ⊢ <;> omega))
        replace hM := zE_n hM (by first | (have q11 := zhx q11; have q12 := zhx q12; omega) | (simp only [zhx q11, zhx q12] at h1 h13 h23 ⊢ <;> omega))
        replace hM := zE_n hM (by first | (have q11 := zhx q11; have q12 := zhx q12; omega) | (simp only [zhx q11, zhx q12] at h1 h13 h23 ⊢ <;> omega))
        replace hM := zE_p hM (by first | (have q11 := zhx q11; have q12 := zhx q12; omega) | (simp only [zhx q11, zhx q12] at h1 h13 h23 ⊢ <;> omega))
        obtain ⟨Ym24, hYm24, hM⟩ := zl_x hM
        have hR25 : zRx [] 0 Z Ym24 := zRx_o hRb hYm24 rfl
        have hV26 : zV Ym24 := zV_o hV hYm24 rfl
        have hG27 := yFr_o hG hYm24 rfl (.inr rfl) rfl
        have th9 := (zu_at hYm24)
        obtain rfl : C = _ := hC
        obtain rfl : M = _ := hM
        exact ⟨zRx_1 hR25, hV26, ⟨Z, _, .inl ⟨rfl, yFr_w hG27 (by decide)⟩, zFc_r, yFr_r⟩, zThr_e th9 (by decide), (zN1_f hN1 hG27.1 ⟨rfl, rfl, rfl, rfl⟩), (zN8_f hN8 hG27.1 ⟨rfl, rfl, rfl⟩)⟩
      · have q28 := zhd (zVr_11_2 (a := 1200) hV (by omega))
        have q29 := zhd ((zRl_11_2 (a := 1200) hRa (by omega)))
        rcases zE_c hC with ⟨h30, hC⟩ | ⟨h30, hC⟩
        · rcases zE_c hC with ⟨h31, hC⟩ | ⟨h31, hC⟩
          · obtain ⟨v32, hv32, hC⟩ := zl_x hC
            have q33 := zhd (show v32 = (zf_477 Y a1 a2) from hv32.trans (rr_9178 hRa hV hN1 hDs hNr (by first | (omega) | (have q11 := zhx q11; have q12 := zhx q12; have q28 := zhx q28; have q29 := zhx q29; omega)) (by first | (omega) | (have q11 := zhx q11; have q12 := zhx q12; have q28 := zhx q28; have q29 := zhx q29; omega)) (by first | (omega) | (have q11 := zhx q11; have q12 := zhx q12; have q28 := zhx q28; have q29 := zhx q29; omega)) (by first | (omega) | (have q11 := zhx q11; have q12 := zhx q12; have q28 := zhx q28; have q29 := zhx q29; omega)) rfl rfl))
            rcases zE_c hC with ⟨h34, hC⟩ | ⟨h34, hC⟩
            · replace hM := zE_p hM (by first | (have q11 := zhx q11; have q12 := zhx q12; have q28 := zhx q28; have q29 := zhx q29; have q33 := zhx q33; omega) | (simp only [zhx q11, zhx q12, zhx q28, zhx q29, zhx q33] at h1 h13 h23 h30 h31 h34 ⊢ <;> omega))
              replace hM := zE_n hM (by first | (have q11 := zhx q11; have q12 := zhx q12; have q28 := zhx q28; have q29 := zhx q29; have q33 := zhx q33; omega) | (simp only [zhx q11, zhx q12, zhx q28, zhx q29, zhx q33] at h1 h13 h23 h30 h31 h34 ⊢ <;> omega))
              replace hM := zE_n hM (by first | (have q11 := zhx q11; have q12 := zhx q12; have q28 := zhx q28; have q29 := zhx q29; have q33 := zhx q33; omega) | (simp only [zhx q11, zhx q12, zhx q28, zhx q29, zhx q33] at h1 h13 h23 h30 h31 h34 ⊢ <;> omega))
              replace hM := zE_n hM (by first | (have q11 := zhx q11; have q12 := zhx q12; have q28 := zhx q28; have q29 := zhx q29; have q33 := zhx q33; omega) | (simp only [zhx q11, zhx q12, zhx q28, zhx q29, zhx q33] at h1 h13 h23 h30 h31 h34 ⊢ <;> omega))
              replace hM := zE_n hM (by first | (have q11 := zhx q11; have q12 := zhx q12; have q28 := zhx q28; have q29 := zhx q29; have q33 := zhx q33; omega) | (simp only [zhx q11, zhx q12, zhx q28, zhx q29, zhx q33] at h1 h13 h23 h30 h31 h34 ⊢ <;> omega))
              replace hM := zE_n hM (by first | (have q11 := zhx q11; have q12 := zhx q12; have q28 := zhx q28; have q29 := zhx q29; have q33 := zhx q33; omega) | (simp only [zhx q11, zhx q12, zhx q28, zhx q29, zhx q33] at h1 h13 h23 h30 h31 h34 ⊢ <;> omega))
              obtain ⟨Ym35, hYm35, hM⟩ := zl_x hM
              have hR36 : zRx [] 0 Z Ym35 := zRx_o hRb hYm35 rfl
              have hV37 : zV Ym35 := zV_o hV hYm35 rfl
              have hG38 := yFr_o hG hYm35 rfl (.inr rfl) rfl
              obtain ⟨v39, hv39, hM⟩ := zl_x hM
              have q40 := zhd (show v32 = (zf_477 Ym35 a1 a2) from hv32.trans (rr_9178 (zRx_1 hR36) hV37 (zN1_f hN1 hG38.1 ⟨rfl, rfl, rfl, rfl⟩) (zDs_f hDs hF.1 hG38.1 ⟨rfl, rfl⟩) (zNr_f hNr hV hG38.1 ⟨rfl, rfl, rfl⟩) (by first | (omega) | (have q11 := zhx q11; have q12 := zhx q12; have q28 := zhx q28; have q29 := zhx q29; have q33 := zhx q33; omega)) (by first | (omega) | (have q11 := zhx q11; have q12 := zhx q12; have q28 := zhx q28; have q29 := zhx q29; have q33 := zhx q33; omega)) (by first | (omega) | (have q11 := zhx q11; have q12 := zhx q12; have q28 := zhx q28; have q29 := zhx q29; have q33 := zhx q33; omega)) (by first | (omega) | (have q11 := zhx q11; have q12 := zhx q12; have q28 := zhx q28; have q29 := zhx q29; have q33 := zhx q33; omega)) rfl rfl))
              have q41 := zhd (hv39)
              rcases zE_c hM with ⟨h42, hM⟩ | ⟨h42, hM⟩
              · obtain ⟨Ym43, hYm43, hM⟩ := zl_x hM
                have hR44 : zRx [] 0 Z Ym43 := zRx_o hR36 hYm43 rfl
                have hV45 : zV Ym43 := zV_o hV37 hYm43 rfl
                have hG46 := yFr_o hG38 hYm43 rfl (.inr rfl) rfl
                have th9 := (zu_at hYm43)
                obtain rfl : C = _ := hC
                obtain rfl : M = _ := hM
                exact ⟨zRx_1 hR44, hV45, ⟨Z, _, .inl ⟨rfl, yFr_w hG46 (by decide)⟩, zFc_r, yFr_r⟩, zThr_e th9 (by decide), (zN1_f hN1 hG46.1 ⟨rfl, rfl, rfl, rfl⟩), (zN8_f hN8 hG46.1 ⟨rfl, rfl, rfl⟩)⟩
              · obtain ⟨Ym47, hYm47, hM⟩ := zl_x hM
                have hR48 : zRx [] 0 Z Ym47 := zRx_o hR36 hYm47 rfl
                have hV49 : zV Ym47 := zV_o hV37 hYm47 rfl
                have hG50 := yFr_o hG38 hYm47 rfl (.inr rfl) rfl
                exact False.elim (by have q11 := zhx q11; have q12 := zhx q12; have q28 := zhx q28; have q29 := zhx q29; have q33 := zhx q33; have q40 := zhx q40; have q41 := zhx q41; first | omega | grind)
            · replace hM := zE_p hM (by first | (have q11 := zhx q11; have q12 := zhx q12; have q28 := zhx q28; have q29 := zhx q29; have q33 := zhx q33; omega) | (simp only [zhx q11, zhx q12, zhx q28, zhx q29, zhx q33] at h1 h13 h23 h30 h31 h34 ⊢ <;> omega))
              replace hM := zE_n hM (by first | (have q11 := zhx q11; have q12 := zhx q12; have q28 := zhx q28; have q29 := zhx q29; have q33 := zhx q33; omega) | (simp only [zhx q11, zhx q12, zhx q28, zhx q29, zhx q33] at h1 h13 h23 h30 h31 h34 ⊢ <;> omega))
              replace hM := zE_n hM (by first | (have q11 := zhx q11; have q12 := zhx q12; have q28 := zhx q28; have q29 := zhx q29; have q33 := zhx q33; omega) | (simp only [zhx q11, zhx q12, zhx q28, zhx q29, zhx q33] at h1 h13 h23 h30 h31 h34 ⊢ <;> omega))
              replace hM := zE_n hM (by first | (have q11 := zhx q11; have q12 := zhx q12; have q28 := zhx q28; have q29 := zhx q29; have q33 := zhx q33; omega) | (simp only [zhx q11, zhx q12, zhx q28, zhx q29, zhx q33] at h1 h13 h23 h30 h31 h34 ⊢ <;> omega))
              replace hM := zE_n hM (by first | (have q11 := zhx q11; have q12 := zhx q12; have q28 := zhx q28; have q29 := zhx q29; have q33 := zhx q33; omega) | (simp only [zhx q11, zhx q12, zhx q28, zhx q29, zhx q33] at h1 h13 h23 h30 h31 h34 ⊢ <;> omega))
              replace hM := zE_n hM (by first | (have q11 := zhx q11; have q12 := zhx q12; have q28 := zhx q28; have q29 := zhx q29; have q33 := zhx q33; omega) | (simp only [zhx q11, zhx q12, zhx q28, zhx q29, zhx q33] at h1 h13 h23 h30 h31 h34 ⊢ <;> omega))
              obtain ⟨Ym51, hYm51, hM⟩ := zl_x hM
              have hR52 : zRx [] 0 Z Ym51 := zRx_o hRb hYm51 rfl
              have hV53 : zV Ym51 := zV_o hV hYm51 rfl
              have hG54 := yFr_o hG hYm51 rfl (.inr rfl) rfl
              obtain ⟨v55, hv55, hM⟩ := zl_x hM
              have q56 := zhd (show v32 = (zf_477 Ym51 a1 a2) from hv32.trans (rr_9178 (zRx_1 hR52) hV53 (zN1_f hN1 hG54.1 ⟨rfl, rfl, rfl, rfl⟩) (zDs_f hDs hF.1 hG54.1 ⟨rfl, rfl⟩) (zNr_f hNr hV hG54.1 ⟨rfl, rfl, rfl⟩) (by first | (omega) | (have q11 := zhx q11; have q12 := zhx q12; have q28 := zhx q28; have q29 := zhx q29; have q33 := zhx q33; omega)) (by first | (omega) | (have q11 := zhx q11; have q12 := zhx q12; have q28 := zhx q28; have q29 := zhx q29; have q33 := zhx q33; omega)) (by first | (omega) | (have q11 := zhx q11; have q12 := zhx q12; have q28 := zhx q28; have q29 := zhx q29; have q33 := zhx q33; omega)) (by first | (omega) | (have q11 := zhx q11; have q12 := zhx q12; have q28 := zhx q28; have q29 := zhx q29; have q33 := zhx q33; omega)) rfl rfl))
              have q57 := zhd (hv55)
              rcases zE_c hM with ⟨h58, hM⟩ | ⟨h58, hM⟩
              · obtain ⟨Ym59, hYm59, hM⟩ := zl_x hM
                have hR60 : zRx [] 0 Z Ym59 := zRx_o hR52 hYm59 rfl
                have hV61 : zV Ym59 := zV_o hV53 hYm59 rfl
                have hG62 := yFr_o hG54 hYm59 rfl (.inr rfl) rfl
                exact False.elim (by have q11 := zhx q11; have q12 := zhx q12; have q28 := zhx q28; have q29 := zhx q29; have q33 := zhx q33; have q56 := zhx q56; have q57 := zhx q57; first | omega | grind)
              · obtain ⟨Ym63, hYm63, hM⟩ := zl_x hM
                have hR64 : zRx [] 0 Z Ym63 := zRx_o hR52 hYm63 rfl
                have hV65 : zV Ym63 := zV_o hV53 hYm63 rfl
                have hG66 := yFr_o hG54 hYm63 rfl (.inr rfl) rfl
                obtain ⟨Zc67, hZc67, hC⟩ := zl_x hC
                obtain ⟨Ym68, hYm68, hM⟩ := zl_x hM
                have hR69 : zRx [] 0 Zc67 Ym68 := zRx_dd hR64 hI hd hZc67 hYm68
                have hV70 : zV Ym68 := zV_dm hV65 hd hYm68
                have hN1_71 : zN1 Ym68 := (zN1_f (zN1_f hN1 hG66.1 ⟨rfl, rfl, rfl, rfl⟩) (yFa_dm hd hYm68) ⟨rfl, rfl, rfl, rfl⟩)
                have hN8_72 : zN8 Ym68 := (zN8_f (zN8_f hN8 hG66.1 ⟨rfl, rfl, rfl⟩) (yFa_dm hd hYm68) ⟨rfl, rfl, rfl⟩)
                have hDs_73 : zDs 0 Zc67 Ym68 := (zDs_f (zDs_f hDs hF.1 hG66.1 ⟨rfl, rfl⟩) (zFa_dd hI hZc67) (yFa_dm hd hYm68) ⟨rfl, rfl⟩)
                have hNr_74 : zNr Ym68 := (zNr_f (zNr_f hNr hV hG66.1 ⟨rfl, rfl, rfl⟩) hV65 (yFa_dm hd hYm68) ⟨rfl, rfl, rfl⟩)
                have hF75 : zFc [4307, 4412] 0 Zc67 Zc67 := zFc_r
                have hG76 : yFr [4307, 4412] Ym68 Ym68 := yFr_r
                obtain ⟨Zc77, g78, hC⟩ := zl_x hC
                obtain ⟨Ym79, g80, hM⟩ := zl_x hM
                have q82 := zhd (zVr_44_10 (x := a1) (a := 210 + 20 * a1) hV (by first | (omega) | (have q11 := zhx q11; have q12 := zhx q12; have q28 := zhx q28; have q29 := zhx q29; have q33 := zhx q33; have q56 := zhx q56; have q57 := zhx q57; omega)) (by first | (omega) | (have q11 := zhx q11; have q12 := zhx q12; have q28 := zhx q28; have q29 := zhx q29; have q33 := zhx q33; have q56 := zhx q56; have q57 := zhx q57; omega)) (by first | (omega) | (have q11 := zhx q11; have q12 := zhx q12; have q28 := zhx q28; have q29 := zhx q29; have q33 := zhx q33; have q56 := zhx q56; have q57 := zhx q57; omega)))
                have q83 := zhd ((zu_ne (k' := 2) (b' := 0) (i' := 0) (j' := 210 + 20 * a1) hYm51 (fun q => absurd q.1 (by decide))))
                have q84 := zhd (z477_s hv55 (by have q11 := zhx q11; have q12 := zhx q12; have q28 := zhx q28; have q29 := zhx q29; have q33 := zhx q33; have q56 := zhx q56; have q57 := zhx q57; omega))
                have q85 := zhd ((((yFa_dm hd hYm68 (210 + 20 * a1) rfl).trans (zu_ne (k' := 2) (b' := 0) (i' := 0) (j' := 210 + 20 * a1) hYm63 (fun q => absurd q.1 (by decide)))).trans (zu_ne (k' := 2) (b' := 0) (i' := 0) (j' := 210 + 20 * a1) hYm51 (fun q => absurd q.1 (by decide)))))
                have q86 := zhd ((((yFa_dm hd hYm68 (1200) rfl).trans (zu_ne (k' := 2) (b' := 0) (i' := 0) (j' := 1200) hYm63 (fun q => absurd q.1 (by decide)))).trans (zu_ne (k' := 2) (b' := 0) (i' := 0) (j' := 1200) hYm51 (fun q => absurd q.1 (by decide)))))
                have g81 := rr_175p  (zRx_1 hR69) hV70 hN1_71 hN8_72 (by have q11 := zhx q11; have q12 := zhx q12; have q28 := zhx q28; have q29 := zhx q29; have q33 := zhx q33; have q56 := zhx q56; have q57 := zhx q57; first | omega | exact (z2_r _ _ _).1 | exact (z2_r _ _ _).2 | exact (w3_r _).1 | exact (w3_r _).2) (by have q11 := zhx q11; have q12 := zhx q12; have q28 := zhx q28; have q29 := zhx q29; have q33 := zhx q33; have q56 := zhx q56; have q57 := zhx q57; first | omega | exact (z2_r _ _ _).1 | exact (z2_r _ _ _).2 | exact (w3_r _).1 | exact (w3_r _).2) (by have q11 := zhx q11; have q12 := zhx q12; have q28 := zhx q28; have q29 := zhx q29; have q33 := zhx q33; have q56 := zhx q56; have q57 := zhx q57; first | omega | exact (z2_r _ _ _).1 | exact (z2_r _ _ _).2 | exact (w3_r _).1 | exact (w3_r _).2) (by have q11 := zhx q11; have q12 := zhx q12; have q28 := zhx q28; have q29 := zhx q29; have q33 := zhx q33; have q56 := zhx q56; have q57 := zhx q57; first | omega | exact (z2_r _ _ _).1 | exact (z2_r _ _ _).2 | exact (w3_r _).1 | exact (w3_r _).2) (by first | (have q82 := zhx q82; have q83 := zhx q83; have q84 := zhx q84; have q85 := zhx q85; omega) | (have q11 := zhx q11; have q12 := zhx q12; have q28 := zhx q28; have q29 := zhx q29; have q33 := zhx q33; have q56 := zhx q56; have q57 := zhx q57; have q82 := zhx q82; have q83 := zhx q83; have q84 := zhx q84; have q85 := zhx q85; omega)) (by have q11 := zhx q11; have q12 := zhx q12; have q28 := zhx q28; have q29 := zhx q29; have q33 := zhx q33; have q56 := zhx q56; have q57 := zhx q57; have q86 := zhx q86; omega) g78 g80
                have hR87 : zRx [] 0 Zc77 Ym79 := zRx_0 g81.1
                have hV88 : zV Ym79 := g81.2.1
                have hF89 := zFc_t hF75 g81.2.2.1 (by decide)
                have hG90 := yFr_t hG76 g81.2.2.2.1 (by decide)
                have hN1_91 : zN1 Ym79 := g81.2.2.2.2.1
                have hN8_92 : zN8 Ym79 := g81.2.2.2.2.2
                have hDs_93 : zDs 0 Zc77 Ym79 := (zDs_f hDs_73 (g81.2.2.1).1 (g81.2.2.2.1).1 ⟨rfl, rfl⟩)
                have hNr_94 : zNr Ym79 := (zNr_f hNr_74 hV70 (g81.2.2.2.1).1 ⟨rfl, rfl, rfl⟩)
                have tF95 : zFc [4307, 4412] 0 Zc67 Zc77 := zFc_w hF89 (by decide)
                have tG96 : yFr [4307, 4412, 99999] Ym68 Ym79 := yFr_w hG90 (by decide)
                have hF97 : zFc [] 0 Zc77 Zc77 := zFc_r
                have hG98 : yFr [] Ym79 Ym79 := yFr_r
                obtain ⟨v99, hv99, hC⟩ := zl_x hC
                have q100 := zhd (show v99 = (zf_488 Ym79 a2) from hv99.trans (rr_182 (zRx_1 hR87) hV88 hN1_91 (by first | (omega) | (have q11 := zhx q11; have q12 := zhx q12; have q28 := zhx q28; have q29 := zhx q29; have q33 := zhx q33; have q56 := zhx q56; have q57 := zhx q57; omega)) rfl rfl))
                obtain ⟨v101, hv101, hM⟩ := zl_x hM
                have q102 := zhd (hv101)
                have th9 := ((((g81.2.2.2.1).2.1 rfl).trans (zTh_dm hd hYm68 (by decide))).trans (zu_at hYm63))
                have q103 := zhd (((((yFr_at 4300 (g81.2.2.2.1).1 rfl (zcm_s (ac_43_0 (a := 1210 + 12 * a2) (x := a2) (by first | (omega) | (have q11 := zhx q11; have q12 := zhx q12; have q28 := zhx q28; have q29 := zhx q29; have q33 := zhx q33; have q56 := zhx q56; have q57 := zhx q57; omega)) (by first | (omega) | (have q11 := zhx q11; have q12 := zhx q12; have q28 := zhx q28; have q29 := zhx q29; have q33 := zhx q33; have q56 := zhx q56; have q57 := zhx q57; omega)) (by first | (omega) | (have q11 := zhx q11; have q12 := zhx q12; have q28 := zhx q28; have q29 := zhx q29; have q33 := zhx q33; have q56 := zhx q56; have q57 := zhx q57; omega))))).trans (yFa_dm hd hYm68 (1210 + 12 * a2) rfl)).trans (zu_ne (k' := 2) (b' := 0) (i' := 0) (j' := 1210 + 12 * a2) hYm63 (fun q => absurd q.1 (by decide)))).trans (zu_ne (k' := 2) (b' := 0) (i' := 0) (j' := 1210 + 12 * a2) hYm51 (fun q => absurd q.1 (by decide)))))
                have q104 := zhd (((zRl_43_0 (x := a2) (a := 1210 + 12 * a2) (zRx_1 hR87) (by first | (omega) | (have q11 := zhx q11; have q12 := zhx q12; have q28 := zhx q28; have q29 := zhx q29; have q33 := zhx q33; have q56 := zhx q56; have q57 := zhx q57; omega)) (by first | (omega) | (have q11 := zhx q11; have q12 := zhx q12; have q28 := zhx q28; have q29 := zhx q29; have q33 := zhx q33; have q56 := zhx q56; have q57 := zhx q57; omega)) (by first | (omega) | (have q11 := zhx q11; have q12 := zhx q12; have q28 := zhx q28; have q29 := zhx q29; have q33 := zhx q33; have q56 := zhx q56; have q57 := zhx q57; omega))).trans (zhx q103)))
                obtain rfl : C = _ := hC
                obtain rfl : M = _ := hM
                exact ⟨zRx_1 hR87, hV88, ⟨Zc67, Ym68, .inr ⟨8, a1, a2, 0, 0, 0, 0, 9, Ym63, hZc67, yFr_w hG66 (by decide), hYm68, (by unfold zcode; omega)⟩, zFc_t tF95 hF97 (by decide), yFr_t tG96 hG98 (by decide)⟩, zThr_a th9 (by first | rfl | (have q11 := zhx q11; have q12 := zhx q12; have q28 := zhx q28; have q29 := zhx q29; have q33 := zhx q33; have q56 := zhx q56; have q57 := zhx q57; have q100 := zhx q100; have q102 := zhx q102; have q103 := zhx q103; have q104 := zhx q104; omega) | (simp only [zhx q11, zhx q12, zhx q28, zhx q29, zhx q33, zhx q56, zhx q57, zhx q100, zhx q102, zhx q103, zhx q104] <;> omega) | (have q11 := zhx q11; have q12 := zhx q12; have q28 := zhx q28; have q29 := zhx q29; have q33 := zhx q33; have q56 := zhx q56; have q57 := zhx q57; have q100 := zhx q100; have q102 := zhx q102; have q103 := zhx q103; have q104 := zhx q104; refine w3z ?_ ?_ ?_ <;> omega) | (have q11 := zhx q11; have q12 := zhx q12; have q28 := zhx q28; have q29 := zhx q29; have q33 := zhx q33; have q56 := zhx q56; have q57 := zhx q57; have q100 := zhx q100; have q102 := zhx q102; have q103 := zhx q103; have q104 := zhx q104; refine w3y ?_ ?_ ?_ <;> omega) | (have q11 := zhx q11; have q12 := zhx q12; have q28 := zhx q28; have q29 := zhx q29; have q33 := zhx q33; have q56 := zhx q56; have q57 := zhx q57; have q100 := zhx q100; have q102 := zhx q102; have q103 := zhx q103; have q104 := zhx q104; refine z2o ?_ ?_ ?_ <;> omega)), hN1_91, hN8_92⟩
          · obtain ⟨v105, hv105, hC⟩ := zl_x hC
            have q106 := zhd (show v105 = (zf_477 Y a1 6) from hv105.trans (rr_9178 hRa hV hN1 hDs hNr (by first | (omega) | (have q11 := zhx q11; have q12 := zhx q12; have q28 := zhx q28; have q29 := zhx q29; omega)) (by first | (omega) | (have q11 := zhx q11; have q12 := zhx q12; have q28 := zhx q28; have q29 := zhx q29; omega)) (by first | (omega) | (have q11 := zhx q11; have q12 := zhx q12; have q28 := zhx q28; have q29 := zhx q29; omega)) (by first | (omega) | (have q11 := zhx q11; have q12 := zhx q12; have q28 := zhx q28; have q29 := zhx q29; omega)) rfl rfl))
            rcases zE_c hC with ⟨h107, hC⟩ | ⟨h107, hC⟩
            · replace hM := zE_n hM (by first | (have q11 := zhx q11; have q12 := zhx q12; have q28 := zhx q28; have q29 := zhx q29; have q106 := zhx q106; omega) | (simp only [zhx q11, zhx q12, zhx q28, zhx q29, zhx q106] at h1 h13 h23 h30 h31 h107 ⊢ <;> omega))
              replace hM := zE_n hM (by first | (have q11 := zhx q11; have q12 := zhx q12; have q28 := zhx q28; have q29 := zhx q29; have q106 := zhx q106; omega) | (simp only [zhx q11, zhx q12, zhx q28, zhx q29, zhx q106] at h1 h13 h23 h30 h31 h107 ⊢ <;> omega))
              replace hM := zE_n hM (by first | (have q11 := zhx q11; have q12 := zhx q12; have q28 := zhx q28; have q29 := zhx q29; have q106 := zhx q106; omega) | (simp only [zhx q11, zhx q12, zhx q28, zhx q29, zhx q106] at h1 h13 h23 h30 h31 h107 ⊢ <;> omega))
              obtain ⟨Ym108, hYm108, hM⟩ := zl_x hM
              have hR109 : zRx [] 0 Z Ym108 := zRx_o hRb hYm108 rfl
              have hV110 : zV Ym108 := zV_o hV hYm108 rfl
              have hG111 := yFr_o hG hYm108 rfl (.inr rfl) rfl
              obtain ⟨v112, hv112, hM⟩ := zl_x hM
              have q113 := zhd (show v105 = (zf_477 Ym108 a1 6) from hv105.trans (rr_9178 (zRx_1 hR109) hV110 (zN1_f hN1 hG111.1 ⟨rfl, rfl, rfl, rfl⟩) (zDs_f hDs hF.1 hG111.1 ⟨rfl, rfl⟩) (zNr_f hNr hV hG111.1 ⟨rfl, rfl, rfl⟩) (by first | (omega) | (have q11 := zhx q11; have q12 := zhx q12; have q28 := zhx q28; have q29 := zhx q29; have q106 := zhx q106; omega)) (by first | (omega) | (have q11 := zhx q11; have q12 := zhx q12; have q28 := zhx q28; have q29 := zhx q29; have q106 := zhx q106; omega)) (by first | (omega) | (have q11 := zhx q11; have q12 := zhx q12; have q28 := zhx q28; have q29 := zhx q29; have q106 := zhx q106; omega)) (by first | (omega) | (have q11 := zhx q11; have q12 := zhx q12; have q28 := zhx q28; have q29 := zhx q29; have q106 := zhx q106; omega)) rfl rfl))
              have q114 := zhd (hv112)
              rcases zE_c hM with ⟨h115, hM⟩ | ⟨h115, hM⟩
              · obtain ⟨Ym116, hYm116, hM⟩ := zl_x hM
                have hR117 : zRx [] 0 Z Ym116 := zRx_o hR109 hYm116 rfl
                have hV118 : zV Ym116 := zV_o hV110 hYm116 rfl
                have hG119 := yFr_o hG111 hYm116 rfl (.inr rfl) rfl
                have th9 := (zu_at hYm116)
                obtain rfl : C = _ := hC
                obtain rfl : M = _ := hM
                exact ⟨zRx_1 hR117, hV118, ⟨Z, _, .inl ⟨rfl, yFr_w hG119 (by decide)⟩, zFc_r, yFr_r⟩, zThr_e th9 (by decide), (zN1_f hN1 hG119.1 ⟨rfl, rfl, rfl, rfl⟩), (zN8_f hN8 hG119.1 ⟨rfl, rfl, rfl⟩)⟩
              · obtain ⟨Ym120, hYm120, hM⟩ := zl_x hM
                have hR121 : zRx [] 0 Z Ym120 := zRx_o hR109 hYm120 rfl
                have hV122 : zV Ym120 := zV_o hV110 hYm120 rfl
                have hG123 := yFr_o hG111 hYm120 rfl (.inr rfl) rfl
                exact False.elim (by have q11 := zhx q11; have q12 := zhx q12; have q28 := zhx q28; have q29 := zhx q29; have q106 := zhx q106; have q113 := zhx q113; have q114 := zhx q114; first | omega | grind)
            · replace hM := zE_n hM (by first | (have q11 := zhx q11; have q12 := zhx q12; have q28 := zhx q28; have q29 := zhx q29; have q106 := zhx q106; omega) | (simp only [zhx q11, zhx q12, zhx q28, zhx q29, zhx q106] at h1 h13 h23 h30 h31 h107 ⊢ <;> omega))
              replace hM := zE_n hM (by first | (have q11 := zhx q11; have q12 := zhx q12; have q28 := zhx q28; have q29 := zhx q29; have q106 := zhx q106; omega) | (simp only [zhx q11, zhx q12, zhx q28, zhx q29, zhx q106] at h1 h13 h23 h30 h31 h107 ⊢ <;> omega))
              replace hM := zE_n hM (by first | (have q11 := zhx q11; have q12 := zhx q12; have q28 := zhx q28; have q29 := zhx q29; have q106 := zhx q106; omega) | (simp only [zhx q11, zhx q12, zhx q28, zhx q29, zhx q106] at h1 h13 h23 h30 h31 h107 ⊢ <;> omega))
              obtain ⟨Ym124, hYm124, hM⟩ := zl_x hM
              have hR125 : zRx [] 0 Z Ym124 := zRx_o hRb hYm124 rfl
              have hV126 : zV Ym124 := zV_o hV hYm124 rfl
              have hG127 := yFr_o hG hYm124 rfl (.inr rfl) rfl
              obtain ⟨v128, hv128, hM⟩ := zl_x hM
              have q129 := zhd (show v105 = (zf_477 Ym124 a1 6) from hv105.trans (rr_9178 (zRx_1 hR125) hV126 (zN1_f hN1 hG127.1 ⟨rfl, rfl, rfl, rfl⟩) (zDs_f hDs hF.1 hG127.1 ⟨rfl, rfl⟩) (zNr_f hNr hV hG127.1 ⟨rfl, rfl, rfl⟩) (by first | (omega) | (have q11 := zhx q11; have q12 := zhx q12; have q28 := zhx q28; have q29 := zhx q29; have q106 := zhx q106; omega)) (by first | (omega) | (have q11 := zhx q11; have q12 := zhx q12; have q28 := zhx q28; have q29 := zhx q29; have q106 := zhx q106; omega)) (by first | (omega) | (have q11 := zhx q11; have q12 := zhx q12; have q28 := zhx q28; have q29 := zhx q29; have q106 := zhx q106; omega)) (by first | (omega) | (have q11 := zhx q11; have q12 := zhx q12; have q28 := zhx q28; have q29 := zhx q29; have q106 := zhx q106; omega)) rfl rfl))
              have q130 := zhd (hv128)
              rcases zE_c hM with ⟨h131, hM⟩ | ⟨h131, hM⟩
              · obtain ⟨Ym132, hYm132, hM⟩ := zl_x hM
                have hR133 : zRx [] 0 Z Ym132 := zRx_o hR125 hYm132 rfl
                have hV134 : zV Ym132 := zV_o hV126 hYm132 rfl
                have hG135 := yFr_o hG127 hYm132 rfl (.inr rfl) rfl
                exact False.elim (by have q11 := zhx q11; have q12 := zhx q12; have q28 := zhx q28; have q29 := zhx q29; have q106 := zhx q106; have q129 := zhx q129; have q130 := zhx q130; first | omega | grind)
              · obtain ⟨Ym136, hYm136, hM⟩ := zl_x hM
                have hR137 : zRx [] 0 Z Ym136 := zRx_o hR125 hYm136 rfl
                have hV138 : zV Ym136 := zV_o hV126 hYm136 rfl
                have hG139 := yFr_o hG127 hYm136 rfl (.inr rfl) rfl
                obtain ⟨Zc140, hZc140, hC⟩ := zl_x hC
                obtain ⟨Ym141, hYm141, hM⟩ := zl_x hM
                have hR142 : zRx [] 0 Zc140 Ym141 := zRx_dd hR137 hI hd hZc140 hYm141
                have hV143 : zV Ym141 := zV_dm hV138 hd hYm141
                have hN1_144 : zN1 Ym141 := (zN1_f (zN1_f hN1 hG139.1 ⟨rfl, rfl, rfl, rfl⟩) (yFa_dm hd hYm141) ⟨rfl, rfl, rfl, rfl⟩)
                have hN8_145 : zN8 Ym141 := (zN8_f (zN8_f hN8 hG139.1 ⟨rfl, rfl, rfl⟩) (yFa_dm hd hYm141) ⟨rfl, rfl, rfl⟩)
                have hDs_146 : zDs 0 Zc140 Ym141 := (zDs_f (zDs_f hDs hF.1 hG139.1 ⟨rfl, rfl⟩) (zFa_dd hI hZc140) (yFa_dm hd hYm141) ⟨rfl, rfl⟩)
                have hNr_147 : zNr Ym141 := (zNr_f (zNr_f hNr hV hG139.1 ⟨rfl, rfl, rfl⟩) hV138 (yFa_dm hd hYm141) ⟨rfl, rfl, rfl⟩)
                have hF148 : zFc [4307, 4412] 0 Zc140 Zc140 := zFc_r
                have hG149 : yFr [4307, 4412] Ym141 Ym141 := yFr_r
                obtain ⟨Zc150, g151, hC⟩ := zl_x hC
                obtain ⟨Ym152, g153, hM⟩ := zl_x hM
                have q155 := zhd (zVr_44_10 (x := a1) (a := 210 + 20 * a1) hV (by first | (omega) | (have q11 := zhx q11; have q12 := zhx q12; have q28 := zhx q28; have q29 := zhx q29; have q106 := zhx q106; have q129 := zhx q129; have q130 := zhx q130; omega)) (by first | (omega) | (have q11 := zhx q11; have q12 := zhx q12; have q28 := zhx q28; have q29 := zhx q29; have q106 := zhx q106; have q129 := zhx q129; have q130 := zhx q130; omega)) (by first | (omega) | (have q11 := zhx q11; have q12 := zhx q12; have q28 := zhx q28; have q29 := zhx q29; have q106 := zhx q106; have q129 := zhx q129; have q130 := zhx q130; omega)))
                have q156 := zhd ((zu_ne (k' := 2) (b' := 0) (i' := 0) (j' := 210 + 20 * a1) hYm124 (fun q => absurd q.1 (by decide))))
                have q157 := zhd (z477_s hv128 (by have q11 := zhx q11; have q12 := zhx q12; have q28 := zhx q28; have q29 := zhx q29; have q106 := zhx q106; have q129 := zhx q129; have q130 := zhx q130; omega))
                have q158 := zhd ((((yFa_dm hd hYm141 (210 + 20 * a1) rfl).trans (zu_ne (k' := 2) (b' := 0) (i' := 0) (j' := 210 + 20 * a1) hYm136 (fun q => absurd q.1 (by decide)))).trans (zu_ne (k' := 2) (b' := 0) (i' := 0) (j' := 210 + 20 * a1) hYm124 (fun q => absurd q.1 (by decide)))))
                have q159 := zhd ((((yFa_dm hd hYm141 (1200) rfl).trans (zu_ne (k' := 2) (b' := 0) (i' := 0) (j' := 1200) hYm136 (fun q => absurd q.1 (by decide)))).trans (zu_ne (k' := 2) (b' := 0) (i' := 0) (j' := 1200) hYm124 (fun q => absurd q.1 (by decide)))))
                have g154 := rr_175p  (zRx_1 hR142) hV143 hN1_144 hN8_145 (by have q11 := zhx q11; have q12 := zhx q12; have q28 := zhx q28; have q29 := zhx q29; have q106 := zhx q106; have q129 := zhx q129; have q130 := zhx q130; first | omega | exact (z2_r _ _ _).1 | exact (z2_r _ _ _).2 | exact (w3_r _).1 | exact (w3_r _).2) (by have q11 := zhx q11; have q12 := zhx q12; have q28 := zhx q28; have q29 := zhx q29; have q106 := zhx q106; have q129 := zhx q129; have q130 := zhx q130; first | omega | exact (z2_r _ _ _).1 | exact (z2_r _ _ _).2 | exact (w3_r _).1 | exact (w3_r _).2) (by have q11 := zhx q11; have q12 := zhx q12; have q28 := zhx q28; have q29 := zhx q29; have q106 := zhx q106; have q129 := zhx q129; have q130 := zhx q130; first | omega | exact (z2_r _ _ _).1 | exact (z2_r _ _ _).2 | exact (w3_r _).1 | exact (w3_r _).2) (by have q11 := zhx q11; have q12 := zhx q12; have q28 := zhx q28; have q29 := zhx q29; have q106 := zhx q106; have q129 := zhx q129; have q130 := zhx q130; first | omega | exact (z2_r _ _ _).1 | exact (z2_r _ _ _).2 | exact (w3_r _).1 | exact (w3_r _).2) (by first | (have q155 := zhx q155; have q156 := zhx q156; have q157 := zhx q157; have q158 := zhx q158; omega) | (have q11 := zhx q11; have q12 := zhx q12; have q28 := zhx q28; have q29 := zhx q29; have q106 := zhx q106; have q129 := zhx q129; have q130 := zhx q130; have q155 := zhx q155; have q156 := zhx q156; have q157 := zhx q157; have q158 := zhx q158; omega)) (by have q11 := zhx q11; have q12 := zhx q12; have q28 := zhx q28; have q29 := zhx q29; have q106 := zhx q106; have q129 := zhx q129; have q130 := zhx q130; have q159 := zhx q159; omega) g151 g153
                have hR160 : zRx [] 0 Zc150 Ym152 := zRx_0 g154.1
                have hV161 : zV Ym152 := g154.2.1
                have hF162 := zFc_t hF148 g154.2.2.1 (by decide)
                have hG163 := yFr_t hG149 g154.2.2.2.1 (by decide)
                have hN1_164 : zN1 Ym152 := g154.2.2.2.2.1
                have hN8_165 : zN8 Ym152 := g154.2.2.2.2.2
                have hDs_166 : zDs 0 Zc150 Ym152 := (zDs_f hDs_146 (g154.2.2.1).1 (g154.2.2.2.1).1 ⟨rfl, rfl⟩)
                have hNr_167 : zNr Ym152 := (zNr_f hNr_147 hV143 (g154.2.2.2.1).1 ⟨rfl, rfl, rfl⟩)
                have tF168 : zFc [4307, 4412] 0 Zc140 Zc150 := zFc_w hF162 (by decide)
                have tG169 : yFr [4307, 4412, 99999] Ym141 Ym152 := yFr_w hG163 (by decide)
                have hF170 : zFc [] 0 Zc150 Zc150 := zFc_r
                have hG171 : yFr [] Ym152 Ym152 := yFr_r
                obtain ⟨v172, hv172, hC⟩ := zl_x hC
                have q173 := zhd (show v172 = (zf_488 Ym152 6) from hv172.trans (rr_182 (zRx_1 hR160) hV161 hN1_164 (by first | (omega) | (have q11 := zhx q11; have q12 := zhx q12; have q28 := zhx q28; have q29 := zhx q29; have q106 := zhx q106; have q129 := zhx q129; have q130 := zhx q130; omega)) rfl rfl))
                obtain ⟨v174, hv174, hM⟩ := zl_x hM
                have q175 := zhd (hv174)
                have th9 := ((((g154.2.2.2.1).2.1 rfl).trans (zTh_dm hd hYm141 (by decide))).trans (zu_at hYm136))
                obtain rfl : C = _ := hC
                obtain rfl : M = _ := hM
                exact ⟨zRx_1 hR160, hV161, ⟨Zc140, Ym141, .inr ⟨8, a1, a2, 0, 0, 0, 0, 9, Ym136, hZc140, yFr_w hG139 (by decide), hYm141, (by unfold zcode; omega)⟩, zFc_t tF168 hF170 (by decide), yFr_t tG169 hG171 (by decide)⟩, zThr_a th9 (by first | rfl | (have q11 := zhx q11; have q12 := zhx q12; have q28 := zhx q28; have q29 := zhx q29; have q106 := zhx q106; have q129 := zhx q129; have q130 := zhx q130; have q173 := zhx q173; have q175 := zhx q175; omega) | (simp only [zhx q11, zhx q12, zhx q28, zhx q29, zhx q106, zhx q129, zhx q130, zhx q173, zhx q175] <;> omega) | (have q11 := zhx q11; have q12 := zhx q12; have q28 := zhx q28; have q29 := zhx q29; have q106 := zhx q106; have q129 := zhx q129; have q130 := zhx q130; have q173 := zhx q173; have q175 := zhx q175; refine w3z ?_ ?_ ?_ <;> omega) | (have q11 := zhx q11; have q12 := zhx q12; have q28 := zhx q28; have q29 := zhx q29; have q106 := zhx q106; have q129 := zhx q129; have q130 := zhx q130; have q173 := zhx q173; have q175 := zhx q175; refine w3y ?_ ?_ ?_ <;> omega) | (have q11 := zhx q11; have q12 := zhx q12; have q28 := zhx q28; have q29 := zhx q29; have q106 := zhx q106; have q129 := zhx q129; have q130 := zhx q130; have q173 := zhx q173; have q175 := zhx q175; refine z2o ?_ ?_ ?_ <;> omega)), hN1_164, hN8_165⟩
        · rcases zE_c hM with ⟨h176, hM⟩ | ⟨h176, hM⟩
          · replace hM := zE_n hM (by first | (have q11 := zhx q11; have q12 := zhx q12; have q28 := zhx q28; have q29 := zhx q29; omega) | (simp only [zhx q11, zhx q12, zhx q28, zhx q29] at h1 h13 h23 h30 h176 ⊢ <;> omega))
            replace hM := zE_n hM (by first | (have q11 := zhx q11; have q12 := zhx q12; have q28 := zhx q28; have q29 := zhx q29; omega) | (simp only [zhx q11, zhx q12, zhx q28, zhx q29] at h1 h13 h23 h30 h176 ⊢ <;> omega))
            replace hM := zE_n hM (by first | (have q11 := zhx q11; have q12 := zhx q12; have q28 := zhx q28; have q29 := zhx q29; omega) | (simp only [zhx q11, zhx q12, zhx q28, zhx q29] at h1 h13 h23 h30 h176 ⊢ <;> omega))
            replace hM := zE_n hM (by first | (have q11 := zhx q11; have q12 := zhx q12; have q28 := zhx q28; have q29 := zhx q29; omega) | (simp only [zhx q11, zhx q12, zhx q28, zhx q29] at h1 h13 h23 h30 h176 ⊢ <;> omega))
            replace hM := zE_p hM (by first | (have q11 := zhx q11; have q12 := zhx q12; have q28 := zhx q28; have q29 := zhx q29; omega) | (simp only [zhx q11, zhx q12, zhx q28, zhx q29] at h1 h13 h23 h30 h176 ⊢ <;> omega))
            obtain ⟨Ym177, hYm177, hM⟩ := zl_x hM
            have hR178 : zRx [] 0 Z Ym177 := zRx_o hRb hYm177 rfl
            have hV179 : zV Ym177 := zV_o hV hYm177 rfl
            have hG180 := yFr_o hG hYm177 rfl (.inr rfl) rfl
            have th9 := (zu_at hYm177)
            obtain rfl : C = _ := hC
            obtain rfl : M = _ := hM
            exact ⟨zRx_1 hR178, hV179, ⟨Z, _, .inl ⟨rfl, yFr_w hG180 (by decide)⟩, zFc_r, yFr_r⟩, zThr_e th9 (by decide), (zN1_f hN1 hG180.1 ⟨rfl, rfl, rfl, rfl⟩), (zN8_f hN8 hG180.1 ⟨rfl, rfl, rfl⟩)⟩
          · replace hM := zE_n hM (by first | (have q11 := zhx q11; have q12 := zhx q12; have q28 := zhx q28; have q29 := zhx q29; omega) | (simp only [zhx q11, zhx q12, zhx q28, zhx q29] at h1 h13 h23 h30 h176 ⊢ <;> omega))
            replace hM := zE_n hM (by first | (have q11 := zhx q11; have q12 := zhx q12; have q28 := zhx q28; have q29 := zhx q29; omega) | (simp only [zhx q11, zhx q12, zhx q28, zhx q29] at h1 h13 h23 h30 h176 ⊢ <;> omega))
            obtain ⟨Ym181, hYm181, hM⟩ := zl_x hM
            have hR182 : zRx [] 0 Z Ym181 := zRx_o hRb hYm181 rfl
            have hV183 : zV Ym181 := zV_o hV hYm181 rfl
            have hG184 := yFr_o hG hYm181 rfl (.inr rfl) rfl
            obtain ⟨v185, hv185, hM⟩ := zl_x hM
            rcases zE_c hM with ⟨h186, hM⟩ | ⟨h186, hM⟩
            · obtain ⟨Ym187, hYm187, hM⟩ := zl_x hM
              have hR188 : zRx [] 0 Z Ym187 := zRx_o hR182 hYm187 rfl
              have hV189 : zV Ym187 := zV_o hV183 hYm187 rfl
              have hG190 := yFr_o hG184 hYm187 rfl (.inr rfl) rfl
              exact False.elim (by have q11 := zhx q11; have q12 := zhx q12; have q28 := zhx q28; have q29 := zhx q29; first | omega | grind)
            · obtain ⟨Ym191, hYm191, hM⟩ := zl_x hM
              have hR192 : zRx [] 0 Z Ym191 := zRx_o hR182 hYm191 rfl
              have hV193 : zV Ym191 := zV_o hV183 hYm191 rfl
              have hG194 := yFr_o hG184 hYm191 rfl (.inr rfl) rfl
              exact False.elim (by have q11 := zhx q11; have q12 := zhx q12; have q28 := zhx q28; have q29 := zhx q29; first | omega | grind)
