/- face sort -/
theorem rf_sort {Z Y : qz_Z} {dm : qz_Z → Int → Int → Int → Int → Int → Int → Int → qz_Z} {a1 a2 a3 a4 a5 : Int} (hRa : zR 0 Z Y) (hV : zV Y) (hI : zI none Z) (hd : zDf dm)   {C : qz_Z × Int × Int} {M : qz_Z × Int} (hC : zE C (zx_243 Z a1 a2 a3 a4 a5)) (hM : zE M (zy_503 Y dm a1 a2 a3 a4 a5)) : zR 0 C.1 M.1 ∧ zV M.1 ∧ zDd [1100, 4100, 4101, 4102, 4103, 4104] [1100, 4100, 4101, 4102, 4103, 4104, 99999] Z Y dm C.1 M.1 ∧ zThr [(13, 1), (15, 2)] C.2 (M.1 1 0 0 2) M.2 := by
  have hRb := zRx_0 hRa
  have hF : zFc [] 0 Z Z := zFc_r
  have hG : yFr [99999] Y Y := yFr_r
  unfold zx_243 at hC
  unfold zy_503 at hM
  rcases zE_c hC with ⟨h1, hC⟩ | ⟨h1, hC⟩
  · rcases zE_c hC with ⟨h2, hC⟩ | ⟨h2, hC⟩
    · rcases zE_c hC with ⟨h3, hC⟩ | ⟨h3, hC⟩
      · rcases zE_c hC with ⟨h4, hC⟩ | ⟨h4, hC⟩
        · rcases zE_c hC with ⟨h5, hC⟩ | ⟨h5, hC⟩
          · have q6 := zhd (zVr_11_0 (a := 100) hV (by omega))
            have q7 := zhd ((zRl_11_0 (a := 100) hRa (by omega)))
            rcases zE_c hC with ⟨h8, hC⟩ | ⟨h8, hC⟩
            · replace hM := zE_n hM (by first | (have q6 := zhx q6; have q7 := zhx q7; omega) | (simp only [zhx q6, zhx q7] at h1 h2 h3 h4 h5 h8 ⊢ <;> omega))
              replace hM := zE_n hM (by first | (have q6 := zhx q6; have q7 := zhx q7; omega) | (simp only [zhx q6, zhx q7] at h1 h2 h3 h4 h5 h8 ⊢ <;> omega))
              replace hM := zE_n hM (by first | (have q6 := zhx q6; have q7 := zhx q7; omega) | (simp only [zhx q6, zhx q7] at h1 h2 h3 h4 h5 h8 ⊢ <;> omega))
              replace hM := zE_n hM (by first | (have q6 := zhx q6; have q7 := zhx q7; omega) | (simp only [zhx q6, zhx q7] at h1 h2 h3 h4 h5 h8 ⊢ <;> omega))
              replace hM := zE_n hM (by first | (have q6 := zhx q6; have q7 := zhx q7; omega) | (simp only [zhx q6, zhx q7] at h1 h2 h3 h4 h5 h8 ⊢ <;> omega))
              replace hM := zE_n hM (by first | (have q6 := zhx q6; have q7 := zhx q7; omega) | (simp only [zhx q6, zhx q7] at h1 h2 h3 h4 h5 h8 ⊢ <;> omega))
              replace hM := zE_n hM (by first | (have q6 := zhx q6; have q7 := zhx q7; omega) | (simp only [zhx q6, zhx q7] at h1 h2 h3 h4 h5 h8 ⊢ <;> omega))
              replace hM := zE_n hM (by first | (have q6 := zhx q6; have q7 := zhx q7; omega) | (simp only [zhx q6, zhx q7] at h1 h2 h3 h4 h5 h8 ⊢ <;> omega))
              replace hM := zE_n hM (by first | (have q6 := zhx q6; have q7 := zhx q7; omega) | (simp only [zhx q6, zhx q7] at h1 h2 h3 h4 h5 h8 ⊢ <;> omega))
              replace hM := zE_n hM (by first | (have q6 := zhx q6; have q7 := zhx q7; omega) | (simp only [zhx q6, zhx q7] at h1 h2 h3 h4 h5 h8 ⊢ <;> omega))
              obtain ⟨Ym9, hYm9, hM⟩ := zl_x hM
              have hR10 : zRx [] 0 Z Ym9 := zRx_o hRb hYm9 rfl
              have hV11 : zV Ym9 := zV_o hV hYm9 rfl
              have hG12 := yFr_o hG hYm9 rfl (.inr rfl) rfl
              have q13 := zhd ((zu_ne (k' := 2) (b' := 0) (i' := 0) (j' := 100) hYm9 (fun q => absurd q.1 (by decide))))
              replace hM := zE_p hM (by first | (have q6 := zhx q6; have q7 := zhx q7; have q13 := zhx q13; omega) | (simp only [zhx q6, zhx q7, zhx q13] at h1 h2 h3 h4 h5 h8 ⊢ <;> omega))
              obtain ⟨Ym14, hYm14, hM⟩ := zl_x hM
              have hR15 : zRx [] 0 Z Ym14 := zRx_o hR10 hYm14 rfl
              have hV16 : zV Ym14 := zV_o hV11 hYm14 rfl
              have hG17 := yFr_o hG12 hYm14 rfl (.inr rfl) rfl
              have th9 := (zu_at hYm14)
              obtain rfl : C = _ := hC
              obtain rfl : M = _ := hM
              exact ⟨zRx_1 hR15, hV16, ⟨Z, _, .inl ⟨rfl, yFr_w hG17 (by decide)⟩, zFc_r, yFr_r⟩, zThr_e th9 (by decide)⟩
            · replace hM := zE_n hM (by first | (have q6 := zhx q6; have q7 := zhx q7; omega) | (simp only [zhx q6, zhx q7] at h1 h2 h3 h4 h5 h8 ⊢ <;> omega))
              replace hM := zE_n hM (by first | (have q6 := zhx q6; have q7 := zhx q7; omega) | (simp only [zhx q6, zhx q7] at h1 h2 h3 h4 h5 h8 ⊢ <;> omega))
              replace hM := zE_n hM (by first | (have q6 := zhx q6; have q7 := zhx q7; omega) | (simp only [zhx q6, zhx q7] at h1 h2 h3 h4 h5 h8 ⊢ <;> omega))
              replace hM := zE_n hM (by first | (have q6 := zhx q6; have q7 := zhx q7; omega) | (simp only [zhx q6, zhx q7] at h1 h2 h3 h4 h5 h8 ⊢ <;> omega))
              replace hM := zE_n hM (by first | (have q6 := zhx q6; have q7 := zhx q7; omega) | (simp only [zhx q6, zhx q7] at h1 h2 h3 h4 h5 h8 ⊢ <;> omega))
              replace hM := zE_n hM (by first | (have q6 := zhx q6; have q7 := zhx q7; omega) | (simp only [zhx q6, zhx q7] at h1 h2 h3 h4 h5 h8 ⊢ <;> omega))
              replace hM := zE_n hM (by first | (have q6 := zhx q6; have q7 := zhx q7; omega) | (simp only [zhx q6, zhx q7] at h1 h2 h3 h4 h5 h8 ⊢ <;> omega))
              replace hM := zE_n hM (by first | (have q6 := zhx q6; have q7 := zhx q7; omega) | (simp only [zhx q6, zhx q7] at h1 h2 h3 h4 h5 h8 ⊢ <;> omega))
              replace hM := zE_n hM (by first | (have q6 := zhx q6; have q7 := zhx q7; omega) | (simp only [zhx q6, zhx q7] at h1 h2 h3 h4 h5 h8 ⊢ <;> omega))
              replace hM := zE_n hM (by first | (have q6 := zhx q6; have q7 := zhx q7; omega) | (simp only [zhx q6, zhx q7] at h1 h2 h3 h4 h5 h8 ⊢ <;> omega))
              obtain ⟨Ym18, hYm18, hM⟩ := zl_x hM
              have hR19 : zRx [] 0 Z Ym18 := zRx_o hRb hYm18 rfl
              have hV20 : zV Ym18 := zV_o hV hYm18 rfl
              have hG21 := yFr_o hG hYm18 rfl (.inr rfl) rfl
              have q22 := zhd ((zu_ne (k' := 2) (b' := 0) (i' := 0) (j' := 100) hYm18 (fun q => absurd q.1 (by decide))))
              replace hM := zE_n hM (by first | (have q6 := zhx q6; have q7 := zhx q7; have q22 := zhx q22; omega) | (simp only [zhx q6, zhx q7, zhx q22] at h1 h2 h3 h4 h5 h8 ⊢ <;> omega))
              obtain ⟨Ym23, hYm23, hM⟩ := zl_x hM
              have hR24 : zRx [] 0 Z Ym23 := zRx_o hR19 hYm23 rfl
              have hV25 : zV Ym23 := zV_o hV20 hYm23 rfl
              have hG26 := yFr_o hG21 hYm23 rfl (.inr rfl) rfl
              obtain ⟨Zc27, hZc27, hC⟩ := zl_x hC
              obtain ⟨Ym28, hYm28, hM⟩ := zl_x hM
              have hR29 : zRx [] 0 Zc27 Ym28 := zRx_dd hR24 hI hd hZc27 hYm28
              have hV30 : zV Ym28 := zV_dm hV25 hd hYm28
              have hF31 : zFc [1100, 4100, 4101, 4102, 4103, 4104] 0 Zc27 Zc27 := zFc_r
              have hG32 : yFr [1100, 4100, 4101, 4102, 4103, 4104] Ym28 Ym28 := yFr_r
              have q33 := zhd ((((yFa_dm hd hYm28 (100) rfl).trans (zu_ne (k' := 2) (b' := 0) (i' := 0) (j' := 100) hYm23 (fun q => absurd q.1 (by decide)))).trans (zhx q22)))
              have q34 := zhd (((zRl_11_0 (a := 100) (zRx_1 hR29) (by omega)).trans (zhx q33)))
              obtain ⟨Zc35, hZc35, hC⟩ := zl_x hC
              obtain ⟨Ym36, hYm36, hM⟩ := zl_x hM
              have hV37 : zV Ym36 := zV_n hV30 hYm36 (zvn_41_0 (x := (Y 2 0 0 100)) (by have q6 := zhx q6; have q7 := zhx q7; have q33 := zhx q33; omega) (by have q6 := zhx q6; have q7 := zhx q7; have q33 := zhx q33; omega) (by have q6 := zhx q6; have q7 := zhx q7; have q33 := zhx q33; omega))
              have hR38 : zRx [] 0 Zc35 Ym36 := zRx_w hR29 (ac_41_0 (by have q6 := zhx q6; have q7 := zhx q7; have q33 := zhx q33; have q34 := zhx q34; omega) (by have q6 := zhx q6; have q7 := zhx q7; have q33 := zhx q33; have q34 := zhx q34; omega) (by have q6 := zhx q6; have q7 := zhx q7; have q33 := zhx q33; have q34 := zhx q34; omega)) hZc35 hYm36 (by first | rfl | (omega) | (simp only [] <;> omega))
              have hF39 := zFc_u hF31 hZc35 rfl rfl
              have hG40 := yFr_u hG32 hYm36 (zcm_s (ac_41_0 (a := 110 + 5 * (Ym28 2 0 0 100)) (x := (Y 2 0 0 100)) (by have q6 := zhx q6; have q7 := zhx q7; have q33 := zhx q33; omega) (by have q6 := zhx q6; have q7 := zhx q7; have q33 := zhx q33; omega) (by have q6 := zhx q6; have q7 := zhx q7; have q33 := zhx q33; omega))) rfl
              obtain ⟨Zc41, hZc41, hC⟩ := zl_x hC
              obtain ⟨Ym42, hYm42, hM⟩ := zl_x hM
              have hV43 : zV Ym42 := zV_n hV37 hYm42 (zvn_41_1 (x := (Y 2 0 0 100)) (by have q6 := zhx q6; have q7 := zhx q7; have q33 := zhx q33; omega) (by have q6 := zhx q6; have q7 := zhx q7; have q33 := zhx q33; omega) (by have q6 := zhx q6; have q7 := zhx q7; have q33 := zhx q33; omega))
              have hR44 : zRx [] 0 Zc41 Ym42 := zRx_w hR38 (ac_41_1 (by have q6 := zhx q6; have q7 := zhx q7; have q33 := zhx q33; have q34 := zhx q34; omega) (by have q6 := zhx q6; have q7 := zhx q7; have q33 := zhx q33; have q34 := zhx q34; omega) (by have q6 := zhx q6; have q7 := zhx q7; have q33 := zhx q33; have q34 := zhx q34; omega)) hZc41 hYm42 (by first | rfl | (omega) | (simp only [] <;> omega))
              have hF45 := zFc_u hF39 hZc41 rfl rfl
              have hG46 := yFr_u hG40 hYm42 (zcm_s (ac_41_1 (a := 111 + 5 * (Ym28 2 0 0 100)) (x := (Y 2 0 0 100)) (by have q6 := zhx q6; have q7 := zhx q7; have q33 := zhx q33; omega) (by have q6 := zhx q6; have q7 := zhx q7; have q33 := zhx q33; omega) (by have q6 := zhx q6; have q7 := zhx q7; have q33 := zhx q33; omega))) rfl
              obtain ⟨Zc47, hZc47, hC⟩ := zl_x hC
              obtain ⟨Ym48, hYm48, hM⟩ := zl_x hM
              have hV49 : zV Ym48 := zV_n hV43 hYm48 (zvn_41_2 (x := (Y 2 0 0 100)) (by have q6 := zhx q6; have q7 := zhx q7; have q33 := zhx q33; omega) (by have q6 := zhx q6; have q7 := zhx q7; have q33 := zhx q33; omega) (by have q6 := zhx q6; have q7 := zhx q7; have q33 := zhx q33; omega))
              have hR50 : zRx [] 0 Zc47 Ym48 := zRx_w hR44 (ac_41_2 (by have q6 := zhx q6; have q7 := zhx q7; have q33 := zhx q33; have q34 := zhx q34; omega) (by have q6 := zhx q6; have q7 := zhx q7; have q33 := zhx q33; have q34 := zhx q34; omega) (by have q6 := zhx q6; have q7 := zhx q7; have q33 := zhx q33; have q34 := zhx q34; omega)) hZc47 hYm48 (by first | rfl | (omega) | (simp only [] <;> omega))
              have hF51 := zFc_u hF45 hZc47 rfl rfl
              have hG52 := yFr_u hG46 hYm48 (zcm_s (ac_41_2 (a := 112 + 5 * (Ym28 2 0 0 100)) (x := (Y 2 0 0 100)) (by have q6 := zhx q6; have q7 := zhx q7; have q33 := zhx q33; omega) (by have q6 := zhx q6; have q7 := zhx q7; have q33 := zhx q33; omega) (by have q6 := zhx q6; have q7 := zhx q7; have q33 := zhx q33; omega))) rfl
              obtain ⟨Zc53, hZc53, hC⟩ := zl_x hC
              obtain ⟨Ym54, hYm54, hM⟩ := zl_x hM
              have hV55 : zV Ym54 := zV_n hV49 hYm54 (zvn_41_3 (x := (Y 2 0 0 100)) (by have q6 := zhx q6; have q7 := zhx q7; have q33 := zhx q33; omega) (by have q6 := zhx q6; have q7 := zhx q7; have q33 := zhx q33; omega) (by have q6 := zhx q6; have q7 := zhx q7; have q33 := zhx q33; omega))
              have hR56 : zRx [] 0 Zc53 Ym54 := zRx_w hR50 (ac_41_3 (by have q6 := zhx q6; have q7 := zhx q7; have q33 := zhx q33; have q34 := zhx q34; omega) (by have q6 := zhx q6; have q7 := zhx q7; have q33 := zhx q33; have q34 := zhx q34; omega) (by have q6 := zhx q6; have q7 := zhx q7; have q33 := zhx q33; have q34 := zhx q34; omega)) hZc53 hYm54 (by first | rfl | (omega) | (simp only [] <;> omega))
              have hF57 := zFc_u hF51 hZc53 rfl rfl
              have hG58 := yFr_u hG52 hYm54 (zcm_s (ac_41_3 (a := 113 + 5 * (Ym28 2 0 0 100)) (x := (Y 2 0 0 100)) (by have q6 := zhx q6; have q7 := zhx q7; have q33 := zhx q33; omega) (by have q6 := zhx q6; have q7 := zhx q7; have q33 := zhx q33; omega) (by have q6 := zhx q6; have q7 := zhx q7; have q33 := zhx q33; omega))) rfl
              obtain ⟨Zc59, hZc59, hC⟩ := zl_x hC
              obtain ⟨Ym60, hYm60, hM⟩ := zl_x hM
              have hV61 : zV Ym60 := zV_n hV55 hYm60 (zvn_41_4 (x := (Y 2 0 0 100)) (by have q6 := zhx q6; have q7 := zhx q7; have q33 := zhx q33; omega) (by have q6 := zhx q6; have q7 := zhx q7; have q33 := zhx q33; omega) (by have q6 := zhx q6; have q7 := zhx q7; have q33 := zhx q33; omega))
              have hR62 : zRx [] 0 Zc59 Ym60 := zRx_w hR56 (ac_41_4 (by have q6 := zhx q6; have q7 := zhx q7; have q33 := zhx q33; have q34 := zhx q34; omega) (by have q6 := zhx q6; have q7 := zhx q7; have q33 := zhx q33; have q34 := zhx q34; omega) (by have q6 := zhx q6; have q7 := zhx q7; have q33 := zhx q33; have q34 := zhx q34; omega)) hZc59 hYm60 (by first | rfl | (omega) | (simp only [] <;> omega))
              have hF63 := zFc_u hF57 hZc59 rfl rfl
              have hG64 := yFr_u hG58 hYm60 (zcm_s (ac_41_4 (a := 114 + 5 * (Ym28 2 0 0 100)) (x := (Y 2 0 0 100)) (by have q6 := zhx q6; have q7 := zhx q7; have q33 := zhx q33; omega) (by have q6 := zhx q6; have q7 := zhx q7; have q33 := zhx q33; omega) (by have q6 := zhx q6; have q7 := zhx q7; have q33 := zhx q33; omega))) rfl
              have q65 := zhd (((((((zu_ne (k' := 2) (b' := 0) (i' := 0) (j' := 100) hYm60 (fun q => absurd q.2.2.2 (by have q6 := zhx q6; have q7 := zhx q7; have q33 := zhx q33; omega))).trans (zu_ne (k' := 2) (b' := 0) (i' := 0) (j' := 100) hYm54 (fun q => absurd q.2.2.2 (by have q6 := zhx q6; have q7 := zhx q7; have q33 := zhx q33; omega)))).trans (zu_ne (k' := 2) (b' := 0) (i' := 0) (j' := 100) hYm48 (fun q => absurd q.2.2.2 (by have q6 := zhx q6; have q7 := zhx q7; have q33 := zhx q33; omega)))).trans (zu_ne (k' := 2) (b' := 0) (i' := 0) (j' := 100) hYm42 (fun q => absurd q.2.2.2 (by have q6 := zhx q6; have q7 := zhx q7; have q33 := zhx q33; omega)))).trans (zu_ne (k' := 2) (b' := 0) (i' := 0) (j' := 100) hYm36 (fun q => absurd q.2.2.2 (by have q6 := zhx q6; have q7 := zhx q7; have q33 := zhx q33; omega)))).trans (zhx q33)))
              have q66 := zhd (((zRl_11_0 (a := 100) (zRx_1 hR62) (by omega)).trans (zhx q65)))
              obtain ⟨Zc67, hZc67, hC⟩ := zl_x hC
              obtain ⟨Ym68, hYm68, hM⟩ := zl_x hM
              have hV69 : zV Ym68 := zV_i hV61 hYm68 (zvi_11_0 (by have q6 := zhx q6; have q7 := zhx q7; omega)) (by have q6 := zhx q6; have q7 := zhx q7; have q65 := zhx q65; first | omega | exact w3_r _)
              have hR70 : zRx [] 0 Zc67 Ym68 := zRx_w hR62 (ac_11_0 (by have q6 := zhx q6; have q7 := zhx q7; omega)) hZc67 hYm68 (by first | rfl | (have q6 := zhx q6; have q65 := zhx q65; have q66 := zhx q66; omega) | (simp only [zhx q6, zhx q65, zhx q66] <;> omega))
              have hF71 := zFc_u hF63 hZc67 rfl rfl
              have hG72 := yFr_u hG64 hYm68 (zcm_s (ac_11_0 (a := 100) (by have q6 := zhx q6; have q7 := zhx q7; omega))) rfl
              have th9 := ((((((((zu_ne (k' := 1) (b' := 0) (i' := 0) (j' := 2) hYm68 (fun q => absurd q.1 (by decide))).trans (zu_ne (k' := 1) (b' := 0) (i' := 0) (j' := 2) hYm60 (fun q => absurd q.1 (by decide)))).trans (zu_ne (k' := 1) (b' := 0) (i' := 0) (j' := 2) hYm54 (fun q => absurd q.1 (by decide)))).trans (zu_ne (k' := 1) (b' := 0) (i' := 0) (j' := 2) hYm48 (fun q => absurd q.1 (by decide)))).trans (zu_ne (k' := 1) (b' := 0) (i' := 0) (j' := 2) hYm42 (fun q => absurd q.1 (by decide)))).trans (zu_ne (k' := 1) (b' := 0) (i' := 0) (j' := 2) hYm36 (fun q => absurd q.1 (by decide)))).trans (zTh_dm hd hYm28 (by decide))).trans (zu_at hYm23))
              obtain rfl : C = _ := hC
              obtain rfl : M = _ := hM
              exact ⟨zRx_1 hR70, hV69, ⟨Zc27, Ym28, .inr ⟨0, a1, a2, a3, a4, a5, 0, 1, Ym23, hZc27, yFr_w hG26 (by decide), hYm28, (by unfold zcode; omega)⟩, zFc_w hF71 (by decide), yFr_w hG72 (by decide)⟩, zThr_a th9 (by first | rfl | (have q6 := zhx q6; have q7 := zhx q7; have q33 := zhx q33; have q66 := zhx q66; omega) | (simp only [zhx q6, zhx q7, zhx q33, zhx q66] <;> omega) | (have q6 := zhx q6; have q7 := zhx q7; have q33 := zhx q33; have q66 := zhx q66; refine w3z ?_ ?_ ?_ <;> omega) | (have q6 := zhx q6; have q7 := zhx q7; have q33 := zhx q33; have q66 := zhx q66; refine w3y ?_ ?_ ?_ <;> omega) | (have q6 := zhx q6; have q7 := zhx q7; have q33 := zhx q33; have q66 := zhx q66; refine z2o ?_ ?_ ?_ <;> omega))⟩
          · replace hM := zE_n hM (by omega)
            replace hM := zE_n hM (by omega)
            replace hM := zE_n hM (by omega)
            replace hM := zE_n hM (by omega)
            replace hM := zE_n hM (by omega)
            replace hM := zE_n hM (by omega)
            replace hM := zE_n hM (by omega)
            replace hM := zE_n hM (by omega)
            rcases zE_c hM with ⟨h73, hM⟩ | ⟨h73, hM⟩
            · obtain ⟨Ym74, hYm74, hM⟩ := zl_x hM
              have hR75 : zRx [] 0 Z Ym74 := zRx_o hRb hYm74 rfl
              have hV76 : zV Ym74 := zV_o hV hYm74 rfl
              have hG77 := yFr_o hG hYm74 rfl (.inr rfl) rfl
              have th9 := (zu_at hYm74)
              obtain rfl : C = _ := hC
              obtain rfl : M = _ := hM
              exact ⟨zRx_1 hR75, hV76, ⟨Z, _, .inl ⟨rfl, yFr_w hG77 (by decide)⟩, zFc_r, yFr_r⟩, zThr_e th9 (by decide)⟩
            · rcases zE_c hM with ⟨h78, hM⟩ | ⟨h78, hM⟩
              · obtain ⟨Ym79, hYm79, hM⟩ := zl_x hM
                have hR80 : zRx [] 0 Z Ym79 := zRx_o hRb hYm79 rfl
                have hV81 : zV Ym79 := zV_o hV hYm79 rfl
                have hG82 := yFr_o hG hYm79 rfl (.inr rfl) rfl
                have th9 := (zu_at hYm79)
                obtain rfl : C = _ := hC
                obtain rfl : M = _ := hM
                exact ⟨zRx_1 hR80, hV81, ⟨Z, _, .inl ⟨rfl, yFr_w hG82 (by decide)⟩, zFc_r, yFr_r⟩, zThr_e th9 (by decide)⟩
              · obtain ⟨Ym83, hYm83, hM⟩ := zl_x hM
                have hR84 : zRx [] 0 Z Ym83 := zRx_o hRb hYm83 rfl
                have hV85 : zV Ym83 := zV_o hV hYm83 rfl
                have hG86 := yFr_o hG hYm83 rfl (.inr rfl) rfl
                have q87 := zhd (zVr_11_0 (a := 100) hV (by omega))
                have q88 := zhd ((zu_ne (k' := 2) (b' := 0) (i' := 0) (j' := 100) hYm83 (fun q => absurd q.1 (by decide))))
                rcases zE_c hM with ⟨h89, hM⟩ | ⟨h89, hM⟩
                · obtain ⟨Ym90, hYm90, hM⟩ := zl_x hM
                  have hR91 : zRx [] 0 Z Ym90 := zRx_o hR84 hYm90 rfl
                  have hV92 : zV Ym90 := zV_o hV85 hYm90 rfl
                  have hG93 := yFr_o hG86 hYm90 rfl (.inr rfl) rfl
                  exact False.elim (by have q87 := zhx q87; have q88 := zhx q88; first | omega | grind)
                · obtain ⟨Ym94, hYm94, hM⟩ := zl_x hM
                  have hR95 : zRx [] 0 Z Ym94 := zRx_o hR84 hYm94 rfl
                  have hV96 : zV Ym94 := zV_o hV85 hYm94 rfl
                  have hG97 := yFr_o hG86 hYm94 rfl (.inr rfl) rfl
                  exact False.elim (by have q87 := zhx q87; have q88 := zhx q88; first | omega | grind)
        · replace hM := zE_n hM (by omega)
          replace hM := zE_n hM (by omega)
          replace hM := zE_n hM (by omega)
          replace hM := zE_n hM (by omega)
          replace hM := zE_n hM (by omega)
          replace hM := zE_n hM (by omega)
          rcases zE_c hM with ⟨h98, hM⟩ | ⟨h98, hM⟩
          · obtain ⟨Ym99, hYm99, hM⟩ := zl_x hM
            have hR100 : zRx [] 0 Z Ym99 := zRx_o hRb hYm99 rfl
            have hV101 : zV Ym99 := zV_o hV hYm99 rfl
            have hG102 := yFr_o hG hYm99 rfl (.inr rfl) rfl
            have th9 := (zu_at hYm99)
            obtain rfl : C = _ := hC
            obtain rfl : M = _ := hM
            exact ⟨zRx_1 hR100, hV101, ⟨Z, _, .inl ⟨rfl, yFr_w hG102 (by decide)⟩, zFc_r, yFr_r⟩, zThr_e th9 (by decide)⟩
          · rcases zE_c hM with ⟨h103, hM⟩ | ⟨h103, hM⟩
            · obtain ⟨Ym104, hYm104, hM⟩ := zl_x hM
              have hR105 : zRx [] 0 Z Ym104 := zRx_o hRb hYm104 rfl
              have hV106 : zV Ym104 := zV_o hV hYm104 rfl
              have hG107 := yFr_o hG hYm104 rfl (.inr rfl) rfl
              have th9 := (zu_at hYm104)
              obtain rfl : C = _ := hC
              obtain rfl : M = _ := hM
              exact ⟨zRx_1 hR105, hV106, ⟨Z, _, .inl ⟨rfl, yFr_w hG107 (by decide)⟩, zFc_r, yFr_r⟩, zThr_e th9 (by decide)⟩
            · rcases zE_c hM with ⟨h108, hM⟩ | ⟨h108, hM⟩
              · obtain ⟨Ym109, hYm109, hM⟩ := zl_x hM
                have hR110 : zRx [] 0 Z Ym109 := zRx_o hRb hYm109 rfl
                have hV111 : zV Ym109 := zV_o hV hYm109 rfl
                have hG112 := yFr_o hG hYm109 rfl (.inr rfl) rfl
                have th9 := (zu_at hYm109)
                obtain rfl : C = _ := hC
                obtain rfl : M = _ := hM
                exact ⟨zRx_1 hR110, hV111, ⟨Z, _, .inl ⟨rfl, yFr_w hG112 (by decide)⟩, zFc_r, yFr_r⟩, zThr_e th9 (by decide)⟩
              · rcases zE_c hM with ⟨h113, hM⟩ | ⟨h113, hM⟩
                · obtain ⟨Ym114, hYm114, hM⟩ := zl_x hM
                  have hR115 : zRx [] 0 Z Ym114 := zRx_o hRb hYm114 rfl
                  have hV116 : zV Ym114 := zV_o hV hYm114 rfl
                  have hG117 := yFr_o hG hYm114 rfl (.inr rfl) rfl
                  have th9 := (zu_at hYm114)
                  obtain rfl : C = _ := hC
                  obtain rfl : M = _ := hM
                  exact ⟨zRx_1 hR115, hV116, ⟨Z, _, .inl ⟨rfl, yFr_w hG117 (by decide)⟩, zFc_r, yFr_r⟩, zThr_e th9 (by decide)⟩
                · obtain ⟨Ym118, hYm118, hM⟩ := zl_x hM
                  have hR119 : zRx [] 0 Z Ym118 := zRx_o hRb hYm118 rfl
                  have hV120 : zV Ym118 := zV_o hV hYm118 rfl
                  have hG121 := yFr_o hG hYm118 rfl (.inr rfl) rfl
                  have q122 := zhd (zVr_11_0 (a := 100) hV (by omega))
                  have q123 := zhd ((zu_ne (k' := 2) (b' := 0) (i' := 0) (j' := 100) hYm118 (fun q => absurd q.1 (by decide))))
                  rcases zE_c hM with ⟨h124, hM⟩ | ⟨h124, hM⟩
                  · obtain ⟨Ym125, hYm125, hM⟩ := zl_x hM
                    have hR126 : zRx [] 0 Z Ym125 := zRx_o hR119 hYm125 rfl
                    have hV127 : zV Ym125 := zV_o hV120 hYm125 rfl
                    have hG128 := yFr_o hG121 hYm125 rfl (.inr rfl) rfl
                    exact False.elim (by have q122 := zhx q122; have q123 := zhx q123; first | omega | grind)
                  · obtain ⟨Ym129, hYm129, hM⟩ := zl_x hM
                    have hR130 : zRx [] 0 Z Ym129 := zRx_o hR119 hYm129 rfl
                    have hV131 : zV Ym129 := zV_o hV120 hYm129 rfl
                    have hG132 := yFr_o hG121 hYm129 rfl (.inr rfl) rfl
                    exact False.elim (by have q122 := zhx q122; have q123 := zhx q123; first | omega | grind)
      · replace hM := zE_n hM (by omega)
        replace hM := zE_n hM (by omega)
        replace hM := zE_n hM (by omega)
        replace hM := zE_n hM (by omega)
        rcases zE_c hM with ⟨h133, hM⟩ | ⟨h133, hM⟩
        · obtain ⟨Ym134, hYm134, hM⟩ := zl_x hM
          have hR135 : zRx [] 0 Z Ym134 := zRx_o hRb hYm134 rfl
          have hV136 : zV Ym134 := zV_o hV hYm134 rfl
          have hG137 := yFr_o hG hYm134 rfl (.inr rfl) rfl
          have th9 := (zu_at hYm134)
          obtain rfl : C = _ := hC
          obtain rfl : M = _ := hM
          exact ⟨zRx_1 hR135, hV136, ⟨Z, _, .inl ⟨rfl, yFr_w hG137 (by decide)⟩, zFc_r, yFr_r⟩, zThr_e th9 (by decide)⟩
        · rcases zE_c hM with ⟨h138, hM⟩ | ⟨h138, hM⟩
          · obtain ⟨Ym139, hYm139, hM⟩ := zl_x hM
            have hR140 : zRx [] 0 Z Ym139 := zRx_o hRb hYm139 rfl
            have hV141 : zV Ym139 := zV_o hV hYm139 rfl
            have hG142 := yFr_o hG hYm139 rfl (.inr rfl) rfl
            have th9 := (zu_at hYm139)
            obtain rfl : C = _ := hC
            obtain rfl : M = _ := hM
            exact ⟨zRx_1 hR140, hV141, ⟨Z, _, .inl ⟨rfl, yFr_w hG142 (by decide)⟩, zFc_r, yFr_r⟩, zThr_e th9 (by decide)⟩
          · rcases zE_c hM with ⟨h143, hM⟩ | ⟨h143, hM⟩
            · obtain ⟨Ym144, hYm144, hM⟩ := zl_x hM
              have hR145 : zRx [] 0 Z Ym144 := zRx_o hRb hYm144 rfl
              have hV146 : zV Ym144 := zV_o hV hYm144 rfl
              have hG147 := yFr_o hG hYm144 rfl (.inr rfl) rfl
              have th9 := (zu_at hYm144)
              obtain rfl : C = _ := hC
              obtain rfl : M = _ := hM
              exact ⟨zRx_1 hR145, hV146, ⟨Z, _, .inl ⟨rfl, yFr_w hG147 (by decide)⟩, zFc_r, yFr_r⟩, zThr_e th9 (by decide)⟩
            · rcases zE_c hM with ⟨h148, hM⟩ | ⟨h148, hM⟩
              · obtain ⟨Ym149, hYm149, hM⟩ := zl_x hM
                have hR150 : zRx [] 0 Z Ym149 := zRx_o hRb hYm149 rfl
                have hV151 : zV Ym149 := zV_o hV hYm149 rfl
                have hG152 := yFr_o hG hYm149 rfl (.inr rfl) rfl
                have th9 := (zu_at hYm149)
                obtain rfl : C = _ := hC
                obtain rfl : M = _ := hM
                exact ⟨zRx_1 hR150, hV151, ⟨Z, _, .inl ⟨rfl, yFr_w hG152 (by decide)⟩, zFc_r, yFr_r⟩, zThr_e th9 (by decide)⟩
              · rcases zE_c hM with ⟨h153, hM⟩ | ⟨h153, hM⟩
                · obtain ⟨Ym154, hYm154, hM⟩ := zl_x hM
                  have hR155 : zRx [] 0 Z Ym154 := zRx_o hRb hYm154 rfl
                  have hV156 : zV Ym154 := zV_o hV hYm154 rfl
                  have hG157 := yFr_o hG hYm154 rfl (.inr rfl) rfl
                  have th9 := (zu_at hYm154)
                  obtain rfl : C = _ := hC
                  obtain rfl : M = _ := hM
                  exact ⟨zRx_1 hR155, hV156, ⟨Z, _, .inl ⟨rfl, yFr_w hG157 (by decide)⟩, zFc_r, yFr_r⟩, zThr_e th9 (by decide)⟩
                · rcases zE_c hM with ⟨h158, hM⟩ | ⟨h158, hM⟩
                  · obtain ⟨Ym159, hYm159, hM⟩ := zl_x hM
                    have hR160 : zRx [] 0 Z Ym159 := zRx_o hRb hYm159 rfl
                    have hV161 : zV Ym159 := zV_o hV hYm159 rfl
                    have hG162 := yFr_o hG hYm159 rfl (.inr rfl) rfl
                    have th9 := (zu_at hYm159)
                    obtain rfl : C = _ := hC
                    obtain rfl : M = _ := hM
                    exact ⟨zRx_1 hR160, hV161, ⟨Z, _, .inl ⟨rfl, yFr_w hG162 (by decide)⟩, zFc_r, yFr_r⟩, zThr_e th9 (by decide)⟩
                  · obtain ⟨Ym163, hYm163, hM⟩ := zl_x hM
                    have hR164 : zRx [] 0 Z Ym163 := zRx_o hRb hYm163 rfl
                    have hV165 : zV Ym163 := zV_o hV hYm163 rfl
                    have hG166 := yFr_o hG hYm163 rfl (.inr rfl) rfl
                    have q167 := zhd (zVr_11_0 (a := 100) hV (by omega))
                    have q168 := zhd ((zu_ne (k' := 2) (b' := 0) (i' := 0) (j' := 100) hYm163 (fun q => absurd q.1 (by decide))))
                    rcases zE_c hM with ⟨h169, hM⟩ | ⟨h169, hM⟩
                    · obtain ⟨Ym170, hYm170, hM⟩ := zl_x hM
                      have hR171 : zRx [] 0 Z Ym170 := zRx_o hR164 hYm170 rfl
                      have hV172 : zV Ym170 := zV_o hV165 hYm170 rfl
                      have hG173 := yFr_o hG166 hYm170 rfl (.inr rfl) rfl
                      exact False.elim (by have q167 := zhx q167; have q168 := zhx q168; first | omega | grind)
                    · obtain ⟨Ym174, hYm174, hM⟩ := zl_x hM
                      have hR175 : zRx [] 0 Z Ym174 := zRx_o hR164 hYm174 rfl
                      have hV176 : zV Ym174 := zV_o hV165 hYm174 rfl
                      have hG177 := yFr_o hG166 hYm174 rfl (.inr rfl) rfl
                      exact False.elim (by have q167 := zhx q167; have q168 := zhx q168; first | omega | grind)
    · replace hM := zE_n hM (by omega)
      replace hM := zE_n hM (by omega)
      rcases zE_c hM with ⟨h178, hM⟩ | ⟨h178, hM⟩
      · obtain ⟨Ym179, hYm179, hM⟩ := zl_x hM
        have hR180 : zRx [] 0 Z Ym179 := zRx_o hRb hYm179 rfl
        have hV181 : zV Ym179 := zV_o hV hYm179 rfl
        have hG182 := yFr_o hG hYm179 rfl (.inr rfl) rfl
        have th9 := (zu_at hYm179)
        obtain rfl : C = _ := hC
        obtain rfl : M = _ := hM
        exact ⟨zRx_1 hR180, hV181, ⟨Z, _, .inl ⟨rfl, yFr_w hG182 (by decide)⟩, zFc_r, yFr_r⟩, zThr_e th9 (by decide)⟩
      · rcases zE_c hM with ⟨h183, hM⟩ | ⟨h183, hM⟩
        · obtain ⟨Ym184, hYm184, hM⟩ := zl_x hM
          have hR185 : zRx [] 0 Z Ym184 := zRx_o hRb hYm184 rfl
          have hV186 : zV Ym184 := zV_o hV hYm184 rfl
          have hG187 := yFr_o hG hYm184 rfl (.inr rfl) rfl
          have th9 := (zu_at hYm184)
          obtain rfl : C = _ := hC
          obtain rfl : M = _ := hM
          exact ⟨zRx_1 hR185, hV186, ⟨Z, _, .inl ⟨rfl, yFr_w hG187 (by decide)⟩, zFc_r, yFr_r⟩, zThr_e th9 (by decide)⟩
        · rcases zE_c hM with ⟨h188, hM⟩ | ⟨h188, hM⟩
          · obtain ⟨Ym189, hYm189, hM⟩ := zl_x hM
            have hR190 : zRx [] 0 Z Ym189 := zRx_o hRb hYm189 rfl
            have hV191 : zV Ym189 := zV_o hV hYm189 rfl
            have hG192 := yFr_o hG hYm189 rfl (.inr rfl) rfl
            have th9 := (zu_at hYm189)
            obtain rfl : C = _ := hC
            obtain rfl : M = _ := hM
            exact ⟨zRx_1 hR190, hV191, ⟨Z, _, .inl ⟨rfl, yFr_w hG192 (by decide)⟩, zFc_r, yFr_r⟩, zThr_e th9 (by decide)⟩
          · rcases zE_c hM with ⟨h193, hM⟩ | ⟨h193, hM⟩
            · obtain ⟨Ym194, hYm194, hM⟩ := zl_x hM
              have hR195 : zRx [] 0 Z Ym194 := zRx_o hRb hYm194 rfl
              have hV196 : zV Ym194 := zV_o hV hYm194 rfl
              have hG197 := yFr_o hG hYm194 rfl (.inr rfl) rfl
              have th9 := (zu_at hYm194)
              obtain rfl : C = _ := hC
              obtain rfl : M = _ := hM
              exact ⟨zRx_1 hR195, hV196, ⟨Z, _, .inl ⟨rfl, yFr_w hG197 (by decide)⟩, zFc_r, yFr_r⟩, zThr_e th9 (by decide)⟩
            · rcases zE_c hM with ⟨h198, hM⟩ | ⟨h198, hM⟩
              · obtain ⟨Ym199, hYm199, hM⟩ := zl_x hM
                have hR200 : zRx [] 0 Z Ym199 := zRx_o hRb hYm199 rfl
                have hV201 : zV Ym199 := zV_o hV hYm199 rfl
                have hG202 := yFr_o hG hYm199 rfl (.inr rfl) rfl
                have th9 := (zu_at hYm199)
                obtain rfl : C = _ := hC
                obtain rfl : M = _ := hM
                exact ⟨zRx_1 hR200, hV201, ⟨Z, _, .inl ⟨rfl, yFr_w hG202 (by decide)⟩, zFc_r, yFr_r⟩, zThr_e th9 (by decide)⟩
              · rcases zE_c hM with ⟨h203, hM⟩ | ⟨h203, hM⟩
                · obtain ⟨Ym204, hYm204, hM⟩ := zl_x hM
                  have hR205 : zRx [] 0 Z Ym204 := zRx_o hRb hYm204 rfl
                  have hV206 : zV Ym204 := zV_o hV hYm204 rfl
                  have hG207 := yFr_o hG hYm204 rfl (.inr rfl) rfl
                  have th9 := (zu_at hYm204)
                  obtain rfl : C = _ := hC
                  obtain rfl : M = _ := hM
                  exact ⟨zRx_1 hR205, hV206, ⟨Z, _, .inl ⟨rfl, yFr_w hG207 (by decide)⟩, zFc_r, yFr_r⟩, zThr_e th9 (by decide)⟩
                · rcases zE_c hM with ⟨h208, hM⟩ | ⟨h208, hM⟩
                  · obtain ⟨Ym209, hYm209, hM⟩ := zl_x hM
                    have hR210 : zRx [] 0 Z Ym209 := zRx_o hRb hYm209 rfl
                    have hV211 : zV Ym209 := zV_o hV hYm209 rfl
                    have hG212 := yFr_o hG hYm209 rfl (.inr rfl) rfl
                    have th9 := (zu_at hYm209)
                    obtain rfl : C = _ := hC
                    obtain rfl : M = _ := hM
                    exact ⟨zRx_1 hR210, hV211, ⟨Z, _, .inl ⟨rfl, yFr_w hG212 (by decide)⟩, zFc_r, yFr_r⟩, zThr_e th9 (by decide)⟩
                  · rcases zE_c hM with ⟨h213, hM⟩ | ⟨h213, hM⟩
                    · obtain ⟨Ym214, hYm214, hM⟩ := zl_x hM
                      have hR215 : zRx [] 0 Z Ym214 := zRx_o hRb hYm214 rfl
                      have hV216 : zV Ym214 := zV_o hV hYm214 rfl
                      have hG217 := yFr_o hG hYm214 rfl (.inr rfl) rfl
                      have th9 := (zu_at hYm214)
                      obtain rfl : C = _ := hC
                      obtain rfl : M = _ := hM
                      exact ⟨zRx_1 hR215, hV216, ⟨Z, _, .inl ⟨rfl, yFr_w hG217 (by decide)⟩, zFc_r, yFr_r⟩, zThr_e th9 (by decide)⟩
                    · obtain ⟨Ym218, hYm218, hM⟩ := zl_x hM
                      have hR219 : zRx [] 0 Z Ym218 := zRx_o hRb hYm218 rfl
                      have hV220 : zV Ym218 := zV_o hV hYm218 rfl
                      have hG221 := yFr_o hG hYm218 rfl (.inr rfl) rfl
                      have q222 := zhd (zVr_11_0 (a := 100) hV (by omega))
                      have q223 := zhd ((zu_ne (k' := 2) (b' := 0) (i' := 0) (j' := 100) hYm218 (fun q => absurd q.1 (by decide))))
                      rcases zE_c hM with ⟨h224, hM⟩ | ⟨h224, hM⟩
                      · obtain ⟨Ym225, hYm225, hM⟩ := zl_x hM
                        have hR226 : zRx [] 0 Z Ym225 := zRx_o hR219 hYm225 rfl
                        have hV227 : zV Ym225 := zV_o hV220 hYm225 rfl
                        have hG228 := yFr_o hG221 hYm225 rfl (.inr rfl) rfl
                        exact False.elim (by have q222 := zhx q222; have q223 := zhx q223; first | omega | grind)
                      · obtain ⟨Ym229, hYm229, hM⟩ := zl_x hM
                        have hR230 : zRx [] 0 Z Ym229 := zRx_o hR219 hYm229 rfl
                        have hV231 : zV Ym229 := zV_o hV220 hYm229 rfl
                        have hG232 := yFr_o hG221 hYm229 rfl (.inr rfl) rfl
                        exact False.elim (by have q222 := zhx q222; have q223 := zhx q223; first | omega | grind)
  · rcases zE_c hM with ⟨h233, hM⟩ | ⟨h233, hM⟩
    · obtain ⟨Ym234, hYm234, hM⟩ := zl_x hM
      have hR235 : zRx [] 0 Z Ym234 := zRx_o hRb hYm234 rfl
      have hV236 : zV Ym234 := zV_o hV hYm234 rfl
      have hG237 := yFr_o hG hYm234 rfl (.inr rfl) rfl
      have th9 := (zu_at hYm234)
      obtain rfl : C = _ := hC
      obtain rfl : M = _ := hM
      exact ⟨zRx_1 hR235, hV236, ⟨Z, _, .inl ⟨rfl, yFr_w hG237 (by decide)⟩, zFc_r, yFr_r⟩, zThr_e th9 (by decide)⟩
    · rcases zE_c hM with ⟨h238, hM⟩ | ⟨h238, hM⟩
      · obtain ⟨Ym239, hYm239, hM⟩ := zl_x hM
        have hR240 : zRx [] 0 Z Ym239 := zRx_o hRb hYm239 rfl
        have hV241 : zV Ym239 := zV_o hV hYm239 rfl
        have hG242 := yFr_o hG hYm239 rfl (.inr rfl) rfl
        have th9 := (zu_at hYm239)
        obtain rfl : C = _ := hC
        obtain rfl : M = _ := hM
        exact ⟨zRx_1 hR240, hV241, ⟨Z, _, .inl ⟨rfl, yFr_w hG242 (by decide)⟩, zFc_r, yFr_r⟩, zThr_e th9 (by decide)⟩
      · rcases zE_c hM with ⟨h243, hM⟩ | ⟨h243, hM⟩
        · obtain ⟨Ym244, hYm244, hM⟩ := zl_x hM
          have hR245 : zRx [] 0 Z Ym244 := zRx_o hRb hYm244 rfl
          have hV246 : zV Ym244 := zV_o hV hYm244 rfl
          have hG247 := yFr_o hG hYm244 rfl (.inr rfl) rfl
          have th9 := (zu_at hYm244)
          obtain rfl : C = _ := hC
          obtain rfl : M = _ := hM
          exact ⟨zRx_1 hR245, hV246, ⟨Z, _, .inl ⟨rfl, yFr_w hG247 (by decide)⟩, zFc_r, yFr_r⟩, zThr_e th9 (by decide)⟩
        · rcases zE_c hM with ⟨h248, hM⟩ | ⟨h248, hM⟩
          · obtain ⟨Ym249, hYm249, hM⟩ := zl_x hM
            have hR250 : zRx [] 0 Z Ym249 := zRx_o hRb hYm249 rfl
            have hV251 : zV Ym249 := zV_o hV hYm249 rfl
            have hG252 := yFr_o hG hYm249 rfl (.inr rfl) rfl
            have th9 := (zu_at hYm249)
            obtain rfl : C = _ := hC
            obtain rfl : M = _ := hM
            exact ⟨zRx_1 hR250, hV251, ⟨Z, _, .inl ⟨rfl, yFr_w hG252 (by decide)⟩, zFc_r, yFr_r⟩, zThr_e th9 (by decide)⟩
          · rcases zE_c hM with ⟨h253, hM⟩ | ⟨h253, hM⟩
            · obtain ⟨Ym254, hYm254, hM⟩ := zl_x hM
              have hR255 : zRx [] 0 Z Ym254 := zRx_o hRb hYm254 rfl
              have hV256 : zV Ym254 := zV_o hV hYm254 rfl
              have hG257 := yFr_o hG hYm254 rfl (.inr rfl) rfl
              have th9 := (zu_at hYm254)
              obtain rfl : C = _ := hC
              obtain rfl : M = _ := hM
              exact ⟨zRx_1 hR255, hV256, ⟨Z, _, .inl ⟨rfl, yFr_w hG257 (by decide)⟩, zFc_r, yFr_r⟩, zThr_e th9 (by decide)⟩
            · rcases zE_c hM with ⟨h258, hM⟩ | ⟨h258, hM⟩
              · obtain ⟨Ym259, hYm259, hM⟩ := zl_x hM
                have hR260 : zRx [] 0 Z Ym259 := zRx_o hRb hYm259 rfl
                have hV261 : zV Ym259 := zV_o hV hYm259 rfl
                have hG262 := yFr_o hG hYm259 rfl (.inr rfl) rfl
                have th9 := (zu_at hYm259)
                obtain rfl : C = _ := hC
                obtain rfl : M = _ := hM
                exact ⟨zRx_1 hR260, hV261, ⟨Z, _, .inl ⟨rfl, yFr_w hG262 (by decide)⟩, zFc_r, yFr_r⟩, zThr_e th9 (by decide)⟩
              · rcases zE_c hM with ⟨h263, hM⟩ | ⟨h263, hM⟩
                · obtain ⟨Ym264, hYm264, hM⟩ := zl_x hM
                  have hR265 : zRx [] 0 Z Ym264 := zRx_o hRb hYm264 rfl
                  have hV266 : zV Ym264 := zV_o hV hYm264 rfl
                  have hG267 := yFr_o hG hYm264 rfl (.inr rfl) rfl
                  have th9 := (zu_at hYm264)
                  obtain rfl : C = _ := hC
                  obtain rfl : M = _ := hM
                  exact ⟨zRx_1 hR265, hV266, ⟨Z, _, .inl ⟨rfl, yFr_w hG267 (by decide)⟩, zFc_r, yFr_r⟩, zThr_e th9 (by decide)⟩
                · rcases zE_c hM with ⟨h268, hM⟩ | ⟨h268, hM⟩
                  · obtain ⟨Ym269, hYm269, hM⟩ := zl_x hM
                    have hR270 : zRx [] 0 Z Ym269 := zRx_o hRb hYm269 rfl
                    have hV271 : zV Ym269 := zV_o hV hYm269 rfl
                    have hG272 := yFr_o hG hYm269 rfl (.inr rfl) rfl
                    have th9 := (zu_at hYm269)
                    obtain rfl : C = _ := hC
                    obtain rfl : M = _ := hM
                    exact ⟨zRx_1 hR270, hV271, ⟨Z, _, .inl ⟨rfl, yFr_w hG272 (by decide)⟩, zFc_r, yFr_r⟩, zThr_e th9 (by decide)⟩
                  · rcases zE_c hM with ⟨h273, hM⟩ | ⟨h273, hM⟩
                    · obtain ⟨Ym274, hYm274, hM⟩ := zl_x hM
                      have hR275 : zRx [] 0 Z Ym274 := zRx_o hRb hYm274 rfl
                      have hV276 : zV Ym274 := zV_o hV hYm274 rfl
                      have hG277 := yFr_o hG hYm274 rfl (.inr rfl) rfl
                      have th9 := (zu_at hYm274)
                      obtain rfl : C = _ := hC
                      obtain rfl : M = _ := hM
                      exact ⟨zRx_1 hR275, hV276, ⟨Z, _, .inl ⟨rfl, yFr_w hG277 (by decide)⟩, zFc_r, yFr_r⟩, zThr_e th9 (by decide)⟩
                    · rcases zE_c hM with ⟨h278, hM⟩ | ⟨h278, hM⟩
                      · obtain ⟨Ym279, hYm279, hM⟩ := zl_x hM
                        have hR280 : zRx [] 0 Z Ym279 := zRx_o hRb hYm279 rfl
                        have hV281 : zV Ym279 := zV_o hV hYm279 rfl
                        have hG282 := yFr_o hG hYm279 rfl (.inr rfl) rfl
                        have th9 := (zu_at hYm279)
                        obtain rfl : C = _ := hC
                        obtain rfl : M = _ := hM
                        exact ⟨zRx_1 hR280, hV281, ⟨Z, _, .inl ⟨rfl, yFr_w hG282 (by decide)⟩, zFc_r, yFr_r⟩, zThr_e th9 (by decide)⟩
                      · obtain ⟨Ym283, hYm283, hM⟩ := zl_x hM
                        have hR284 : zRx [] 0 Z Ym283 := zRx_o hRb hYm283 rfl
                        have hV285 : zV Ym283 := zV_o hV hYm283 rfl
                        have hG286 := yFr_o hG hYm283 rfl (.inr rfl) rfl
                        have q287 := zhd (zVr_11_0 (a := 100) hV (by omega))
                        have q288 := zhd ((zu_ne (k' := 2) (b' := 0) (i' := 0) (j' := 100) hYm283 (fun q => absurd q.1 (by decide))))
                        rcases zE_c hM with ⟨h289, hM⟩ | ⟨h289, hM⟩
                        · obtain ⟨Ym290, hYm290, hM⟩ := zl_x hM
                          have hR291 : zRx [] 0 Z Ym290 := zRx_o hR284 hYm290 rfl
                          have hV292 : zV Ym290 := zV_o hV285 hYm290 rfl
                          have hG293 := yFr_o hG286 hYm290 rfl (.inr rfl) rfl
                          exact False.elim (by have q287 := zhx q287; have q288 := zhx q288; first | omega | grind)
                        · obtain ⟨Ym294, hYm294, hM⟩ := zl_x hM
                          have hR295 : zRx [] 0 Z Ym294 := zRx_o hR284 hYm294 rfl
                          have hV296 : zV Ym294 := zV_o hV285 hYm294 rfl
                          have hG297 := yFr_o hG286 hYm294 rfl (.inr rfl) rfl
                          exact False.elim (by have q287 := zhx q287; have q288 := zhx q288; first | omega | grind)

/- face grower -/
theorem rf_grower {Z Y : qz_Z} {dm : qz_Z → Int → Int → Int → Int → Int → Int → Int → qz_Z} {a1 a2 : Int} (hRa : zR 0 Z Y) (hV : zV Y) (hI : zI none Z) (hd : zDf dm)   {C : qz_Z × Int × Int} {M : qz_Z × Int} (hC : zE C (zx_204 Z a1 a2)) (hM : zE M (zy_347 Y dm a1 a2)) : zR 0 C.1 M.1 ∧ zV M.1 ∧ zDd [1101, 4200, 4201] [1101, 4200, 4201, 99999] Z Y dm C.1 M.1 ∧ zThr [(13, 1), (15, 2)] C.2 (M.1 1 0 0 2) M.2 := by
  have hRb := zRx_0 hRa
  have hF : zFc [] 0 Z Z := zFc_r
  have hG : yFr [99999] Y Y := yFr_r
  unfold zx_204 at hC
  unfold zy_347 at hM
  rcases zE_c hC with ⟨h1, hC⟩ | ⟨h1, hC⟩
  · rcases zE_c hC with ⟨h2, hC⟩ | ⟨h2, hC⟩
    · have q3 := zhd (zVr_11_1 (a := 101) hV (by omega))
      have q4 := zhd ((zRl_11_1 (a := 101) hRa (by omega)))
      rcases zE_c hC with ⟨h5, hC⟩ | ⟨h5, hC⟩
      · replace hM := zE_n hM (by first | (have q3 := zhx q3; have q4 := zhx q4; omega) | (simp only [zhx q3, zhx q4] at h1 h2 h5 ⊢ <;> omega))
        replace hM := zE_n hM (by first | (have q3 := zhx q3; have q4 := zhx q4; omega) | (simp only [zhx q3, zhx q4] at h1 h2 h5 ⊢ <;> omega))
        replace hM := zE_n hM (by first | (have q3 := zhx q3; have q4 := zhx q4; omega) | (simp only [zhx q3, zhx q4] at h1 h2 h5 ⊢ <;> omega))
        replace hM := zE_n hM (by first | (have q3 := zhx q3; have q4 := zhx q4; omega) | (simp only [zhx q3, zhx q4] at h1 h2 h5 ⊢ <;> omega))
        obtain ⟨Ym6, hYm6, hM⟩ := zl_x hM
        have hR7 : zRx [] 0 Z Ym6 := zRx_o hRb hYm6 rfl
        have hV8 : zV Ym6 := zV_o hV hYm6 rfl
        have hG9 := yFr_o hG hYm6 rfl (.inr rfl) rfl
        have q10 := zhd ((zu_ne (k' := 2) (b' := 0) (i' := 0) (j' := 101) hYm6 (fun q => absurd q.1 (by decide))))
        replace hM := zE_p hM (by first | (have q3 := zhx q3; have q4 := zhx q4; have q10 := zhx q10; omega) | (simp only [zhx q3, zhx q4, zhx q10] at h1 h2 h5 ⊢ <;> omega))
        obtain ⟨Ym11, hYm11, hM⟩ := zl_x hM
        have hR12 : zRx [] 0 Z Ym11 := zRx_o hR7 hYm11 rfl
        have hV13 : zV Ym11 := zV_o hV8 hYm11 rfl
        have hG14 := yFr_o hG9 hYm11 rfl (.inr rfl) rfl
        have th9 := (zu_at hYm11)
        obtain rfl : C = _ := hC
        obtain rfl : M = _ := hM
        exact ⟨zRx_1 hR12, hV13, ⟨Z, _, .inl ⟨rfl, yFr_w hG14 (by decide)⟩, zFc_r, yFr_r⟩, zThr_e th9 (by decide)⟩
      · replace hM := zE_n hM (by first | (have q3 := zhx q3; have q4 := zhx q4; omega) | (simp only [zhx q3, zhx q4] at h1 h2 h5 ⊢ <;> omega))
        replace hM := zE_n hM (by first | (have q3 := zhx q3; have q4 := zhx q4; omega) | (simp only [zhx q3, zhx q4] at h1 h2 h5 ⊢ <;> omega))
        replace hM := zE_n hM (by first | (have q3 := zhx q3; have q4 := zhx q4; omega) | (simp only [zhx q3, zhx q4] at h1 h2 h5 ⊢ <;> omega))
        replace hM := zE_n hM (by first | (have q3 := zhx q3; have q4 := zhx q4; omega) | (simp only [zhx q3, zhx q4] at h1 h2 h5 ⊢ <;> omega))
        obtain ⟨Ym15, hYm15, hM⟩ := zl_x hM
        have hR16 : zRx [] 0 Z Ym15 := zRx_o hRb hYm15 rfl
        have hV17 : zV Ym15 := zV_o hV hYm15 rfl
        have hG18 := yFr_o hG hYm15 rfl (.inr rfl) rfl
        have q19 := zhd ((zu_ne (k' := 2) (b' := 0) (i' := 0) (j' := 101) hYm15 (fun q => absurd q.1 (by decide))))
        replace hM := zE_n hM (by first | (have q3 := zhx q3; have q4 := zhx q4; have q19 := zhx q19; omega) | (simp only [zhx q3, zhx q4, zhx q19] at h1 h2 h5 ⊢ <;> omega))
        obtain ⟨Ym20, hYm20, hM⟩ := zl_x hM
        have hR21 : zRx [] 0 Z Ym20 := zRx_o hR16 hYm20 rfl
        have hV22 : zV Ym20 := zV_o hV17 hYm20 rfl
        have hG23 := yFr_o hG18 hYm20 rfl (.inr rfl) rfl
        obtain ⟨Zc24, hZc24, hC⟩ := zl_x hC
        obtain ⟨Ym25, hYm25, hM⟩ := zl_x hM
        have hR26 : zRx [] 0 Zc24 Ym25 := zRx_dd hR21 hI hd hZc24 hYm25
        have hV27 : zV Ym25 := zV_dm hV22 hd hYm25
        have hF28 : zFc [1101, 4200, 4201] 0 Zc24 Zc24 := zFc_r
        have hG29 : yFr [1101, 4200, 4201] Ym25 Ym25 := yFr_r
        have q30 := zhd ((((yFa_dm hd hYm25 (101) rfl).trans (zu_ne (k' := 2) (b' := 0) (i' := 0) (j' := 101) hYm20 (fun q => absurd q.1 (by decide)))).trans (zhx q19)))
        have q31 := zhd (((zRl_11_1 (a := 101) (zRx_1 hR26) (by omega)).trans (zhx q30)))
        obtain ⟨Zc32, hZc32, hC⟩ := zl_x hC
        obtain ⟨Ym33, hYm33, hM⟩ := zl_x hM
        have hV34 : zV Ym33 := zV_n hV27 hYm33 (zvn_42_0 (x := (Y 2 0 0 101)) (by have q3 := zhx q3; have q4 := zhx q4; have q30 := zhx q30; omega) (by have q3 := zhx q3; have q4 := zhx q4; have q30 := zhx q30; omega) (by have q3 := zhx q3; have q4 := zhx q4; have q30 := zhx q30; omega))
        have hR35 : zRx [] 0 Zc32 Ym33 := zRx_w hR26 (ac_42_0 (by have q3 := zhx q3; have q4 := zhx q4; have q30 := zhx q30; have q31 := zhx q31; omega) (by have q3 := zhx q3; have q4 := zhx q4; have q30 := zhx q30; have q31 := zhx q31; omega) (by have q3 := zhx q3; have q4 := zhx q4; have q30 := zhx q30; have q31 := zhx q31; omega)) hZc32 hYm33 (by first | rfl | (omega) | (simp only [] <;> omega))
        have hF36 := zFc_u hF28 hZc32 rfl rfl
        have hG37 := yFr_u hG29 hYm33 (zcm_s (ac_42_0 (a := 140 + 2 * (Ym25 2 0 0 101)) (x := (Y 2 0 0 101)) (by have q3 := zhx q3; have q4 := zhx q4; have q30 := zhx q30; omega) (by have q3 := zhx q3; have q4 := zhx q4; have q30 := zhx q30; omega) (by have q3 := zhx q3; have q4 := zhx q4; have q30 := zhx q30; omega))) rfl
        obtain ⟨Zc38, hZc38, hC⟩ := zl_x hC
        obtain ⟨Ym39, hYm39, hM⟩ := zl_x hM
        have hV40 : zV Ym39 := zV_n hV34 hYm39 (zvn_42_1 (x := (Y 2 0 0 101)) (by have q3 := zhx q3; have q4 := zhx q4; have q30 := zhx q30; omega) (by have q3 := zhx q3; have q4 := zhx q4; have q30 := zhx q30; omega) (by have q3 := zhx q3; have q4 := zhx q4; have q30 := zhx q30; omega))
        have hR41 : zRx [] 0 Zc38 Ym39 := zRx_w hR35 (ac_42_1 (by have q3 := zhx q3; have q4 := zhx q4; have q30 := zhx q30; have q31 := zhx q31; omega) (by have q3 := zhx q3; have q4 := zhx q4; have q30 := zhx q30; have q31 := zhx q31; omega) (by have q3 := zhx q3; have q4 := zhx q4; have q30 := zhx q30; have q31 := zhx q31; omega)) hZc38 hYm39 (by first | rfl | (omega) | (simp only [] <;> omega))
        have hF42 := zFc_u hF36 hZc38 rfl rfl
        have hG43 := yFr_u hG37 hYm39 (zcm_s (ac_42_1 (a := 141 + 2 * (Ym25 2 0 0 101)) (x := (Y 2 0 0 101)) (by have q3 := zhx q3; have q4 := zhx q4; have q30 := zhx q30; omega) (by have q3 := zhx q3; have q4 := zhx q4; have q30 := zhx q30; omega) (by have q3 := zhx q3; have q4 := zhx q4; have q30 := zhx q30; omega))) rfl
        have q44 := zhd ((((zu_ne (k' := 2) (b' := 0) (i' := 0) (j' := 101) hYm39 (fun q => absurd q.2.2.2 (by have q3 := zhx q3; have q4 := zhx q4; have q30 := zhx q30; omega))).trans (zu_ne (k' := 2) (b' := 0) (i' := 0) (j' := 101) hYm33 (fun q => absurd q.2.2.2 (by have q3 := zhx q3; have q4 := zhx q4; have q30 := zhx q30; omega)))).trans (zhx q30)))
        have q45 := zhd (((zRl_11_1 (a := 101) (zRx_1 hR41) (by omega)).trans (zhx q44)))
        obtain ⟨Zc46, hZc46, hC⟩ := zl_x hC
        obtain ⟨Ym47, hYm47, hM⟩ := zl_x hM
        have hV48 : zV Ym47 := zV_i hV40 hYm47 (zvi_11_1 (by have q3 := zhx q3; have q4 := zhx q4; omega)) (by have q3 := zhx q3; have q4 := zhx q4; have q44 := zhx q44; first | omega | exact w3_r _)
        have hR49 : zRx [] 0 Zc46 Ym47 := zRx_w hR41 (ac_11_1 (by have q3 := zhx q3; have q4 := zhx q4; omega)) hZc46 hYm47 (by first | rfl | (have q3 := zhx q3; have q44 := zhx q44; have q45 := zhx q45; omega) | (simp only [zhx q3, zhx q44, zhx q45] <;> omega))
        have hF50 := zFc_u hF42 hZc46 rfl rfl
        have hG51 := yFr_u hG43 hYm47 (zcm_s (ac_11_1 (a := 101) (by have q3 := zhx q3; have q4 := zhx q4; omega))) rfl
        have th9 := (((((zu_ne (k' := 1) (b' := 0) (i' := 0) (j' := 2) hYm47 (fun q => absurd q.1 (by decide))).trans (zu_ne (k' := 1) (b' := 0) (i' := 0) (j' := 2) hYm39 (fun q => absurd q.1 (by decide)))).trans (zu_ne (k' := 1) (b' := 0) (i' := 0) (j' := 2) hYm33 (fun q => absurd q.1 (by decide)))).trans (zTh_dm hd hYm25 (by decide))).trans (zu_at hYm20))
        obtain rfl : C = _ := hC
        obtain rfl : M = _ := hM
        exact ⟨zRx_1 hR49, hV48, ⟨Zc24, Ym25, .inr ⟨1, a1, a2, 0, 0, 0, 0, 2, Ym20, hZc24, yFr_w hG23 (by decide), hYm25, (by unfold zcode; omega)⟩, zFc_w hF50 (by decide), yFr_w hG51 (by decide)⟩, zThr_a th9 (by first | rfl | (have q3 := zhx q3; have q4 := zhx q4; have q30 := zhx q30; have q45 := zhx q45; omega) | (simp only [zhx q3, zhx q4, zhx q30, zhx q45] <;> omega) | (have q3 := zhx q3; have q4 := zhx q4; have q30 := zhx q30; have q45 := zhx q45; refine w3z ?_ ?_ ?_ <;> omega) | (have q3 := zhx q3; have q4 := zhx q4; have q30 := zhx q30; have q45 := zhx q45; refine w3y ?_ ?_ ?_ <;> omega) | (have q3 := zhx q3; have q4 := zhx q4; have q30 := zhx q30; have q45 := zhx q45; refine z2o ?_ ?_ ?_ <;> omega))⟩
    · replace hM := zE_n hM (by omega)
      replace hM := zE_n hM (by omega)
      rcases zE_c hM with ⟨h52, hM⟩ | ⟨h52, hM⟩
      · obtain ⟨Ym53, hYm53, hM⟩ := zl_x hM
        have hR54 : zRx [] 0 Z Ym53 := zRx_o hRb hYm53 rfl
        have hV55 : zV Ym53 := zV_o hV hYm53 rfl
        have hG56 := yFr_o hG hYm53 rfl (.inr rfl) rfl
        have th9 := (zu_at hYm53)
        obtain rfl : C = _ := hC
        obtain rfl : M = _ := hM
        exact ⟨zRx_1 hR54, hV55, ⟨Z, _, .inl ⟨rfl, yFr_w hG56 (by decide)⟩, zFc_r, yFr_r⟩, zThr_e th9 (by decide)⟩
      · rcases zE_c hM with ⟨h57, hM⟩ | ⟨h57, hM⟩
        · obtain ⟨Ym58, hYm58, hM⟩ := zl_x hM
          have hR59 : zRx [] 0 Z Ym58 := zRx_o hRb hYm58 rfl
          have hV60 : zV Ym58 := zV_o hV hYm58 rfl
          have hG61 := yFr_o hG hYm58 rfl (.inr rfl) rfl
          have th9 := (zu_at hYm58)
          obtain rfl : C = _ := hC
          obtain rfl : M = _ := hM
          exact ⟨zRx_1 hR59, hV60, ⟨Z, _, .inl ⟨rfl, yFr_w hG61 (by decide)⟩, zFc_r, yFr_r⟩, zThr_e th9 (by decide)⟩
        · obtain ⟨Ym62, hYm62, hM⟩ := zl_x hM
          have hR63 : zRx [] 0 Z Ym62 := zRx_o hRb hYm62 rfl
          have hV64 : zV Ym62 := zV_o hV hYm62 rfl
          have hG65 := yFr_o hG hYm62 rfl (.inr rfl) rfl
          have q66 := zhd (zVr_11_1 (a := 101) hV (by omega))
          have q67 := zhd ((zu_ne (k' := 2) (b' := 0) (i' := 0) (j' := 101) hYm62 (fun q => absurd q.1 (by decide))))
          rcases zE_c hM with ⟨h68, hM⟩ | ⟨h68, hM⟩
          · obtain ⟨Ym69, hYm69, hM⟩ := zl_x hM
            have hR70 : zRx [] 0 Z Ym69 := zRx_o hR63 hYm69 rfl
            have hV71 : zV Ym69 := zV_o hV64 hYm69 rfl
            have hG72 := yFr_o hG65 hYm69 rfl (.inr rfl) rfl
            exact False.elim (by have q66 := zhx q66; have q67 := zhx q67; first | omega | grind)
          · obtain ⟨Ym73, hYm73, hM⟩ := zl_x hM
            have hR74 : zRx [] 0 Z Ym73 := zRx_o hR63 hYm73 rfl
            have hV75 : zV Ym73 := zV_o hV64 hYm73 rfl
            have hG76 := yFr_o hG65 hYm73 rfl (.inr rfl) rfl
            exact False.elim (by have q66 := zhx q66; have q67 := zhx q67; first | omega | grind)
  · rcases zE_c hM with ⟨h77, hM⟩ | ⟨h77, hM⟩
    · obtain ⟨Ym78, hYm78, hM⟩ := zl_x hM
      have hR79 : zRx [] 0 Z Ym78 := zRx_o hRb hYm78 rfl
      have hV80 : zV Ym78 := zV_o hV hYm78 rfl
      have hG81 := yFr_o hG hYm78 rfl (.inr rfl) rfl
      have th9 := (zu_at hYm78)
      obtain rfl : C = _ := hC
      obtain rfl : M = _ := hM
      exact ⟨zRx_1 hR79, hV80, ⟨Z, _, .inl ⟨rfl, yFr_w hG81 (by decide)⟩, zFc_r, yFr_r⟩, zThr_e th9 (by decide)⟩
    · rcases zE_c hM with ⟨h82, hM⟩ | ⟨h82, hM⟩
      · obtain ⟨Ym83, hYm83, hM⟩ := zl_x hM
        have hR84 : zRx [] 0 Z Ym83 := zRx_o hRb hYm83 rfl
        have hV85 : zV Ym83 := zV_o hV hYm83 rfl
        have hG86 := yFr_o hG hYm83 rfl (.inr rfl) rfl
        have th9 := (zu_at hYm83)
        obtain rfl : C = _ := hC
        obtain rfl : M = _ := hM
        exact ⟨zRx_1 hR84, hV85, ⟨Z, _, .inl ⟨rfl, yFr_w hG86 (by decide)⟩, zFc_r, yFr_r⟩, zThr_e th9 (by decide)⟩
      · rcases zE_c hM with ⟨h87, hM⟩ | ⟨h87, hM⟩
        · obtain ⟨Ym88, hYm88, hM⟩ := zl_x hM
          have hR89 : zRx [] 0 Z Ym88 := zRx_o hRb hYm88 rfl
          have hV90 : zV Ym88 := zV_o hV hYm88 rfl
          have hG91 := yFr_o hG hYm88 rfl (.inr rfl) rfl
          have th9 := (zu_at hYm88)
          obtain rfl : C = _ := hC
          obtain rfl : M = _ := hM
          exact ⟨zRx_1 hR89, hV90, ⟨Z, _, .inl ⟨rfl, yFr_w hG91 (by decide)⟩, zFc_r, yFr_r⟩, zThr_e th9 (by decide)⟩
        · rcases zE_c hM with ⟨h92, hM⟩ | ⟨h92, hM⟩
          · obtain ⟨Ym93, hYm93, hM⟩ := zl_x hM
            have hR94 : zRx [] 0 Z Ym93 := zRx_o hRb hYm93 rfl
            have hV95 : zV Ym93 := zV_o hV hYm93 rfl
            have hG96 := yFr_o hG hYm93 rfl (.inr rfl) rfl
            have th9 := (zu_at hYm93)
            obtain rfl : C = _ := hC
            obtain rfl : M = _ := hM
            exact ⟨zRx_1 hR94, hV95, ⟨Z, _, .inl ⟨rfl, yFr_w hG96 (by decide)⟩, zFc_r, yFr_r⟩, zThr_e th9 (by decide)⟩
          · obtain ⟨Ym97, hYm97, hM⟩ := zl_x hM
            have hR98 : zRx [] 0 Z Ym97 := zRx_o hRb hYm97 rfl
            have hV99 : zV Ym97 := zV_o hV hYm97 rfl
            have hG100 := yFr_o hG hYm97 rfl (.inr rfl) rfl
            have q101 := zhd (zVr_11_1 (a := 101) hV (by omega))
            have q102 := zhd ((zu_ne (k' := 2) (b' := 0) (i' := 0) (j' := 101) hYm97 (fun q => absurd q.1 (by decide))))
            rcases zE_c hM with ⟨h103, hM⟩ | ⟨h103, hM⟩
            · obtain ⟨Ym104, hYm104, hM⟩ := zl_x hM
              have hR105 : zRx [] 0 Z Ym104 := zRx_o hR98 hYm104 rfl
              have hV106 : zV Ym104 := zV_o hV99 hYm104 rfl
              have hG107 := yFr_o hG100 hYm104 rfl (.inr rfl) rfl
              exact False.elim (by have q101 := zhx q101; have q102 := zhx q102; first | omega | grind)
            · obtain ⟨Ym108, hYm108, hM⟩ := zl_x hM
              have hR109 : zRx [] 0 Z Ym108 := zRx_o hR98 hYm108 rfl
              have hV110 : zV Ym108 := zV_o hV99 hYm108 rfl
              have hG111 := yFr_o hG100 hYm108 rfl (.inr rfl) rfl
              exact False.elim (by have q101 := zhx q101; have q102 := zhx q102; first | omega | grind)

/- face buyer -/
theorem rf_buyer {Z Y : qz_Z} {dm : qz_Z → Int → Int → Int → Int → Int → Int → Int → qz_Z} {a1 a2 a3 : Int} (hRa : zR 0 Z Y) (hV : zV Y) (hI : zI none Z) (hd : zDf dm)   {C : qz_Z × Int × Int} {M : qz_Z × Int} (hC : zE C (zx_191 Z a1 a2 a3)) (hM : zE M (zy_295 Y dm a1 a2 a3)) : zR 0 C.1 M.1 ∧ zV M.1 ∧ zDd [1104, 4500, 4501, 4502] [1104, 4500, 4501, 4502, 99999] Z Y dm C.1 M.1 ∧ zThr [(24, 1), (13, 2), (15, 3)] C.2 (M.1 1 0 0 2) M.2 := by
  have hRb := zRx_0 hRa
  have hF : zFc [] 0 Z Z := zFc_r
  have hG : yFr [99999] Y Y := yFr_r
  unfold zx_191 at hC
  unfold zy_295 at hM
  rcases zE_c hC with ⟨h1, hC⟩ | ⟨h1, hC⟩
  · rcases zE_c hC with ⟨h2, hC⟩ | ⟨h2, hC⟩
    · rcases zE_c hC with ⟨h3, hC⟩ | ⟨h3, hC⟩
      · have q4 := zhd (zVr_11_4 (a := 1400) hV (by omega))
        have q5 := zhd ((zRl_11_4 (a := 1400) hRa (by omega)))
        rcases zE_c hC with ⟨h6, hC⟩ | ⟨h6, hC⟩
        · replace hM := zE_n hM (by first | (have q4 := zhx q4; have q5 := zhx q5; omega) | (simp only [zhx q4, zhx q5] at h1 h2 h3 h6 ⊢ <;> omega))
          replace hM := zE_n hM (by first | (have q4 := zhx q4; have q5 := zhx q5; omega) | (simp only [zhx q4, zhx q5] at h1 h2 h3 h6 ⊢ <;> omega))
          obtain ⟨Ym7, hYm7, hM⟩ := zl_x hM
          have hR8 : zRx [] 0 Z Ym7 := zRx_o hRb hYm7 rfl
          have hV9 : zV Ym7 := zV_o hV hYm7 rfl
          have hG10 := yFr_o hG hYm7 rfl (.inr rfl) rfl
          replace hM := zE_n hM (by first | (have q4 := zhx q4; have q5 := zhx q5; omega) | (simp only [zhx q4, zhx q5] at h1 h2 h3 h6 ⊢ <;> omega))
          replace hM := zE_n hM (by first | (have q4 := zhx q4; have q5 := zhx q5; omega) | (simp only [zhx q4, zhx q5] at h1 h2 h3 h6 ⊢ <;> omega))
          replace hM := zE_n hM (by first | (have q4 := zhx q4; have q5 := zhx q5; omega) | (simp only [zhx q4, zhx q5] at h1 h2 h3 h6 ⊢ <;> omega))
          replace hM := zE_n hM (by first | (have q4 := zhx q4; have q5 := zhx q5; omega) | (simp only [zhx q4, zhx q5] at h1 h2 h3 h6 ⊢ <;> omega))
          obtain ⟨Ym11, hYm11, hM⟩ := zl_x hM
          have hR12 : zRx [] 0 Z Ym11 := zRx_o hR8 hYm11 rfl
          have hV13 : zV Ym11 := zV_o hV9 hYm11 rfl
          have hG14 := yFr_o hG10 hYm11 rfl (.inr rfl) rfl
          have q15 := zhd (((zu_ne (k' := 2) (b' := 0) (i' := 0) (j' := 1400) hYm11 (fun q => absurd q.1 (by decide))).trans (zu_ne (k' := 2) (b' := 0) (i' := 0) (j' := 1400) hYm7 (fun q => absurd q.1 (by decide)))))
          replace hM := zE_p hM (by first | (have q4 := zhx q4; have q5 := zhx q5; have q15 := zhx q15; omega) | (simp only [zhx q4, zhx q5, zhx q15] at h1 h2 h3 h6 ⊢ <;> omega))
          obtain ⟨Ym16, hYm16, hM⟩ := zl_x hM
          have hR17 : zRx [] 0 Z Ym16 := zRx_o hR12 hYm16 rfl
          have hV18 : zV Ym16 := zV_o hV13 hYm16 rfl
          have hG19 := yFr_o hG14 hYm16 rfl (.inr rfl) rfl
          have th9 := (zu_at hYm16)
          obtain rfl : C = _ := hC
          obtain rfl : M = _ := hM
          exact ⟨zRx_1 hR17, hV18, ⟨Z, _, .inl ⟨rfl, yFr_w hG19 (by decide)⟩, zFc_r, yFr_r⟩, zThr_e th9 (by decide)⟩
        · replace hM := zE_n hM (by first | (have q4 := zhx q4; have q5 := zhx q5; omega) | (simp only [zhx q4, zhx q5] at h1 h2 h3 h6 ⊢ <;> omega))
          replace hM := zE_n hM (by first | (have q4 := zhx q4; have q5 := zhx q5; omega) | (simp only [zhx q4, zhx q5] at h1 h2 h3 h6 ⊢ <;> omega))
          obtain ⟨Ym20, hYm20, hM⟩ := zl_x hM
          have hR21 : zRx [] 0 Z Ym20 := zRx_o hRb hYm20 rfl
          have hV22 : zV Ym20 := zV_o hV hYm20 rfl
          have hG23 := yFr_o hG hYm20 rfl (.inr rfl) rfl
          replace hM := zE_n hM (by first | (have q4 := zhx q4; have q5 := zhx q5; omega) | (simp only [zhx q4, zhx q5] at h1 h2 h3 h6 ⊢ <;> omega))
          replace hM := zE_n hM (by first | (have q4 := zhx q4; have q5 := zhx q5; omega) | (simp only [zhx q4, zhx q5] at h1 h2 h3 h6 ⊢ <;> omega))
          replace hM := zE_n hM (by first | (have q4 := zhx q4; have q5 := zhx q5; omega) | (simp only [zhx q4, zhx q5] at h1 h2 h3 h6 ⊢ <;> omega))
          replace hM := zE_n hM (by first | (have q4 := zhx q4; have q5 := zhx q5; omega) | (simp only [zhx q4, zhx q5] at h1 h2 h3 h6 ⊢ <;> omega))
          obtain ⟨Ym24, hYm24, hM⟩ := zl_x hM
          have hR25 : zRx [] 0 Z Ym24 := zRx_o hR21 hYm24 rfl
          have hV26 : zV Ym24 := zV_o hV22 hYm24 rfl
          have hG27 := yFr_o hG23 hYm24 rfl (.inr rfl) rfl
          have q28 := zhd (((zu_ne (k' := 2) (b' := 0) (i' := 0) (j' := 1400) hYm24 (fun q => absurd q.1 (by decide))).trans (zu_ne (k' := 2) (b' := 0) (i' := 0) (j' := 1400) hYm20 (fun q => absurd q.1 (by decide)))))
          replace hM := zE_n hM (by first | (have q4 := zhx q4; have q5 := zhx q5; have q28 := zhx q28; omega) | (simp only [zhx q4, zhx q5, zhx q28] at h1 h2 h3 h6 ⊢ <;> omega))
          obtain ⟨Ym29, hYm29, hM⟩ := zl_x hM
          have hR30 : zRx [] 0 Z Ym29 := zRx_o hR25 hYm29 rfl
          have hV31 : zV Ym29 := zV_o hV26 hYm29 rfl
          have hG32 := yFr_o hG27 hYm29 rfl (.inr rfl) rfl
          obtain ⟨Zc33, hZc33, hC⟩ := zl_x hC
          obtain ⟨Ym34, hYm34, hM⟩ := zl_x hM
          have hR35 : zRx [] 0 Zc33 Ym34 := zRx_dd hR30 hI hd hZc33 hYm34
          have hV36 : zV Ym34 := zV_dm hV31 hd hYm34
          have hF37 : zFc [1104, 4500, 4501, 4502] 0 Zc33 Zc33 := zFc_r
          have hG38 : yFr [1104, 4500, 4501, 4502] Ym34 Ym34 := yFr_r
          have q39 := zhd ((((yFa_dm hd hYm34 (1400) rfl).trans (zu_ne (k' := 2) (b' := 0) (i' := 0) (j' := 1400) hYm29 (fun q => absurd q.1 (by decide)))).trans (zhx q28)))
          have q40 := zhd (((zRl_11_4 (a := 1400) (zRx_1 hR35) (by omega)).trans (zhx q39)))
          obtain ⟨Zc41, hZc41, hC⟩ := zl_x hC
          obtain ⟨Ym42, hYm42, hM⟩ := zl_x hM
          have hV43 : zV Ym42 := zV_i hV36 hYm42 (zvi_45_0 (x := (Y 2 0 0 1400)) (by have q4 := zhx q4; have q5 := zhx q5; have q39 := zhx q39; omega) (by have q4 := zhx q4; have q5 := zhx q5; have q39 := zhx q39; omega) (by have q4 := zhx q4; have q5 := zhx q5; have q39 := zhx q39; omega)) (by have q4 := zhx q4; have q5 := zhx q5; first | omega | exact w3_r _)
          have hR44 : zRx [] 0 Zc41 Ym42 := zRx_w hR35 (ac_45_0 (by have q4 := zhx q4; have q5 := zhx q5; have q39 := zhx q39; have q40 := zhx q40; omega) (by have q4 := zhx q4; have q5 := zhx q5; have q39 := zhx q39; have q40 := zhx q40; omega) (by have q4 := zhx q4; have q5 := zhx q5; have q39 := zhx q39; have q40 := zhx q40; omega)) hZc41 hYm42 (by first | rfl | (omega) | (simp only [] <;> omega))
          have hF45 := zFc_u hF37 hZc41 rfl rfl
          have hG46 := yFr_u hG38 hYm42 (zcm_s (ac_45_0 (a := 1410 + 12 * (Ym34 2 0 0 1400)) (x := (Y 2 0 0 1400)) (by have q4 := zhx q4; have q5 := zhx q5; have q39 := zhx q39; omega) (by have q4 := zhx q4; have q5 := zhx q5; have q39 := zhx q39; omega) (by have q4 := zhx q4; have q5 := zhx q5; have q39 := zhx q39; omega))) rfl
          obtain ⟨Zc47, hZc47, hC⟩ := zl_x hC
          obtain ⟨Ym48, hYm48, hM⟩ := zl_x hM
          have hV49 : zV Ym48 := zV_n hV43 hYm48 (zvn_45_1 (x := (Y 2 0 0 1400)) (by have q4 := zhx q4; have q5 := zhx q5; have q39 := zhx q39; omega) (by have q4 := zhx q4; have q5 := zhx q5; have q39 := zhx q39; omega) (by have q4 := zhx q4; have q5 := zhx q5; have q39 := zhx q39; omega))
          have hR50 : zRx [] 0 Zc47 Ym48 := zRx_w hR44 (ac_45_1 (by have q4 := zhx q4; have q5 := zhx q5; have q39 := zhx q39; have q40 := zhx q40; omega) (by have q4 := zhx q4; have q5 := zhx q5; have q39 := zhx q39; have q40 := zhx q40; omega) (by have q4 := zhx q4; have q5 := zhx q5; have q39 := zhx q39; have q40 := zhx q40; omega)) hZc47 hYm48 (by first | rfl | (omega) | (simp only [] <;> omega))
          have hF51 := zFc_u hF45 hZc47 rfl rfl
          have hG52 := yFr_u hG46 hYm48 (zcm_s (ac_45_1 (a := 1411 + 12 * (Ym34 2 0 0 1400)) (x := (Y 2 0 0 1400)) (by have q4 := zhx q4; have q5 := zhx q5; have q39 := zhx q39; omega) (by have q4 := zhx q4; have q5 := zhx q5; have q39 := zhx q39; omega) (by have q4 := zhx q4; have q5 := zhx q5; have q39 := zhx q39; omega))) rfl
          obtain ⟨Zc53, hZc53, hC⟩ := zl_x hC
          obtain ⟨Ym54, hYm54, hM⟩ := zl_x hM
          have hV55 : zV Ym54 := zV_n hV49 hYm54 (zvn_45_2 (x := (Y 2 0 0 1400)) (by have q4 := zhx q4; have q5 := zhx q5; have q39 := zhx q39; omega) (by have q4 := zhx q4; have q5 := zhx q5; have q39 := zhx q39; omega) (by have q4 := zhx q4; have q5 := zhx q5; have q39 := zhx q39; omega))
          have hR56 : zRx [] 0 Zc53 Ym54 := zRx_w hR50 (ac_45_2 (by have q4 := zhx q4; have q5 := zhx q5; have q39 := zhx q39; have q40 := zhx q40; omega) (by have q4 := zhx q4; have q5 := zhx q5; have q39 := zhx q39; have q40 := zhx q40; omega) (by have q4 := zhx q4; have q5 := zhx q5; have q39 := zhx q39; have q40 := zhx q40; omega)) hZc53 hYm54 (by first | rfl | (omega) | (simp only [] <;> omega))
          have hF57 := zFc_u hF51 hZc53 rfl rfl
          have hG58 := yFr_u hG52 hYm54 (zcm_s (ac_45_2 (a := 1412 + 12 * (Ym34 2 0 0 1400)) (x := (Y 2 0 0 1400)) (by have q4 := zhx q4; have q5 := zhx q5; have q39 := zhx q39; omega) (by have q4 := zhx q4; have q5 := zhx q5; have q39 := zhx q39; omega) (by have q4 := zhx q4; have q5 := zhx q5; have q39 := zhx q39; omega))) rfl
          have q59 := zhd (((((zu_ne (k' := 2) (b' := 0) (i' := 0) (j' := 1400) hYm54 (fun q => absurd q.2.2.2 (by have q4 := zhx q4; have q5 := zhx q5; have q39 := zhx q39; omega))).trans (zu_ne (k' := 2) (b' := 0) (i' := 0) (j' := 1400) hYm48 (fun q => absurd q.2.2.2 (by have q4 := zhx q4; have q5 := zhx q5; have q39 := zhx q39; omega)))).trans (zu_ne (k' := 2) (b' := 0) (i' := 0) (j' := 1400) hYm42 (fun q => absurd q.2.2.2 (by have q4 := zhx q4; have q5 := zhx q5; have q39 := zhx q39; omega)))).trans (zhx q39)))
          have q60 := zhd (((zRl_11_4 (a := 1400) (zRx_1 hR56) (by omega)).trans (zhx q59)))
          obtain ⟨Zc61, hZc61, hC⟩ := zl_x hC
          obtain ⟨Ym62, hYm62, hM⟩ := zl_x hM
          have hV63 : zV Ym62 := zV_i hV55 hYm62 (zvi_11_4 (by have q4 := zhx q4; have q5 := zhx q5; omega)) (by have q4 := zhx q4; have q5 := zhx q5; have q59 := zhx q59; first | omega | exact w3_r _)
          have hR64 : zRx [] 0 Zc61 Ym62 := zRx_w hR56 (ac_11_4 (by have q4 := zhx q4; have q5 := zhx q5; omega)) hZc61 hYm62 (by first | rfl | (have q4 := zhx q4; have q59 := zhx q59; have q60 := zhx q60; omega) | (simp only [zhx q4, zhx q59, zhx q60] <;> omega))
          have hF65 := zFc_u hF57 hZc61 rfl rfl
          have hG66 := yFr_u hG58 hYm62 (zcm_s (ac_11_4 (a := 1400) (by have q4 := zhx q4; have q5 := zhx q5; omega))) rfl
          have th9 := ((((((zu_ne (k' := 1) (b' := 0) (i' := 0) (j' := 2) hYm62 (fun q => absurd q.1 (by decide))).trans (zu_ne (k' := 1) (b' := 0) (i' := 0) (j' := 2) hYm54 (fun q => absurd q.1 (by decide)))).trans (zu_ne (k' := 1) (b' := 0) (i' := 0) (j' := 2) hYm48 (fun q => absurd q.1 (by decide)))).trans (zu_ne (k' := 1) (b' := 0) (i' := 0) (j' := 2) hYm42 (fun q => absurd q.1 (by decide)))).trans (zTh_dm hd hYm34 (by decide))).trans (zu_at hYm29))
          obtain rfl : C = _ := hC
          obtain rfl : M = _ := hM
          exact ⟨zRx_1 hR64, hV63, ⟨Zc33, Ym34, .inr ⟨10, a1, a2, a3, 0, 0, 0, 11, Ym29, hZc33, yFr_w hG32 (by decide), hYm34, (by unfold zcode; omega)⟩, zFc_w hF65 (by decide), yFr_w hG66 (by decide)⟩, zThr_a th9 (by first | rfl | (have q4 := zhx q4; have q5 := zhx q5; have q39 := zhx q39; have q60 := zhx q60; omega) | (simp only [zhx q4, zhx q5, zhx q39, zhx q60] <;> omega) | (have q4 := zhx q4; have q5 := zhx q5; have q39 := zhx q39; have q60 := zhx q60; refine w3z ?_ ?_ ?_ <;> omega) | (have q4 := zhx q4; have q5 := zhx q5; have q39 := zhx q39; have q60 := zhx q60; refine w3y ?_ ?_ ?_ <;> omega) | (have q4 := zhx q4; have q5 := zhx q5; have q39 := zhx q39; have q60 := zhx q60; refine z2o ?_ ?_ ?_ <;> omega))⟩
      · replace hM := zE_n hM (by omega)
        replace hM := zE_n hM (by omega)
        obtain ⟨Ym67, hYm67, hM⟩ := zl_x hM
        have hR68 : zRx [] 0 Z Ym67 := zRx_o hRb hYm67 rfl
        have hV69 : zV Ym67 := zV_o hV hYm67 rfl
        have hG70 := yFr_o hG hYm67 rfl (.inr rfl) rfl
        replace hM := zE_n hM (by omega)
        replace hM := zE_n hM (by omega)
        rcases zE_c hM with ⟨h71, hM⟩ | ⟨h71, hM⟩
        · obtain ⟨Ym72, hYm72, hM⟩ := zl_x hM
          have hR73 : zRx [] 0 Z Ym72 := zRx_o hR68 hYm72 rfl
          have hV74 : zV Ym72 := zV_o hV69 hYm72 rfl
          have hG75 := yFr_o hG70 hYm72 rfl (.inr rfl) rfl
          have th9 := (zu_at hYm72)
          obtain rfl : C = _ := hC
          obtain rfl : M = _ := hM
          exact ⟨zRx_1 hR73, hV74, ⟨Z, _, .inl ⟨rfl, yFr_w hG75 (by decide)⟩, zFc_r, yFr_r⟩, zThr_e th9 (by decide)⟩
        · rcases zE_c hM with ⟨h76, hM⟩ | ⟨h76, hM⟩
          · obtain ⟨Ym77, hYm77, hM⟩ := zl_x hM
            have hR78 : zRx [] 0 Z Ym77 := zRx_o hR68 hYm77 rfl
            have hV79 : zV Ym77 := zV_o hV69 hYm77 rfl
            have hG80 := yFr_o hG70 hYm77 rfl (.inr rfl) rfl
            have th9 := (zu_at hYm77)
            obtain rfl : C = _ := hC
            obtain rfl : M = _ := hM
            exact ⟨zRx_1 hR78, hV79, ⟨Z, _, .inl ⟨rfl, yFr_w hG80 (by decide)⟩, zFc_r, yFr_r⟩, zThr_e th9 (by decide)⟩
          · obtain ⟨Ym81, hYm81, hM⟩ := zl_x hM
            have hR82 : zRx [] 0 Z Ym81 := zRx_o hR68 hYm81 rfl
            have hV83 : zV Ym81 := zV_o hV69 hYm81 rfl
            have hG84 := yFr_o hG70 hYm81 rfl (.inr rfl) rfl
            have q85 := zhd (zVr_11_4 (a := 1400) hV (by omega))
            have q86 := zhd (((zu_ne (k' := 2) (b' := 0) (i' := 0) (j' := 1400) hYm81 (fun q => absurd q.1 (by decide))).trans (zu_ne (k' := 2) (b' := 0) (i' := 0) (j' := 1400) hYm67 (fun q => absurd q.1 (by decide)))))
            rcases zE_c hM with ⟨h87, hM⟩ | ⟨h87, hM⟩
            · obtain ⟨Ym88, hYm88, hM⟩ := zl_x hM
              have hR89 : zRx [] 0 Z Ym88 := zRx_o hR82 hYm88 rfl
              have hV90 : zV Ym88 := zV_o hV83 hYm88 rfl
              have hG91 := yFr_o hG84 hYm88 rfl (.inr rfl) rfl
              exact False.elim (by have q85 := zhx q85; have q86 := zhx q86; first | omega | grind)
            · obtain ⟨Ym92, hYm92, hM⟩ := zl_x hM
              have hR93 : zRx [] 0 Z Ym92 := zRx_o hR82 hYm92 rfl
              have hV94 : zV Ym92 := zV_o hV83 hYm92 rfl
              have hG95 := yFr_o hG84 hYm92 rfl (.inr rfl) rfl
              exact False.elim (by have q85 := zhx q85; have q86 := zhx q86; first | omega | grind)
    · replace hM := zE_n hM (by omega)
      replace hM := zE_n hM (by omega)
      obtain ⟨Ym96, hYm96, hM⟩ := zl_x hM
      have hR97 : zRx [] 0 Z Ym96 := zRx_o hRb hYm96 rfl
      have hV98 : zV Ym96 := zV_o hV hYm96 rfl
      have hG99 := yFr_o hG hYm96 rfl (.inr rfl) rfl
      rcases zE_c hM with ⟨h100, hM⟩ | ⟨h100, hM⟩
      · obtain ⟨Ym101, hYm101, hM⟩ := zl_x hM
        have hR102 : zRx [] 0 Z Ym101 := zRx_o hR97 hYm101 rfl
        have hV103 : zV Ym101 := zV_o hV98 hYm101 rfl
        have hG104 := yFr_o hG99 hYm101 rfl (.inr rfl) rfl
        have th9 := (zu_at hYm101)
        obtain rfl : C = _ := hC
        obtain rfl : M = _ := hM
        exact ⟨zRx_1 hR102, hV103, ⟨Z, _, .inl ⟨rfl, yFr_w hG104 (by decide)⟩, zFc_r, yFr_r⟩, zThr_e th9 (by decide)⟩
      · rcases zE_c hM with ⟨h105, hM⟩ | ⟨h105, hM⟩
        · obtain ⟨Ym106, hYm106, hM⟩ := zl_x hM
          have hR107 : zRx [] 0 Z Ym106 := zRx_o hR97 hYm106 rfl
          have hV108 : zV Ym106 := zV_o hV98 hYm106 rfl
          have hG109 := yFr_o hG99 hYm106 rfl (.inr rfl) rfl
          have th9 := (zu_at hYm106)
          obtain rfl : C = _ := hC
          obtain rfl : M = _ := hM
          exact ⟨zRx_1 hR107, hV108, ⟨Z, _, .inl ⟨rfl, yFr_w hG109 (by decide)⟩, zFc_r, yFr_r⟩, zThr_e th9 (by decide)⟩
        · rcases zE_c hM with ⟨h110, hM⟩ | ⟨h110, hM⟩
          · obtain ⟨Ym111, hYm111, hM⟩ := zl_x hM
            have hR112 : zRx [] 0 Z Ym111 := zRx_o hR97 hYm111 rfl
            have hV113 : zV Ym111 := zV_o hV98 hYm111 rfl
            have hG114 := yFr_o hG99 hYm111 rfl (.inr rfl) rfl
            have th9 := (zu_at hYm111)
            obtain rfl : C = _ := hC
            obtain rfl : M = _ := hM
            exact ⟨zRx_1 hR112, hV113, ⟨Z, _, .inl ⟨rfl, yFr_w hG114 (by decide)⟩, zFc_r, yFr_r⟩, zThr_e th9 (by decide)⟩
          · rcases zE_c hM with ⟨h115, hM⟩ | ⟨h115, hM⟩
            · obtain ⟨Ym116, hYm116, hM⟩ := zl_x hM
              have hR117 : zRx [] 0 Z Ym116 := zRx_o hR97 hYm116 rfl
              have hV118 : zV Ym116 := zV_o hV98 hYm116 rfl
              have hG119 := yFr_o hG99 hYm116 rfl (.inr rfl) rfl
              have th9 := (zu_at hYm116)
              obtain rfl : C = _ := hC
              obtain rfl : M = _ := hM
              exact ⟨zRx_1 hR117, hV118, ⟨Z, _, .inl ⟨rfl, yFr_w hG119 (by decide)⟩, zFc_r, yFr_r⟩, zThr_e th9 (by decide)⟩
            · obtain ⟨Ym120, hYm120, hM⟩ := zl_x hM
              have hR121 : zRx [] 0 Z Ym120 := zRx_o hR97 hYm120 rfl
              have hV122 : zV Ym120 := zV_o hV98 hYm120 rfl
              have hG123 := yFr_o hG99 hYm120 rfl (.inr rfl) rfl
              have q124 := zhd (zVr_11_4 (a := 1400) hV (by omega))
              have q125 := zhd (((zu_ne (k' := 2) (b' := 0) (i' := 0) (j' := 1400) hYm120 (fun q => absurd q.1 (by decide))).trans (zu_ne (k' := 2) (b' := 0) (i' := 0) (j' := 1400) hYm96 (fun q => absurd q.1 (by decide)))))
              rcases zE_c hM with ⟨h126, hM⟩ | ⟨h126, hM⟩
              · obtain ⟨Ym127, hYm127, hM⟩ := zl_x hM
                have hR128 : zRx [] 0 Z Ym127 := zRx_o hR121 hYm127 rfl
                have hV129 : zV Ym127 := zV_o hV122 hYm127 rfl
                have hG130 := yFr_o hG123 hYm127 rfl (.inr rfl) rfl
                exact False.elim (by have q124 := zhx q124; have q125 := zhx q125; first | omega | grind)
              · obtain ⟨Ym131, hYm131, hM⟩ := zl_x hM
                have hR132 : zRx [] 0 Z Ym131 := zRx_o hR121 hYm131 rfl
                have hV133 : zV Ym131 := zV_o hV122 hYm131 rfl
                have hG134 := yFr_o hG123 hYm131 rfl (.inr rfl) rfl
                exact False.elim (by have q124 := zhx q124; have q125 := zhx q125; first | omega | grind)
  · rcases zE_c hM with ⟨h135, hM⟩ | ⟨h135, hM⟩
    · obtain ⟨Ym136, hYm136, hM⟩ := zl_x hM
      have hR137 : zRx [] 0 Z Ym136 := zRx_o hRb hYm136 rfl
      have hV138 : zV Ym136 := zV_o hV hYm136 rfl
      have hG139 := yFr_o hG hYm136 rfl (.inr rfl) rfl
      have th9 := (zu_at hYm136)
      obtain rfl : C = _ := hC
      obtain rfl : M = _ := hM
      exact ⟨zRx_1 hR137, hV138, ⟨Z, _, .inl ⟨rfl, yFr_w hG139 (by decide)⟩, zFc_r, yFr_r⟩, zThr_e th9 (by decide)⟩
    · rcases zE_c hM with ⟨h140, hM⟩ | ⟨h140, hM⟩
      · obtain ⟨Ym141, hYm141, hM⟩ := zl_x hM
        have hR142 : zRx [] 0 Z Ym141 := zRx_o hRb hYm141 rfl
        have hV143 : zV Ym141 := zV_o hV hYm141 rfl
        have hG144 := yFr_o hG hYm141 rfl (.inr rfl) rfl
        have th9 := (zu_at hYm141)
        obtain rfl : C = _ := hC
        obtain rfl : M = _ := hM
        exact ⟨zRx_1 hR142, hV143, ⟨Z, _, .inl ⟨rfl, yFr_w hG144 (by decide)⟩, zFc_r, yFr_r⟩, zThr_e th9 (by decide)⟩
      · obtain ⟨Ym145, hYm145, hM⟩ := zl_x hM
        have hR146 : zRx [] 0 Z Ym145 := zRx_o hRb hYm145 rfl
        have hV147 : zV Ym145 := zV_o hV hYm145 rfl
        have hG148 := yFr_o hG hYm145 rfl (.inr rfl) rfl
        rcases zE_c hM with ⟨h149, hM⟩ | ⟨h149, hM⟩
        · obtain ⟨Ym150, hYm150, hM⟩ := zl_x hM
          have hR151 : zRx [] 0 Z Ym150 := zRx_o hR146 hYm150 rfl
          have hV152 : zV Ym150 := zV_o hV147 hYm150 rfl
          have hG153 := yFr_o hG148 hYm150 rfl (.inr rfl) rfl
          exact False.elim (by first | omega | grind)
        · rcases zE_c hM with ⟨h154, hM⟩ | ⟨h154, hM⟩
          · obtain ⟨Ym155, hYm155, hM⟩ := zl_x hM
            have hR156 : zRx [] 0 Z Ym155 := zRx_o hR146 hYm155 rfl
            have hV157 : zV Ym155 := zV_o hV147 hYm155 rfl
            have hG158 := yFr_o hG148 hYm155 rfl (.inr rfl) rfl
            exact False.elim (by first | omega | grind)
          · rcases zE_c hM with ⟨h159, hM⟩ | ⟨h159, hM⟩
            · obtain ⟨Ym160, hYm160, hM⟩ := zl_x hM
              have hR161 : zRx [] 0 Z Ym160 := zRx_o hR146 hYm160 rfl
              have hV162 : zV Ym160 := zV_o hV147 hYm160 rfl
              have hG163 := yFr_o hG148 hYm160 rfl (.inr rfl) rfl
              exact False.elim (by first | omega | grind)
            · rcases zE_c hM with ⟨h164, hM⟩ | ⟨h164, hM⟩
              · obtain ⟨Ym165, hYm165, hM⟩ := zl_x hM
                have hR166 : zRx [] 0 Z Ym165 := zRx_o hR146 hYm165 rfl
                have hV167 : zV Ym165 := zV_o hV147 hYm165 rfl
                have hG168 := yFr_o hG148 hYm165 rfl (.inr rfl) rfl
                exact False.elim (by first | omega | grind)
              · obtain ⟨Ym169, hYm169, hM⟩ := zl_x hM
                have hR170 : zRx [] 0 Z Ym169 := zRx_o hR146 hYm169 rfl
                have hV171 : zV Ym169 := zV_o hV147 hYm169 rfl
                have hG172 := yFr_o hG148 hYm169 rfl (.inr rfl) rfl
                have q173 := zhd (zVr_11_4 (a := 1400) hV (by omega))
                have q174 := zhd (((zu_ne (k' := 2) (b' := 0) (i' := 0) (j' := 1400) hYm169 (fun q => absurd q.1 (by decide))).trans (zu_ne (k' := 2) (b' := 0) (i' := 0) (j' := 1400) hYm145 (fun q => absurd q.1 (by decide)))))
                rcases zE_c hM with ⟨h175, hM⟩ | ⟨h175, hM⟩
                · obtain ⟨Ym176, hYm176, hM⟩ := zl_x hM
                  have hR177 : zRx [] 0 Z Ym176 := zRx_o hR170 hYm176 rfl
                  have hV178 : zV Ym176 := zV_o hV171 hYm176 rfl
                  have hG179 := yFr_o hG172 hYm176 rfl (.inr rfl) rfl
                  exact False.elim (by have q173 := zhx q173; have q174 := zhx q174; first | omega | grind)
                · obtain ⟨Ym180, hYm180, hM⟩ := zl_x hM
                  have hR181 : zRx [] 0 Z Ym180 := zRx_o hR170 hYm180 rfl
                  have hV182 : zV Ym180 := zV_o hV171 hYm180 rfl
                  have hG183 := yFr_o hG172 hYm180 rfl (.inr rfl) rfl
                  exact False.elim (by have q173 := zhx q173; have q174 := zhx q174; first | omega | grind)

/- face cancel -/
theorem rf_cancel {Z Y : qz_Z} {dm : qz_Z → Int → Int → Int → Int → Int → Int → Int → qz_Z} {a1 : Int} (hRa : zR 0 Z Y) (hV : zV Y) (hI : zI none Z) (hd : zDf dm)   {C : qz_Z × Int × Int} {M : qz_Z × Int} (hC : zE C (zx_192 Z a1)) (hM : zE M (zy_315 Y dm a1)) : zR 0 C.1 M.1 ∧ zV M.1 ∧ zDd [4606, 4607] [4606, 4607, 99999] Z Y dm C.1 M.1 ∧ zThr [(24, 1), (15, 2)] C.2 (M.1 1 0 0 2) M.2 := by
  have hRb := zRx_0 hRa
  have hF : zFc [] 0 Z Z := zFc_r
  have hG : yFr [99999] Y Y := yFr_r
  unfold zx_192 at hC
  unfold zy_315 at hM
  rcases zE_c hC with ⟨h1, hC⟩ | ⟨h1, hC⟩
  · replace hM := zE_p hM (by omega)
    obtain ⟨Ym2, hYm2, hM⟩ := zl_x hM
    have hR3 : zRx [] 0 Z Ym2 := zRx_o hRb hYm2 rfl
    have hV4 : zV Ym2 := zV_o hV hYm2 rfl
    have hG5 := yFr_o hG hYm2 rfl (.inr rfl) rfl
    have th9 := (zu_at hYm2)
    obtain rfl : C = _ := hC
    obtain rfl : M = _ := hM
    exact ⟨zRx_1 hR3, hV4, ⟨Z, _, .inl ⟨rfl, yFr_w hG5 (by decide)⟩, zFc_r, yFr_r⟩, zThr_e th9 (by decide)⟩
  · have q6 := zhd (zVr_11_5 (a := 1401) hV (by omega))
    have q7 := zhd ((zRl_11_5 (a := 1401) hRa (by omega)))
    rcases zE_c hC with ⟨h8, hC⟩ | ⟨h8, hC⟩
    · have q9 := zhd (zVr_46_7 (x := a1) (a := 1517 + 12 * a1) hV (by have q6 := zhx q6; have q7 := zhx q7; omega) (by have q6 := zhx q6; have q7 := zhx q7; omega) (by have q6 := zhx q6; have q7 := zhx q7; omega))
      have q10 := zhd ((zRl_46_7 (x := a1) (a := 1517 + 12 * a1) hRa (by have q6 := zhx q6; have q7 := zhx q7; omega) (by have q6 := zhx q6; have q7 := zhx q7; omega) (by have q6 := zhx q6; have q7 := zhx q7; omega)))
      rcases zE_c hC with ⟨h11, hC⟩ | ⟨h11, hC⟩
      · replace hM := zE_n hM (by first | (have q6 := zhx q6; have q7 := zhx q7; have q9 := zhx q9; have q10 := zhx q10; omega) | (simp only [zhx q6, zhx q7, zhx q9, zhx q10] at h1 h8 h11 ⊢ <;> omega))
        replace hM := zE_n hM (by first | (have q6 := zhx q6; have q7 := zhx q7; have q9 := zhx q9; have q10 := zhx q10; omega) | (simp only [zhx q6, zhx q7, zhx q9, zhx q10] at h1 h8 h11 ⊢ <;> omega))
        obtain ⟨Ym12, hYm12, hM⟩ := zl_x hM
        have hR13 : zRx [] 0 Z Ym12 := zRx_o hRb hYm12 rfl
        have hV14 : zV Ym12 := zV_o hV hYm12 rfl
        have hG15 := yFr_o hG hYm12 rfl (.inr rfl) rfl
        have q16 := zhd ((zu_ne (k' := 2) (b' := 0) (i' := 0) (j' := 1517 + 12 * a1) hYm12 (fun q => absurd q.1 (by decide))))
        replace hM := zE_p hM (by first | (have q6 := zhx q6; have q7 := zhx q7; have q9 := zhx q9; have q10 := zhx q10; have q16 := zhx q16; omega) | (simp only [zhx q6, zhx q7, zhx q9, zhx q10, zhx q16] at h1 h8 h11 ⊢ <;> omega))
        obtain ⟨Ym17, hYm17, hM⟩ := zl_x hM
        have hR18 : zRx [] 0 Z Ym17 := zRx_o hR13 hYm17 rfl
        have hV19 : zV Ym17 := zV_o hV14 hYm17 rfl
        have hG20 := yFr_o hG15 hYm17 rfl (.inr rfl) rfl
        have th9 := (zu_at hYm17)
        obtain rfl : C = _ := hC
        obtain rfl : M = _ := hM
        exact ⟨zRx_1 hR18, hV19, ⟨Z, _, .inl ⟨rfl, yFr_w hG20 (by decide)⟩, zFc_r, yFr_r⟩, zThr_e th9 (by decide)⟩
      · replace hM := zE_n hM (by first | (have q6 := zhx q6; have q7 := zhx q7; have q9 := zhx q9; have q10 := zhx q10; omega) | (simp only [zhx q6, zhx q7, zhx q9, zhx q10] at h1 h8 h11 ⊢ <;> omega))
        replace hM := zE_n hM (by first | (have q6 := zhx q6; have q7 := zhx q7; have q9 := zhx q9; have q10 := zhx q10; omega) | (simp only [zhx q6, zhx q7, zhx q9, zhx q10] at h1 h8 h11 ⊢ <;> omega))
        obtain ⟨Ym21, hYm21, hM⟩ := zl_x hM
        have hR22 : zRx [] 0 Z Ym21 := zRx_o hRb hYm21 rfl
        have hV23 : zV Ym21 := zV_o hV hYm21 rfl
        have hG24 := yFr_o hG hYm21 rfl (.inr rfl) rfl
        have q25 := zhd ((zu_ne (k' := 2) (b' := 0) (i' := 0) (j' := 1517 + 12 * a1) hYm21 (fun q => absurd q.1 (by decide))))
        replace hM := zE_n hM (by first | (have q6 := zhx q6; have q7 := zhx q7; have q9 := zhx q9; have q10 := zhx q10; have q25 := zhx q25; omega) | (simp only [zhx q6, zhx q7, zhx q9, zhx q10, zhx q25] at h1 h8 h11 ⊢ <;> omega))
        obtain ⟨Ym26, hYm26, hM⟩ := zl_x hM
        have hR27 : zRx [] 0 Z Ym26 := zRx_o hR22 hYm26 rfl
        have hV28 : zV Ym26 := zV_o hV23 hYm26 rfl
        have hG29 := yFr_o hG24 hYm26 rfl (.inr rfl) rfl
        obtain ⟨Zc30, hZc30, hC⟩ := zl_x hC
        obtain ⟨Ym31, hYm31, hM⟩ := zl_x hM
        have hR32 : zRx [] 0 Zc30 Ym31 := zRx_dd hR27 hI hd hZc30 hYm31
        have hV33 : zV Ym31 := zV_dm hV28 hd hYm31
        have hF34 : zFc [4606, 4607] 0 Zc30 Zc30 := zFc_r
        have hG35 : yFr [4606, 4607] Ym31 Ym31 := yFr_r
        obtain ⟨Zc36, hZc36, hC⟩ := zl_x hC
        obtain ⟨Ym37, hYm37, hM⟩ := zl_x hM
        have hV38 : zV Ym37 := zV_n hV33 hYm37 (zvn_46_6 (x := a1) (by first | (omega) | (have q6 := zhx q6; have q7 := zhx q7; have q9 := zhx q9; have q10 := zhx q10; omega)) (by first | (omega) | (have q6 := zhx q6; have q7 := zhx q7; have q9 := zhx q9; have q10 := zhx q10; omega)) (by first | (omega) | (have q6 := zhx q6; have q7 := zhx q7; have q9 := zhx q9; have q10 := zhx q10; omega)))
        have hR39 : zRx [] 0 Zc36 Ym37 := zRx_w hR32 (ac_46_6 (by first | (omega) | (have q6 := zhx q6; have q7 := zhx q7; have q9 := zhx q9; have q10 := zhx q10; omega)) (by first | (omega) | (have q6 := zhx q6; have q7 := zhx q7; have q9 := zhx q9; have q10 := zhx q10; omega)) (by first | (omega) | (have q6 := zhx q6; have q7 := zhx q7; have q9 := zhx q9; have q10 := zhx q10; omega))) hZc36 hYm37 (by first | rfl | (omega) | (simp only [] <;> omega))
        have hF40 := zFc_u hF34 hZc36 rfl rfl
        have hG41 := yFr_u hG35 hYm37 (zcm_s (ac_46_6 (a := 1516 + 12 * a1) (x := a1) (by first | (omega) | (have q6 := zhx q6; have q7 := zhx q7; have q9 := zhx q9; have q10 := zhx q10; omega)) (by first | (omega) | (have q6 := zhx q6; have q7 := zhx q7; have q9 := zhx q9; have q10 := zhx q10; omega)) (by first | (omega) | (have q6 := zhx q6; have q7 := zhx q7; have q9 := zhx q9; have q10 := zhx q10; omega)))) rfl
        obtain ⟨Zc42, hZc42, hC⟩ := zl_x hC
        obtain ⟨Ym43, hYm43, hM⟩ := zl_x hM
        have hV44 : zV Ym43 := zV_i hV38 hYm43 (zvi_46_7 (x := a1) (by first | (omega) | (have q6 := zhx q6; have q7 := zhx q7; have q9 := zhx q9; have q10 := zhx q10; omega)) (by first | (omega) | (have q6 := zhx q6; have q7 := zhx q7; have q9 := zhx q9; have q10 := zhx q10; omega)) (by first | (omega) | (have q6 := zhx q6; have q7 := zhx q7; have q9 := zhx q9; have q10 := zhx q10; omega))) (by have q6 := zhx q6; have q7 := zhx q7; have q9 := zhx q9; have q10 := zhx q10; first | omega | exact w3_r _)
        have hR45 : zRx [] 0 Zc42 Ym43 := zRx_w hR39 (ac_46_7 (by first | (omega) | (have q6 := zhx q6; have q7 := zhx q7; have q9 := zhx q9; have q10 := zhx q10; omega)) (by first | (omega) | (have q6 := zhx q6; have q7 := zhx q7; have q9 := zhx q9; have q10 := zhx q10; omega)) (by first | (omega) | (have q6 := zhx q6; have q7 := zhx q7; have q9 := zhx q9; have q10 := zhx q10; omega))) hZc42 hYm43 (by first | rfl | (omega) | (simp only [] <;> omega))
        have hF46 := zFc_u hF40 hZc42 rfl rfl
        have hG47 := yFr_u hG41 hYm43 (zcm_s (ac_46_7 (a := 1517 + 12 * a1) (x := a1) (by first | (omega) | (have q6 := zhx q6; have q7 := zhx q7; have q9 := zhx q9; have q10 := zhx q10; omega)) (by first | (omega) | (have q6 := zhx q6; have q7 := zhx q7; have q9 := zhx q9; have q10 := zhx q10; omega)) (by first | (omega) | (have q6 := zhx q6; have q7 := zhx q7; have q9 := zhx q9; have q10 := zhx q10; omega)))) rfl
        have th9 := ((((zu_ne (k' := 1) (b' := 0) (i' := 0) (j' := 2) hYm43 (fun q => absurd q.1 (by decide))).trans (zu_ne (k' := 1) (b' := 0) (i' := 0) (j' := 2) hYm37 (fun q => absurd q.1 (by decide)))).trans (zTh_dm hd hYm31 (by decide))).trans (zu_at hYm26))
        have q48 := zhd ((((yFa_dm hd hYm31 (1516 + 12 * a1) rfl).trans (zu_ne (k' := 2) (b' := 0) (i' := 0) (j' := 1516 + 12 * a1) hYm26 (fun q => absurd q.1 (by decide)))).trans (zu_ne (k' := 2) (b' := 0) (i' := 0) (j' := 1516 + 12 * a1) hYm21 (fun q => absurd q.1 (by decide)))))
        have q49 := zhd (((zRl_46_6 (x := a1) (a := 1516 + 12 * a1) (zRx_1 hR32) (by first | (omega) | (have q6 := zhx q6; have q7 := zhx q7; have q9 := zhx q9; have q10 := zhx q10; omega)) (by first | (omega) | (have q6 := zhx q6; have q7 := zhx q7; have q9 := zhx q9; have q10 := zhx q10; omega)) (by first | (omega) | (have q6 := zhx q6; have q7 := zhx q7; have q9 := zhx q9; have q10 := zhx q10; omega))).trans (zhx q48)))
        obtain rfl : C = _ := hC
        obtain rfl : M = _ := hM
        exact ⟨zRx_1 hR45, hV44, ⟨Zc30, Ym31, .inr ⟨12, a1, 0, 0, 0, 0, 0, 13, Ym26, hZc30, yFr_w hG29 (by decide), hYm31, (by unfold zcode; omega)⟩, zFc_w hF46 (by decide), yFr_w hG47 (by decide)⟩, zThr_a th9 (by first | rfl | (have q6 := zhx q6; have q7 := zhx q7; have q9 := zhx q9; have q10 := zhx q10; have q48 := zhx q48; have q49 := zhx q49; omega) | (simp only [zhx q6, zhx q7, zhx q9, zhx q10, zhx q48, zhx q49] <;> omega) | (have q6 := zhx q6; have q7 := zhx q7; have q9 := zhx q9; have q10 := zhx q10; have q48 := zhx q48; have q49 := zhx q49; refine w3z ?_ ?_ ?_ <;> omega) | (have q6 := zhx q6; have q7 := zhx q7; have q9 := zhx q9; have q10 := zhx q10; have q48 := zhx q48; have q49 := zhx q49; refine w3y ?_ ?_ ?_ <;> omega) | (have q6 := zhx q6; have q7 := zhx q7; have q9 := zhx q9; have q10 := zhx q10; have q48 := zhx q48; have q49 := zhx q49; refine z2o ?_ ?_ ?_ <;> omega))⟩
    · replace hM := zE_n hM (by first | (have q6 := zhx q6; have q7 := zhx q7; omega) | (simp only [zhx q6, zhx q7] at h1 h8 ⊢ <;> omega))
      replace hM := zE_p hM (by first | (have q6 := zhx q6; have q7 := zhx q7; omega) | (simp only [zhx q6, zhx q7] at h1 h8 ⊢ <;> omega))
      obtain ⟨Ym50, hYm50, hM⟩ := zl_x hM
      have hR51 : zRx [] 0 Z Ym50 := zRx_o hRb hYm50 rfl
      have hV52 : zV Ym50 := zV_o hV hYm50 rfl
      have hG53 := yFr_o hG hYm50 rfl (.inr rfl) rfl
      have th9 := (zu_at hYm50)
      obtain rfl : C = _ := hC
      obtain rfl : M = _ := hM
      exact ⟨zRx_1 hR51, hV52, ⟨Z, _, .inl ⟨rfl, yFr_w hG53 (by decide)⟩, zFc_r, yFr_r⟩, zThr_e th9 (by decide)⟩

/- face truck -/
theorem rf_truck {Z Y : qz_Z} {dm : qz_Z → Int → Int → Int → Int → Int → Int → Int → qz_Z} {a1 a2 : Int} (hRa : zR 0 Z Y) (hV : zV Y) (hI : zI none Z) (hd : zDf dm)   {C : qz_Z × Int × Int} {M : qz_Z × Int} (hC : zE C (zx_251 Z a1 a2)) (hM : zE M (zy_539 Y dm a1 a2)) : zR 0 C.1 M.1 ∧ zV M.1 ∧ zDd [1108, 5000, 5001, 5003, 5007, 5008] [1108, 5000, 5001, 5003, 5007, 99999] Z Y dm C.1 M.1 ∧ zThr [(13, 1), (15, 2)] C.2 (M.1 1 0 0 2) M.2 := by
  have hRb := zRx_0 hRa
  have hF : zFc [] 0 Z Z := zFc_r
  have hG : yFr [99999] Y Y := yFr_r
  unfold zx_251 at hC
  unfold zy_539 at hM
  rcases zE_c hC with ⟨h1, hC⟩ | ⟨h1, hC⟩
  · rcases zE_c hC with ⟨h2, hC⟩ | ⟨h2, hC⟩
    · have q3 := zhd (zVr_11_8 (a := 3200) hV (by omega))
      have q4 := zhd ((zRl_11_8 (a := 3200) hRa (by omega)))
      rcases zE_c hC with ⟨h5, hC⟩ | ⟨h5, hC⟩
      · replace hM := zE_n hM (by first | (have q3 := zhx q3; have q4 := zhx q4; omega) | (simp only [zhx q3, zhx q4] at h1 h2 h5 ⊢ <;> omega))
        replace hM := zE_n hM (by first | (have q3 := zhx q3; have q4 := zhx q4; omega) | (simp only [zhx q3, zhx q4] at h1 h2 h5 ⊢ <;> omega))
        replace hM := zE_n hM (by first | (have q3 := zhx q3; have q4 := zhx q4; omega) | (simp only [zhx q3, zhx q4] at h1 h2 h5 ⊢ <;> omega))
        replace hM := zE_n hM (by first | (have q3 := zhx q3; have q4 := zhx q4; omega) | (simp only [zhx q3, zhx q4] at h1 h2 h5 ⊢ <;> omega))
        obtain ⟨Ym6, hYm6, hM⟩ := zl_x hM
        have hR7 : zRx [] 0 Z Ym6 := zRx_o hRb hYm6 rfl
        have hV8 : zV Ym6 := zV_o hV hYm6 rfl
        have hG9 := yFr_o hG hYm6 rfl (.inr rfl) rfl
        have q10 := zhd ((zu_ne (k' := 2) (b' := 0) (i' := 0) (j' := 3200) hYm6 (fun q => absurd q.1 (by decide))))
        replace hM := zE_p hM (by first | (have q3 := zhx q3; have q4 := zhx q4; have q10 := zhx q10; omega) | (simp only [zhx q3, zhx q4, zhx q10] at h1 h2 h5 ⊢ <;> omega))
        obtain ⟨Ym11, hYm11, hM⟩ := zl_x hM
        have hR12 : zRx [] 0 Z Ym11 := zRx_o hR7 hYm11 rfl
        have hV13 : zV Ym11 := zV_o hV8 hYm11 rfl
        have hG14 := yFr_o hG9 hYm11 rfl (.inr rfl) rfl
        have th9 := (zu_at hYm11)
        obtain rfl : C = _ := hC
        obtain rfl : M = _ := hM
        exact ⟨zRx_1 hR12, hV13, ⟨Z, _, .inl ⟨rfl, yFr_w hG14 (by decide)⟩, zFc_r, yFr_r⟩, zThr_e th9 (by decide)⟩
      · replace hM := zE_n hM (by first | (have q3 := zhx q3; have q4 := zhx q4; omega) | (simp only [zhx q3, zhx q4] at h1 h2 h5 ⊢ <;> omega))
        replace hM := zE_n hM (by first | (have q3 := zhx q3; have q4 := zhx q4; omega) | (simp only [zhx q3, zhx q4] at h1 h2 h5 ⊢ <;> omega))
        replace hM := zE_n hM (by first | (have q3 := zhx q3; have q4 := zhx q4; omega) | (simp only [zhx q3, zhx q4] at h1 h2 h5 ⊢ <;> omega))
        replace hM := zE_n hM (by first | (have q3 := zhx q3; have q4 := zhx q4; omega) | (simp only [zhx q3, zhx q4] at h1 h2 h5 ⊢ <;> omega))
        obtain ⟨Ym15, hYm15, hM⟩ := zl_x hM
        have hR16 : zRx [] 0 Z Ym15 := zRx_o hRb hYm15 rfl
        have hV17 : zV Ym15 := zV_o hV hYm15 rfl
        have hG18 := yFr_o hG hYm15 rfl (.inr rfl) rfl
        have q19 := zhd ((zu_ne (k' := 2) (b' := 0) (i' := 0) (j' := 3200) hYm15 (fun q => absurd q.1 (by decide))))
        replace hM := zE_n hM (by first | (have q3 := zhx q3; have q4 := zhx q4; have q19 := zhx q19; omega) | (simp only [zhx q3, zhx q4, zhx q19] at h1 h2 h5 ⊢ <;> omega))
        obtain ⟨Ym20, hYm20, hM⟩ := zl_x hM
        have hR21 : zRx [] 0 Z Ym20 := zRx_o hR16 hYm20 rfl
        have hV22 : zV Ym20 := zV_o hV17 hYm20 rfl
        have hG23 := yFr_o hG18 hYm20 rfl (.inr rfl) rfl
        obtain ⟨Zc24, hZc24, hC⟩ := zl_x hC
        obtain ⟨Ym25, hYm25, hM⟩ := zl_x hM
        have hR26 : zRx [] 0 Zc24 Ym25 := zRx_dd hR21 hI hd hZc24 hYm25
        have hV27 : zV Ym25 := zV_dm hV22 hd hYm25
        have hF28 : zFc [1108, 5000, 5001, 5003, 5007, 5008] 0 Zc24 Zc24 := zFc_r
        have hG29 : yFr [1108, 5000, 5001, 5003, 5007] Ym25 Ym25 := yFr_r
        have q30 := zhd ((((yFa_dm hd hYm25 (3200) rfl).trans (zu_ne (k' := 2) (b' := 0) (i' := 0) (j' := 3200) hYm20 (fun q => absurd q.1 (by decide)))).trans (zhx q19)))
        have q31 := zhd (((zRl_11_8 (a := 3200) (zRx_1 hR26) (by omega)).trans (zhx q30)))
        obtain ⟨Zc32, hZc32, hC⟩ := zl_x hC
        obtain ⟨Ym33, hYm33, hM⟩ := zl_x hM
        have hV34 : zV Ym33 := zV_n hV27 hYm33 (zvn_50_0 (x := (Y 2 0 0 3200)) (by have q3 := zhx q3; have q4 := zhx q4; have q30 := zhx q30; omega) (by have q3 := zhx q3; have q4 := zhx q4; have q30 := zhx q30; omega) (by have q3 := zhx q3; have q4 := zhx q4; have q30 := zhx q30; omega))
        have hR35 : zRx [] 0 Zc32 Ym33 := zRx_w hR26 (ac_50_0 (by have q3 := zhx q3; have q4 := zhx q4; have q30 := zhx q30; have q31 := zhx q31; omega) (by have q3 := zhx q3; have q4 := zhx q4; have q30 := zhx q30; have q31 := zhx q31; omega) (by have q3 := zhx q3; have q4 := zhx q4; have q30 := zhx q30; have q31 := zhx q31; omega)) hZc32 hYm33 (by first | rfl | (omega) | (simp only [] <;> omega))
        have hF36 := zFc_u hF28 hZc32 rfl rfl
        have hG37 := yFr_u hG29 hYm33 (zcm_s (ac_50_0 (a := 3250 + 24 * (Ym25 2 0 0 3200)) (x := (Y 2 0 0 3200)) (by have q3 := zhx q3; have q4 := zhx q4; have q30 := zhx q30; omega) (by have q3 := zhx q3; have q4 := zhx q4; have q30 := zhx q30; omega) (by have q3 := zhx q3; have q4 := zhx q4; have q30 := zhx q30; omega))) rfl
        obtain ⟨Zc38, hZc38, hC⟩ := zl_x hC
        obtain ⟨Ym39, hYm39, hM⟩ := zl_x hM
        have hV40 : zV Ym39 := zV_n hV34 hYm39 (zvn_50_1 (x := (Y 2 0 0 3200)) (by have q3 := zhx q3; have q4 := zhx q4; have q30 := zhx q30; omega) (by have q3 := zhx q3; have q4 := zhx q4; have q30 := zhx q30; omega) (by have q3 := zhx q3; have q4 := zhx q4; have q30 := zhx q30; omega))
        have hR41 : zRx [] 0 Zc38 Ym39 := zRx_w hR35 (ac_50_1 (by have q3 := zhx q3; have q4 := zhx q4; have q30 := zhx q30; have q31 := zhx q31; omega) (by have q3 := zhx q3; have q4 := zhx q4; have q30 := zhx q30; have q31 := zhx q31; omega) (by have q3 := zhx q3; have q4 := zhx q4; have q30 := zhx q30; have q31 := zhx q31; omega)) hZc38 hYm39 (by first | rfl | (omega) | (simp only [] <;> omega))
        have hF42 := zFc_u hF36 hZc38 rfl rfl
        have hG43 := yFr_u hG37 hYm39 (zcm_s (ac_50_1 (a := 3251 + 24 * (Ym25 2 0 0 3200)) (x := (Y 2 0 0 3200)) (by have q3 := zhx q3; have q4 := zhx q4; have q30 := zhx q30; omega) (by have q3 := zhx q3; have q4 := zhx q4; have q30 := zhx q30; omega) (by have q3 := zhx q3; have q4 := zhx q4; have q30 := zhx q30; omega))) rfl
        obtain ⟨Zc44, hZc44, hC⟩ := zl_x hC
        obtain ⟨Ym45, hYm45, hM⟩ := zl_x hM
        have hV46 : zV Ym45 := zV_n hV40 hYm45 (zvn_50_3 (x := (Y 2 0 0 3200)) (by have q3 := zhx q3; have q4 := zhx q4; have q30 := zhx q30; omega) (by have q3 := zhx q3; have q4 := zhx q4; have q30 := zhx q30; omega) (by have q3 := zhx q3; have q4 := zhx q4; have q30 := zhx q30; omega))
        have hR47 : zRx [] 0 Zc44 Ym45 := zRx_w hR41 (ac_50_3 (by have q3 := zhx q3; have q4 := zhx q4; have q30 := zhx q30; have q31 := zhx q31; omega) (by have q3 := zhx q3; have q4 := zhx q4; have q30 := zhx q30; have q31 := zhx q31; omega) (by have q3 := zhx q3; have q4 := zhx q4; have q30 := zhx q30; have q31 := zhx q31; omega)) hZc44 hYm45 (by first | rfl | (omega) | (simp only [] <;> omega))
        have hF48 := zFc_u hF42 hZc44 rfl rfl
        have hG49 := yFr_u hG43 hYm45 (zcm_s (ac_50_3 (a := 3253 + 24 * (Ym25 2 0 0 3200)) (x := (Y 2 0 0 3200)) (by have q3 := zhx q3; have q4 := zhx q4; have q30 := zhx q30; omega) (by have q3 := zhx q3; have q4 := zhx q4; have q30 := zhx q30; omega) (by have q3 := zhx q3; have q4 := zhx q4; have q30 := zhx q30; omega))) rfl
        obtain ⟨Zc50, hZc50, hC⟩ := zl_x hC
        obtain ⟨Ym51, hYm51, hM⟩ := zl_x hM
        have hV52 : zV Ym51 := zV_n hV46 hYm51 (zvn_50_7 (x := (Y 2 0 0 3200)) (by have q3 := zhx q3; have q4 := zhx q4; have q30 := zhx q30; omega) (by have q3 := zhx q3; have q4 := zhx q4; have q30 := zhx q30; omega) (by have q3 := zhx q3; have q4 := zhx q4; have q30 := zhx q30; omega))
        have hR53 : zRx [] 0 Zc50 Ym51 := zRx_w hR47 (ac_50_7 (by have q3 := zhx q3; have q4 := zhx q4; have q30 := zhx q30; have q31 := zhx q31; omega) (by have q3 := zhx q3; have q4 := zhx q4; have q30 := zhx q30; have q31 := zhx q31; omega) (by have q3 := zhx q3; have q4 := zhx q4; have q30 := zhx q30; have q31 := zhx q31; omega)) hZc50 hYm51 (by first | rfl | (omega) | (simp only [] <;> omega))
        have hF54 := zFc_u hF48 hZc50 rfl rfl
        have hG55 := yFr_u hG49 hYm51 (zcm_s (ac_50_7 (a := 3254 + 24 * (Ym25 2 0 0 3200)) (x := (Y 2 0 0 3200)) (by have q3 := zhx q3; have q4 := zhx q4; have q30 := zhx q30; omega) (by have q3 := zhx q3; have q4 := zhx q4; have q30 := zhx q30; omega) (by have q3 := zhx q3; have q4 := zhx q4; have q30 := zhx q30; omega))) rfl
        obtain ⟨Zc56, hZc56, hC⟩ := zl_x hC
        have hR57 : zRx [] 0 Zc56 Ym51 := zRx_n hR53 hZc56 (adn_50_8)
        have hF58 := zFc_u hF54 hZc56 rfl rfl
        have q59 := zhd ((((((zu_ne (k' := 2) (b' := 0) (i' := 0) (j' := 3200) hYm51 (fun q => absurd q.2.2.2 (by have q3 := zhx q3; have q4 := zhx q4; have q30 := zhx q30; omega))).trans (zu_ne (k' := 2) (b' := 0) (i' := 0) (j' := 3200) hYm45 (fun q => absurd q.2.2.2 (by have q3 := zhx q3; have q4 := zhx q4; have q30 := zhx q30; omega)))).trans (zu_ne (k' := 2) (b' := 0) (i' := 0) (j' := 3200) hYm39 (fun q => absurd q.2.2.2 (by have q3 := zhx q3; have q4 := zhx q4; have q30 := zhx q30; omega)))).trans (zu_ne (k' := 2) (b' := 0) (i' := 0) (j' := 3200) hYm33 (fun q => absurd q.2.2.2 (by have q3 := zhx q3; have q4 := zhx q4; have q30 := zhx q30; omega)))).trans (zhx q30)))
        have q60 := zhd (((zRl_11_8 (a := 3200) (zRx_1 hR57) (by omega)).trans (zhx q59)))
        obtain ⟨Zc61, hZc61, hC⟩ := zl_x hC
        obtain ⟨Ym62, hYm62, hM⟩ := zl_x hM
        have hV63 : zV Ym62 := zV_i hV52 hYm62 (zvi_11_8 (by have q3 := zhx q3; have q4 := zhx q4; omega)) (by have q3 := zhx q3; have q4 := zhx q4; have q59 := zhx q59; first | omega | exact w3_r _)
        have hR64 : zRx [] 0 Zc61 Ym62 := zRx_w hR57 (ac_11_8 (by have q3 := zhx q3; have q4 := zhx q4; omega)) hZc61 hYm62 (by first | rfl | (have q3 := zhx q3; have q59 := zhx q59; have q60 := zhx q60; omega) | (simp only [zhx q3, zhx q59, zhx q60] <;> omega))
        have hF65 := zFc_u hF58 hZc61 rfl rfl
        have hG66 := yFr_u hG55 hYm62 (zcm_s (ac_11_8 (a := 3200) (by have q3 := zhx q3; have q4 := zhx q4; omega))) rfl
        have th9 := (((((((zu_ne (k' := 1) (b' := 0) (i' := 0) (j' := 2) hYm62 (fun q => absurd q.1 (by decide))).trans (zu_ne (k' := 1) (b' := 0) (i' := 0) (j' := 2) hYm51 (fun q => absurd q.1 (by decide)))).trans (zu_ne (k' := 1) (b' := 0) (i' := 0) (j' := 2) hYm45 (fun q => absurd q.1 (by decide)))).trans (zu_ne (k' := 1) (b' := 0) (i' := 0) (j' := 2) hYm39 (fun q => absurd q.1 (by decide)))).trans (zu_ne (k' := 1) (b' := 0) (i' := 0) (j' := 2) hYm33 (fun q => absurd q.1 (by decide)))).trans (zTh_dm hd hYm25 (by decide))).trans (zu_at hYm20))
        obtain rfl : C = _ := hC
        obtain rfl : M = _ := hM
        exact ⟨zRx_1 hR64, hV63, ⟨Zc24, Ym25, .inr ⟨19, a1, a2, 0, 0, 0, 0, 20, Ym20, hZc24, yFr_w hG23 (by decide), hYm25, (by unfold zcode; omega)⟩, zFc_w hF65 (by decide), yFr_w hG66 (by decide)⟩, zThr_a th9 (by first | rfl | (have q3 := zhx q3; have q4 := zhx q4; have q30 := zhx q30; have q60 := zhx q60; omega) | (simp only [zhx q3, zhx q4, zhx q30, zhx q60] <;> omega) | (have q3 := zhx q3; have q4 := zhx q4; have q30 := zhx q30; have q60 := zhx q60; refine w3z ?_ ?_ ?_ <;> omega) | (have q3 := zhx q3; have q4 := zhx q4; have q30 := zhx q30; have q60 := zhx q60; refine w3y ?_ ?_ ?_ <;> omega) | (have q3 := zhx q3; have q4 := zhx q4; have q30 := zhx q30; have q60 := zhx q60; refine z2o ?_ ?_ ?_ <;> omega))⟩
    · replace hM := zE_n hM (by omega)
      replace hM := zE_n hM (by omega)
      rcases zE_c hM with ⟨h67, hM⟩ | ⟨h67, hM⟩
      · obtain ⟨Ym68, hYm68, hM⟩ := zl_x hM
        have hR69 : zRx [] 0 Z Ym68 := zRx_o hRb hYm68 rfl
        have hV70 : zV Ym68 := zV_o hV hYm68 rfl
        have hG71 := yFr_o hG hYm68 rfl (.inr rfl) rfl
        have th9 := (zu_at hYm68)
        obtain rfl : C = _ := hC
        obtain rfl : M = _ := hM
        exact ⟨zRx_1 hR69, hV70, ⟨Z, _, .inl ⟨rfl, yFr_w hG71 (by decide)⟩, zFc_r, yFr_r⟩, zThr_e th9 (by decide)⟩
      · rcases zE_c hM with ⟨h72, hM⟩ | ⟨h72, hM⟩
        · obtain ⟨Ym73, hYm73, hM⟩ := zl_x hM
          have hR74 : zRx [] 0 Z Ym73 := zRx_o hRb hYm73 rfl
          have hV75 : zV Ym73 := zV_o hV hYm73 rfl
          have hG76 := yFr_o hG hYm73 rfl (.inr rfl) rfl
          have th9 := (zu_at hYm73)
          obtain rfl : C = _ := hC
          obtain rfl : M = _ := hM
          exact ⟨zRx_1 hR74, hV75, ⟨Z, _, .inl ⟨rfl, yFr_w hG76 (by decide)⟩, zFc_r, yFr_r⟩, zThr_e th9 (by decide)⟩
        · obtain ⟨Ym77, hYm77, hM⟩ := zl_x hM
          have hR78 : zRx [] 0 Z Ym77 := zRx_o hRb hYm77 rfl
          have hV79 : zV Ym77 := zV_o hV hYm77 rfl
          have hG80 := yFr_o hG hYm77 rfl (.inr rfl) rfl
          have q81 := zhd (zVr_11_8 (a := 3200) hV (by omega))
          have q82 := zhd ((zu_ne (k' := 2) (b' := 0) (i' := 0) (j' := 3200) hYm77 (fun q => absurd q.1 (by decide))))
          rcases zE_c hM with ⟨h83, hM⟩ | ⟨h83, hM⟩
          · obtain ⟨Ym84, hYm84, hM⟩ := zl_x hM
            have hR85 : zRx [] 0 Z Ym84 := zRx_o hR78 hYm84 rfl
            have hV86 : zV Ym84 := zV_o hV79 hYm84 rfl
            have hG87 := yFr_o hG80 hYm84 rfl (.inr rfl) rfl
            exact False.elim (by have q81 := zhx q81; have q82 := zhx q82; first | omega | grind)
          · obtain ⟨Ym88, hYm88, hM⟩ := zl_x hM
            have hR89 : zRx [] 0 Z Ym88 := zRx_o hR78 hYm88 rfl
            have hV90 : zV Ym88 := zV_o hV79 hYm88 rfl
            have hG91 := yFr_o hG80 hYm88 rfl (.inr rfl) rfl
            exact False.elim (by have q81 := zhx q81; have q82 := zhx q82; first | omega | grind)
  · rcases zE_c hM with ⟨h92, hM⟩ | ⟨h92, hM⟩
    · obtain ⟨Ym93, hYm93, hM⟩ := zl_x hM
      have hR94 : zRx [] 0 Z Ym93 := zRx_o hRb hYm93 rfl
      have hV95 : zV Ym93 := zV_o hV hYm93 rfl
      have hG96 := yFr_o hG hYm93 rfl (.inr rfl) rfl
      have th9 := (zu_at hYm93)
      obtain rfl : C = _ := hC
      obtain rfl : M = _ := hM
      exact ⟨zRx_1 hR94, hV95, ⟨Z, _, .inl ⟨rfl, yFr_w hG96 (by decide)⟩, zFc_r, yFr_r⟩, zThr_e th9 (by decide)⟩
    · rcases zE_c hM with ⟨h97, hM⟩ | ⟨h97, hM⟩
      · obtain ⟨Ym98, hYm98, hM⟩ := zl_x hM
        have hR99 : zRx [] 0 Z Ym98 := zRx_o hRb hYm98 rfl
        have hV100 : zV Ym98 := zV_o hV hYm98 rfl
        have hG101 := yFr_o hG hYm98 rfl (.inr rfl) rfl
        have th9 := (zu_at hYm98)
        obtain rfl : C = _ := hC
        obtain rfl : M = _ := hM
        exact ⟨zRx_1 hR99, hV100, ⟨Z, _, .inl ⟨rfl, yFr_w hG101 (by decide)⟩, zFc_r, yFr_r⟩, zThr_e th9 (by decide)⟩
      · rcases zE_c hM with ⟨h102, hM⟩ | ⟨h102, hM⟩
        · obtain ⟨Ym103, hYm103, hM⟩ := zl_x hM
          have hR104 : zRx [] 0 Z Ym103 := zRx_o hRb hYm103 rfl
          have hV105 : zV Ym103 := zV_o hV hYm103 rfl
          have hG106 := yFr_o hG hYm103 rfl (.inr rfl) rfl
          have th9 := (zu_at hYm103)
          obtain rfl : C = _ := hC
          obtain rfl : M = _ := hM
          exact ⟨zRx_1 hR104, hV105, ⟨Z, _, .inl ⟨rfl, yFr_w hG106 (by decide)⟩, zFc_r, yFr_r⟩, zThr_e th9 (by decide)⟩
        · rcases zE_c hM with ⟨h107, hM⟩ | ⟨h107, hM⟩
          · obtain ⟨Ym108, hYm108, hM⟩ := zl_x hM
            have hR109 : zRx [] 0 Z Ym108 := zRx_o hRb hYm108 rfl
            have hV110 : zV Ym108 := zV_o hV hYm108 rfl
            have hG111 := yFr_o hG hYm108 rfl (.inr rfl) rfl
            have th9 := (zu_at hYm108)
            obtain rfl : C = _ := hC
            obtain rfl : M = _ := hM
            exact ⟨zRx_1 hR109, hV110, ⟨Z, _, .inl ⟨rfl, yFr_w hG111 (by decide)⟩, zFc_r, yFr_r⟩, zThr_e th9 (by decide)⟩
          · obtain ⟨Ym112, hYm112, hM⟩ := zl_x hM
            have hR113 : zRx [] 0 Z Ym112 := zRx_o hRb hYm112 rfl
            have hV114 : zV Ym112 := zV_o hV hYm112 rfl
            have hG115 := yFr_o hG hYm112 rfl (.inr rfl) rfl
            have q116 := zhd (zVr_11_8 (a := 3200) hV (by omega))
            have q117 := zhd ((zu_ne (k' := 2) (b' := 0) (i' := 0) (j' := 3200) hYm112 (fun q => absurd q.1 (by decide))))
            rcases zE_c hM with ⟨h118, hM⟩ | ⟨h118, hM⟩
            · obtain ⟨Ym119, hYm119, hM⟩ := zl_x hM
              have hR120 : zRx [] 0 Z Ym119 := zRx_o hR113 hYm119 rfl
              have hV121 : zV Ym119 := zV_o hV114 hYm119 rfl
              have hG122 := yFr_o hG115 hYm119 rfl (.inr rfl) rfl
              exact False.elim (by have q116 := zhx q116; have q117 := zhx q117; first | omega | grind)
            · obtain ⟨Ym123, hYm123, hM⟩ := zl_x hM
              have hR124 : zRx [] 0 Z Ym123 := zRx_o hR113 hYm123 rfl
              have hV125 : zV Ym123 := zV_o hV114 hYm123 rfl
              have hG126 := yFr_o hG115 hYm123 rfl (.inr rfl) rfl
              exact False.elim (by have q116 := zhx q116; have q117 := zhx q117; first | omega | grind)

/- face tariff -/
theorem rf_tariff {Z Y : qz_Z} {dm : qz_Z → Int → Int → Int → Int → Int → Int → Int → qz_Z} {a1 a2 : Int} (hRa : zR 0 Z Y) (hV : zV Y) (hI : zI none Z) (hd : zDf dm)   {C : qz_Z × Int × Int} {M : qz_Z × Int} (hC : zE C (zx_247 Z a1 a2)) (hM : zE M (zy_534 Y dm a1 a2)) : zR 0 C.1 M.1 ∧ zV M.1 ∧ zDd [1300] [1300, 99999] Z Y dm C.1 M.1 ∧ zThr [(13, 1)] C.2 (M.1 1 0 0 2) M.2 := by
  have hRb := zRx_0 hRa
  have hF : zFc [] 0 Z Z := zFc_r
  have hG : yFr [99999] Y Y := yFr_r
  unfold zx_247 at hC
  unfold zy_534 at hM
  rcases zE_c hC with ⟨h1, hC⟩ | ⟨h1, hC⟩
  · rcases zE_c hC with ⟨h2, hC⟩ | ⟨h2, hC⟩
    · replace hM := zE_n hM (by omega)
      replace hM := zE_n hM (by omega)
      replace hM := zE_n hM (by omega)
      replace hM := zE_n hM (by omega)
      obtain ⟨Ym3, hYm3, hM⟩ := zl_x hM
      have hR4 : zRx [] 0 Z Ym3 := zRx_o hRb hYm3 rfl
      have hV5 : zV Ym3 := zV_o hV hYm3 rfl
      have hG6 := yFr_o hG hYm3 rfl (.inr rfl) rfl
      obtain ⟨Zc7, hZc7, hC⟩ := zl_x hC
      obtain ⟨Ym8, hYm8, hM⟩ := zl_x hM
      have hR9 : zRx [] 0 Zc7 Ym8 := zRx_dd hR4 hI hd hZc7 hYm8
      have hV10 : zV Ym8 := zV_dm hV5 hd hYm8
      have hF11 : zFc [1300] 0 Zc7 Zc7 := zFc_r
      have hG12 : yFr [1300] Ym8 Ym8 := yFr_r
      obtain ⟨Zc13, hZc13, hC⟩ := zl_x hC
      obtain ⟨Ym14, hYm14, hM⟩ := zl_x hM
      have hV15 : zV Ym14 := zV_n hV10 hYm14 (zvn_13_s (x := a1) (by omega) (by omega) (by omega))
      have hR16 : zRx [] 0 Zc13 Ym14 := zRx_w hR9 (ac_13_s (by omega) (by omega) (by omega)) hZc13 hYm14 (by first | rfl | (omega) | (simp only [] <;> omega))
      have hF17 := zFc_u hF11 hZc13 rfl rfl
      have hG18 := yFr_u hG12 hYm14 (zcm_s (ac_13_s (a := 3810 + a1) (x := a1) (by omega) (by omega) (by omega))) rfl
      have th9 := (((zu_ne (k' := 1) (b' := 0) (i' := 0) (j' := 2) hYm14 (fun q => absurd q.1 (by decide))).trans (zTh_dm hd hYm8 (by decide))).trans (zu_at hYm3))
      have q19 := zhd (((yFa_dm hd hYm8 (3810 + a1) rfl).trans (zu_ne (k' := 2) (b' := 0) (i' := 0) (j' := 3810 + a1) hYm3 (fun q => absurd q.1 (by decide)))))
      have q20 := zhd (((zRl_13_s (x := a1) (a := 3810 + a1) (zRx_1 hR9) (by omega) (by omega) (by omega)).trans (zhx q19)))
      obtain rfl : C = _ := hC
      obtain rfl : M = _ := hM
      exact ⟨zRx_1 hR16, hV15, ⟨Zc7, Ym8, .inr ⟨24, a1, a2, 0, 0, 0, 0, 25, Ym3, hZc7, yFr_w hG6 (by decide), hYm8, (by unfold zcode; omega)⟩, zFc_w hF17 (by decide), yFr_w hG18 (by decide)⟩, zThr_a th9 (by first | rfl | (have q19 := zhx q19; have q20 := zhx q20; omega) | (simp only [zhx q19, zhx q20] <;> omega) | (have q19 := zhx q19; have q20 := zhx q20; refine w3z ?_ ?_ ?_ <;> omega) | (have q19 := zhx q19; have q20 := zhx q20; refine w3y ?_ ?_ ?_ <;> omega) | (have q19 := zhx q19; have q20 := zhx q20; refine z2o ?_ ?_ ?_ <;> omega))⟩
    · replace hM := zE_n hM (by omega)
      replace hM := zE_n hM (by omega)
      rcases zE_c hM with ⟨h21, hM⟩ | ⟨h21, hM⟩
      · obtain ⟨Ym22, hYm22, hM⟩ := zl_x hM
        have hR23 : zRx [] 0 Z Ym22 := zRx_o hRb hYm22 rfl
        have hV24 : zV Ym22 := zV_o hV hYm22 rfl
        have hG25 := yFr_o hG hYm22 rfl (.inr rfl) rfl
        have th9 := (zu_at hYm22)
        obtain rfl : C = _ := hC
        obtain rfl : M = _ := hM
        exact ⟨zRx_1 hR23, hV24, ⟨Z, _, .inl ⟨rfl, yFr_w hG25 (by decide)⟩, zFc_r, yFr_r⟩, zThr_e th9 (by decide)⟩
      · rcases zE_c hM with ⟨h26, hM⟩ | ⟨h26, hM⟩
        · obtain ⟨Ym27, hYm27, hM⟩ := zl_x hM
          have hR28 : zRx [] 0 Z Ym27 := zRx_o hRb hYm27 rfl
          have hV29 : zV Ym27 := zV_o hV hYm27 rfl
          have hG30 := yFr_o hG hYm27 rfl (.inr rfl) rfl
          have th9 := (zu_at hYm27)
          obtain rfl : C = _ := hC
          obtain rfl : M = _ := hM
          exact ⟨zRx_1 hR28, hV29, ⟨Z, _, .inl ⟨rfl, yFr_w hG30 (by decide)⟩, zFc_r, yFr_r⟩, zThr_e th9 (by decide)⟩
        · obtain ⟨Ym31, hYm31, hM⟩ := zl_x hM
          have hR32 : zRx [] 0 Z Ym31 := zRx_o hRb hYm31 rfl
          have hV33 : zV Ym31 := zV_o hV hYm31 rfl
          have hG34 := yFr_o hG hYm31 rfl (.inr rfl) rfl
          exact False.elim (by first | omega | grind)
  · rcases zE_c hM with ⟨h35, hM⟩ | ⟨h35, hM⟩
    · obtain ⟨Ym36, hYm36, hM⟩ := zl_x hM
      have hR37 : zRx [] 0 Z Ym36 := zRx_o hRb hYm36 rfl
      have hV38 : zV Ym36 := zV_o hV hYm36 rfl
      have hG39 := yFr_o hG hYm36 rfl (.inr rfl) rfl
      have th9 := (zu_at hYm36)
      obtain rfl : C = _ := hC
      obtain rfl : M = _ := hM
      exact ⟨zRx_1 hR37, hV38, ⟨Z, _, .inl ⟨rfl, yFr_w hG39 (by decide)⟩, zFc_r, yFr_r⟩, zThr_e th9 (by decide)⟩
    · rcases zE_c hM with ⟨h40, hM⟩ | ⟨h40, hM⟩
      · obtain ⟨Ym41, hYm41, hM⟩ := zl_x hM
        have hR42 : zRx [] 0 Z Ym41 := zRx_o hRb hYm41 rfl
        have hV43 : zV Ym41 := zV_o hV hYm41 rfl
        have hG44 := yFr_o hG hYm41 rfl (.inr rfl) rfl
        have th9 := (zu_at hYm41)
        obtain rfl : C = _ := hC
        obtain rfl : M = _ := hM
        exact ⟨zRx_1 hR42, hV43, ⟨Z, _, .inl ⟨rfl, yFr_w hG44 (by decide)⟩, zFc_r, yFr_r⟩, zThr_e th9 (by decide)⟩
      · rcases zE_c hM with ⟨h45, hM⟩ | ⟨h45, hM⟩
        · obtain ⟨Ym46, hYm46, hM⟩ := zl_x hM
          have hR47 : zRx [] 0 Z Ym46 := zRx_o hRb hYm46 rfl
          have hV48 : zV Ym46 := zV_o hV hYm46 rfl
          have hG49 := yFr_o hG hYm46 rfl (.inr rfl) rfl
          have th9 := (zu_at hYm46)
          obtain rfl : C = _ := hC
          obtain rfl : M = _ := hM
          exact ⟨zRx_1 hR47, hV48, ⟨Z, _, .inl ⟨rfl, yFr_w hG49 (by decide)⟩, zFc_r, yFr_r⟩, zThr_e th9 (by decide)⟩
        · rcases zE_c hM with ⟨h50, hM⟩ | ⟨h50, hM⟩
          · obtain ⟨Ym51, hYm51, hM⟩ := zl_x hM
            have hR52 : zRx [] 0 Z Ym51 := zRx_o hRb hYm51 rfl
            have hV53 : zV Ym51 := zV_o hV hYm51 rfl
            have hG54 := yFr_o hG hYm51 rfl (.inr rfl) rfl
            have th9 := (zu_at hYm51)
            obtain rfl : C = _ := hC
            obtain rfl : M = _ := hM
            exact ⟨zRx_1 hR52, hV53, ⟨Z, _, .inl ⟨rfl, yFr_w hG54 (by decide)⟩, zFc_r, yFr_r⟩, zThr_e th9 (by decide)⟩
          · obtain ⟨Ym55, hYm55, hM⟩ := zl_x hM
            have hR56 : zRx [] 0 Z Ym55 := zRx_o hRb hYm55 rfl
            have hV57 : zV Ym55 := zV_o hV hYm55 rfl
            have hG58 := yFr_o hG hYm55 rfl (.inr rfl) rfl
            exact False.elim (by first | omega | grind)

/- face set -/
theorem rf_set {Z Y : qz_Z} {dm : qz_Z → Int → Int → Int → Int → Int → Int → Int → qz_Z} {a1 a2 : Int} (hRa : zR 0 Z Y) (hV : zV Y) (hI : zI none Z) (hd : zDf dm)   {C : qz_Z × Int × Int} {M : qz_Z × Int} (hC : zE C (zx_240 Z a1 a2)) (hM : zE M (zy_500 Y dm a1 a2)) : zR 0 C.1 M.1 ∧ zV M.1 ∧ zDd [4303] [4303, 99999] Z Y dm C.1 M.1 ∧ zThr [(24, 1), (13, 2)] C.2 (M.1 1 0 0 2) M.2 := by
  have hRb := zRx_0 hRa
  have hF : zFc [] 0 Z Z := zFc_r
  have hG : yFr [99999] Y Y := yFr_r
  unfold zx_240 at hC
  unfold zy_500 at hM
  have q1 := zhd (zVr_11_2 (a := 1200) hV (by omega))
  have q2 := zhd ((zRl_11_2 (a := 1200) hRa (by omega)))
  rcases zE_c hC with ⟨h3, hC⟩ | ⟨h3, hC⟩
  · rcases zE_c hC with ⟨h4, hC⟩ | ⟨h4, hC⟩
    · replace hM := zE_n hM (by first | (have q1 := zhx q1; have q2 := zhx q2; omega) | (simp only [zhx q1, zhx q2] at h3 h4 ⊢ <;> omega))
      replace hM := zE_n hM (by first | (have q1 := zhx q1; have q2 := zhx q2; omega) | (simp only [zhx q1, zhx q2] at h3 h4 ⊢ <;> omega))
      obtain ⟨Ym5, hYm5, hM⟩ := zl_x hM
      have hR6 : zRx [] 0 Z Ym5 := zRx_o hRb hYm5 rfl
      have hV7 : zV Ym5 := zV_o hV hYm5 rfl
      have hG8 := yFr_o hG hYm5 rfl (.inr rfl) rfl
      replace hM := zE_n hM (by first | (have q1 := zhx q1; have q2 := zhx q2; omega) | (simp only [zhx q1, zhx q2] at h3 h4 ⊢ <;> omega))
      replace hM := zE_n hM (by first | (have q1 := zhx q1; have q2 := zhx q2; omega) | (simp only [zhx q1, zhx q2] at h3 h4 ⊢ <;> omega))
      obtain ⟨Ym9, hYm9, hM⟩ := zl_x hM
      have hR10 : zRx [] 0 Z Ym9 := zRx_o hR6 hYm9 rfl
      have hV11 : zV Ym9 := zV_o hV7 hYm9 rfl
      have hG12 := yFr_o hG8 hYm9 rfl (.inr rfl) rfl
      obtain ⟨Zc13, hZc13, hC⟩ := zl_x hC
      obtain ⟨Ym14, hYm14, hM⟩ := zl_x hM
      have hR15 : zRx [] 0 Zc13 Ym14 := zRx_dd hR10 hI hd hZc13 hYm14
      have hV16 : zV Ym14 := zV_dm hV11 hd hYm14
      have hF17 : zFc [4303] 0 Zc13 Zc13 := zFc_r
      have hG18 : yFr [4303] Ym14 Ym14 := yFr_r
      obtain ⟨Zc19, hZc19, hC⟩ := zl_x hC
      obtain ⟨Ym20, hYm20, hM⟩ := zl_x hM
      have hV21 : zV Ym20 := zV_n hV16 hYm20 (zvn_43_3 (x := a1) (by have q1 := zhx q1; have q2 := zhx q2; omega) (by have q1 := zhx q1; have q2 := zhx q2; omega) (by have q1 := zhx q1; have q2 := zhx q2; omega))
      have hR22 : zRx [] 0 Zc19 Ym20 := zRx_w hR15 (ac_43_3 (by have q1 := zhx q1; have q2 := zhx q2; omega) (by have q1 := zhx q1; have q2 := zhx q2; omega) (by have q1 := zhx q1; have q2 := zhx q2; omega)) hZc19 hYm20 (by first | rfl | (omega) | (simp only [] <;> omega))
      have hF23 := zFc_u hF17 hZc19 rfl rfl
      have hG24 := yFr_u hG18 hYm20 (zcm_s (ac_43_3 (a := 1213 + 12 * a1) (x := a1) (by have q1 := zhx q1; have q2 := zhx q2; omega) (by have q1 := zhx q1; have q2 := zhx q2; omega) (by have q1 := zhx q1; have q2 := zhx q2; omega))) rfl
      have th9 := (((zu_ne (k' := 1) (b' := 0) (i' := 0) (j' := 2) hYm20 (fun q => absurd q.1 (by decide))).trans (zTh_dm hd hYm14 (by decide))).trans (zu_at hYm9))
      have q25 := zhd ((((yFa_dm hd hYm14 (1213 + 12 * a1) rfl).trans (zu_ne (k' := 2) (b' := 0) (i' := 0) (j' := 1213 + 12 * a1) hYm9 (fun q => absurd q.1 (by decide)))).trans (zu_ne (k' := 2) (b' := 0) (i' := 0) (j' := 1213 + 12 * a1) hYm5 (fun q => absurd q.1 (by decide)))))
      have q26 := zhd (((zRl_43_3 (x := a1) (a := 1213 + 12 * a1) (zRx_1 hR15) (by have q1 := zhx q1; have q2 := zhx q2; omega) (by have q1 := zhx q1; have q2 := zhx q2; omega) (by have q1 := zhx q1; have q2 := zhx q2; omega)).trans (zhx q25)))
      obtain rfl : C = _ := hC
      obtain rfl : M = _ := hM
      exact ⟨zRx_1 hR22, hV21, ⟨Zc13, Ym14, .inr ⟨5, a1, a2, 0, 0, 0, 0, 6, Ym9, hZc13, yFr_w hG12 (by decide), hYm14, (by unfold zcode; omega)⟩, zFc_w hF23 (by decide), yFr_w hG24 (by decide)⟩, zThr_a th9 (by first | rfl | (have q1 := zhx q1; have q2 := zhx q2; have q25 := zhx q25; have q26 := zhx q26; omega) | (simp only [zhx q1, zhx q2, zhx q25, zhx q26] <;> omega) | (have q1 := zhx q1; have q2 := zhx q2; have q25 := zhx q25; have q26 := zhx q26; refine w3z ?_ ?_ ?_ <;> omega) | (have q1 := zhx q1; have q2 := zhx q2; have q25 := zhx q25; have q26 := zhx q26; refine w3y ?_ ?_ ?_ <;> omega) | (have q1 := zhx q1; have q2 := zhx q2; have q25 := zhx q25; have q26 := zhx q26; refine z2o ?_ ?_ ?_ <;> omega))⟩
    · replace hM := zE_n hM (by first | (have q1 := zhx q1; have q2 := zhx q2; omega) | (simp only [zhx q1, zhx q2] at h3 h4 ⊢ <;> omega))
      replace hM := zE_n hM (by first | (have q1 := zhx q1; have q2 := zhx q2; omega) | (simp only [zhx q1, zhx q2] at h3 h4 ⊢ <;> omega))
      obtain ⟨Ym27, hYm27, hM⟩ := zl_x hM
      have hR28 : zRx [] 0 Z Ym27 := zRx_o hRb hYm27 rfl
      have hV29 : zV Ym27 := zV_o hV hYm27 rfl
      have hG30 := yFr_o hG hYm27 rfl (.inr rfl) rfl
      rcases zE_c hM with ⟨h31, hM⟩ | ⟨h31, hM⟩
      · obtain ⟨Ym32, hYm32, hM⟩ := zl_x hM
        have hR33 : zRx [] 0 Z Ym32 := zRx_o hR28 hYm32 rfl
        have hV34 : zV Ym32 := zV_o hV29 hYm32 rfl
        have hG35 := yFr_o hG30 hYm32 rfl (.inr rfl) rfl
        have th9 := (zu_at hYm32)
        obtain rfl : C = _ := hC
        obtain rfl : M = _ := hM
        exact ⟨zRx_1 hR33, hV34, ⟨Z, _, .inl ⟨rfl, yFr_w hG35 (by decide)⟩, zFc_r, yFr_r⟩, zThr_e th9 (by decide)⟩
      · rcases zE_c hM with ⟨h36, hM⟩ | ⟨h36, hM⟩
        · obtain ⟨Ym37, hYm37, hM⟩ := zl_x hM
          have hR38 : zRx [] 0 Z Ym37 := zRx_o hR28 hYm37 rfl
          have hV39 : zV Ym37 := zV_o hV29 hYm37 rfl
          have hG40 := yFr_o hG30 hYm37 rfl (.inr rfl) rfl
          have th9 := (zu_at hYm37)
          obtain rfl : C = _ := hC
          obtain rfl : M = _ := hM
          exact ⟨zRx_1 hR38, hV39, ⟨Z, _, .inl ⟨rfl, yFr_w hG40 (by decide)⟩, zFc_r, yFr_r⟩, zThr_e th9 (by decide)⟩
        · obtain ⟨Ym41, hYm41, hM⟩ := zl_x hM
          have hR42 : zRx [] 0 Z Ym41 := zRx_o hR28 hYm41 rfl
          have hV43 : zV Ym41 := zV_o hV29 hYm41 rfl
          have hG44 := yFr_o hG30 hYm41 rfl (.inr rfl) rfl
          exact False.elim (by have q1 := zhx q1; have q2 := zhx q2; first | omega | grind)
  · rcases zE_c hM with ⟨h45, hM⟩ | ⟨h45, hM⟩
    · obtain ⟨Ym46, hYm46, hM⟩ := zl_x hM
      have hR47 : zRx [] 0 Z Ym46 := zRx_o hRb hYm46 rfl
      have hV48 : zV Ym46 := zV_o hV hYm46 rfl
      have hG49 := yFr_o hG hYm46 rfl (.inr rfl) rfl
      have th9 := (zu_at hYm46)
      obtain rfl : C = _ := hC
      obtain rfl : M = _ := hM
      exact ⟨zRx_1 hR47, hV48, ⟨Z, _, .inl ⟨rfl, yFr_w hG49 (by decide)⟩, zFc_r, yFr_r⟩, zThr_e th9 (by decide)⟩
    · rcases zE_c hM with ⟨h50, hM⟩ | ⟨h50, hM⟩
      · obtain ⟨Ym51, hYm51, hM⟩ := zl_x hM
        have hR52 : zRx [] 0 Z Ym51 := zRx_o hRb hYm51 rfl
        have hV53 : zV Ym51 := zV_o hV hYm51 rfl
        have hG54 := yFr_o hG hYm51 rfl (.inr rfl) rfl
        have th9 := (zu_at hYm51)
        obtain rfl : C = _ := hC
        obtain rfl : M = _ := hM
        exact ⟨zRx_1 hR52, hV53, ⟨Z, _, .inl ⟨rfl, yFr_w hG54 (by decide)⟩, zFc_r, yFr_r⟩, zThr_e th9 (by decide)⟩
      · obtain ⟨Ym55, hYm55, hM⟩ := zl_x hM
        have hR56 : zRx [] 0 Z Ym55 := zRx_o hRb hYm55 rfl
        have hV57 : zV Ym55 := zV_o hV hYm55 rfl
        have hG58 := yFr_o hG hYm55 rfl (.inr rfl) rfl
        rcases zE_c hM with ⟨h59, hM⟩ | ⟨h59, hM⟩
        · obtain ⟨Ym60, hYm60, hM⟩ := zl_x hM
          have hR61 : zRx [] 0 Z Ym60 := zRx_o hR56 hYm60 rfl
          have hV62 : zV Ym60 := zV_o hV57 hYm60 rfl
          have hG63 := yFr_o hG58 hYm60 rfl (.inr rfl) rfl
          exact False.elim (by have q1 := zhx q1; have q2 := zhx q2; first | omega | grind)
        · rcases zE_c hM with ⟨h64, hM⟩ | ⟨h64, hM⟩
          · obtain ⟨Ym65, hYm65, hM⟩ := zl_x hM
            have hR66 : zRx [] 0 Z Ym65 := zRx_o hR56 hYm65 rfl
            have hV67 : zV Ym65 := zV_o hV57 hYm65 rfl
            have hG68 := yFr_o hG58 hYm65 rfl (.inr rfl) rfl
            exact False.elim (by have q1 := zhx q1; have q2 := zhx q2; first | omega | grind)
          · obtain ⟨Ym69, hYm69, hM⟩ := zl_x hM
            have hR70 : zRx [] 0 Z Ym69 := zRx_o hR56 hYm69 rfl
            have hV71 : zV Ym69 := zV_o hV57 hYm69 rfl
            have hG72 := yFr_o hG58 hYm69 rfl (.inr rfl) rfl
            exact False.elim (by have q1 := zhx q1; have q2 := zhx q2; first | omega | grind)

/- face gas -/
theorem rf_gas {Z Y : qz_Z} {dm : qz_Z → Int → Int → Int → Int → Int → Int → Int → qz_Z} {a1 a2 : Int} (hRa : zR 0 Z Y) (hV : zV Y) (hI : zI none Z) (hd : zDf dm)   {C : qz_Z × Int × Int} {M : qz_Z × Int} (hC : zE C (zx_202 Z a1 a2)) (hM : zE M (zy_344 Y dm a1 a2)) : zR 0 C.1 M.1 ∧ zV M.1 ∧ zDd [4304] [4304, 99999] Z Y dm C.1 M.1 ∧ zThr [(24, 1)] C.2 (M.1 1 0 0 2) M.2 := by
  have hRb := zRx_0 hRa
  have hF : zFc [] 0 Z Z := zFc_r
  have hG : yFr [99999] Y Y := yFr_r
  unfold zx_202 at hC
  unfold zy_344 at hM
  have q1 := zhd (zVr_11_2 (a := 1200) hV (by omega))
  have q2 := zhd ((zRl_11_2 (a := 1200) hRa (by omega)))
  rcases zE_c hC with ⟨h3, hC⟩ | ⟨h3, hC⟩
  · rcases zE_c hC with ⟨h4, hC⟩ | ⟨h4, hC⟩
    · replace hM := zE_n hM (by first | (have q1 := zhx q1; have q2 := zhx q2; omega) | (simp only [zhx q1, zhx q2] at h3 h4 ⊢ <;> omega))
      replace hM := zE_n hM (by first | (have q1 := zhx q1; have q2 := zhx q2; omega) | (simp only [zhx q1, zhx q2] at h3 h4 ⊢ <;> omega))
      obtain ⟨Ym5, hYm5, hM⟩ := zl_x hM
      have hR6 : zRx [] 0 Z Ym5 := zRx_o hRb hYm5 rfl
      have hV7 : zV Ym5 := zV_o hV hYm5 rfl
      have hG8 := yFr_o hG hYm5 rfl (.inr rfl) rfl
      replace hM := zE_p hM (by first | (have q1 := zhx q1; have q2 := zhx q2; omega) | (simp only [zhx q1, zhx q2] at h3 h4 ⊢ <;> omega))
      obtain ⟨Zc9, hZc9, hC⟩ := zl_x hC
      obtain ⟨Ym10, hYm10, hM⟩ := zl_x hM
      have hR11 : zRx [] 0 Zc9 Ym10 := zRx_dd hR6 hI hd hZc9 hYm10
      have hV12 : zV Ym10 := zV_dm hV7 hd hYm10
      have hF13 : zFc [4304] 0 Zc9 Zc9 := zFc_r
      have hG14 : yFr [4304] Ym10 Ym10 := yFr_r
      have q15 := zhd (zVr_43_4 (x := a1) (a := 1214 + 12 * a1) hV (by have q1 := zhx q1; have q2 := zhx q2; omega) (by have q1 := zhx q1; have q2 := zhx q2; omega) (by have q1 := zhx q1; have q2 := zhx q2; omega))
      have q16 := zhd (((yFa_dm hd hYm10 (1214 + 12 * a1) rfl).trans (zu_ne (k' := 2) (b' := 0) (i' := 0) (j' := 1214 + 12 * a1) hYm5 (fun q => absurd q.1 (by decide)))))
      rcases zE_c hM with ⟨h17, hM⟩ | ⟨h17, hM⟩
      · obtain ⟨Zc18, hZc18, hC⟩ := zl_x hC
        obtain ⟨Ym19, hYm19, hM⟩ := zl_x hM
        have hV20 : zV Ym19 := zV_i hV12 hYm19 (zvi_43_4 (x := a1) (by first | (omega) | (have q1 := zhx q1; have q2 := zhx q2; have q15 := zhx q15; have q16 := zhx q16; omega)) (by first | (omega) | (have q1 := zhx q1; have q2 := zhx q2; have q15 := zhx q15; have q16 := zhx q16; omega)) (by first | (omega) | (have q1 := zhx q1; have q2 := zhx q2; have q15 := zhx q15; have q16 := zhx q16; omega))) (by have q1 := zhx q1; have q2 := zhx q2; have q15 := zhx q15; have q16 := zhx q16; first | omega | exact w3_r _)
        have hR21 : zRx [] 0 Zc18 Ym19 := zRx_w hR11 (ac_43_4 (by first | (omega) | (have q1 := zhx q1; have q2 := zhx q2; have q15 := zhx q15; have q16 := zhx q16; omega)) (by first | (omega) | (have q1 := zhx q1; have q2 := zhx q2; have q15 := zhx q15; have q16 := zhx q16; omega)) (by first | (omega) | (have q1 := zhx q1; have q2 := zhx q2; have q15 := zhx q15; have q16 := zhx q16; omega))) hZc18 hYm19 (by first | rfl | (omega) | (simp only [] <;> omega))
        have hF22 := zFc_u hF13 hZc18 rfl rfl
        have hG23 := yFr_u hG14 hYm19 (zcm_s (ac_43_4 (a := 1214 + 12 * a1) (x := a1) (by first | (omega) | (have q1 := zhx q1; have q2 := zhx q2; have q15 := zhx q15; have q16 := zhx q16; omega)) (by first | (omega) | (have q1 := zhx q1; have q2 := zhx q2; have q15 := zhx q15; have q16 := zhx q16; omega)) (by first | (omega) | (have q1 := zhx q1; have q2 := zhx q2; have q15 := zhx q15; have q16 := zhx q16; omega)))) rfl
        have q24 := zhd (((zRl_43_4 (x := a1) (a := 1214 + 12 * a1) (zRx_1 hR11) (by first | (omega) | (have q1 := zhx q1; have q2 := zhx q2; have q15 := zhx q15; have q16 := zhx q16; omega)) (by first | (omega) | (have q1 := zhx q1; have q2 := zhx q2; have q15 := zhx q15; have q16 := zhx q16; omega)) (by first | (omega) | (have q1 := zhx q1; have q2 := zhx q2; have q15 := zhx q15; have q16 := zhx q16; omega))).trans (zhx q16)))
        replace hC := zE_p hC (by first | (have q1 := zhx q1; have q2 := zhx q2; have q15 := zhx q15; have q16 := zhx q16; have q24 := zhx q24; omega) | (simp only [zhx q1, zhx q2, zhx q15, zhx q16, zhx q24] at h3 h4 h17 ⊢ <;> omega))
        have th9 := (((zu_ne (k' := 1) (b' := 0) (i' := 0) (j' := 2) hYm19 (fun q => absurd q.1 (by decide))).trans (zTh_dm hd hYm10 (by decide))).trans (zu_at hYm5))
        obtain rfl : C = _ := hC
        obtain rfl : M = _ := hM
        exact ⟨zRx_1 hR21, hV20, ⟨Zc9, Ym10, .inr ⟨6, a1, 0, 0, 0, 0, 0, 7, Ym5, hZc9, yFr_w hG8 (by decide), hYm10, (by unfold zcode; omega)⟩, zFc_w hF22 (by decide), yFr_w hG23 (by decide)⟩, zThr_a th9 (by first | rfl | (have q1 := zhx q1; have q2 := zhx q2; have q15 := zhx q15; have q16 := zhx q16; omega) | (simp only [zhx q1, zhx q2, zhx q15, zhx q16] <;> omega) | (have q1 := zhx q1; have q2 := zhx q2; have q15 := zhx q15; have q16 := zhx q16; refine w3z ?_ ?_ ?_ <;> omega) | (have q1 := zhx q1; have q2 := zhx q2; have q15 := zhx q15; have q16 := zhx q16; refine w3y ?_ ?_ ?_ <;> omega) | (have q1 := zhx q1; have q2 := zhx q2; have q15 := zhx q15; have q16 := zhx q16; refine z2o ?_ ?_ ?_ <;> omega))⟩
      · obtain ⟨Zc25, hZc25, hC⟩ := zl_x hC
        obtain ⟨Ym26, hYm26, hM⟩ := zl_x hM
        have hV27 : zV Ym26 := zV_i hV12 hYm26 (zvi_43_4 (x := a1) (by first | (omega) | (have q1 := zhx q1; have q2 := zhx q2; have q15 := zhx q15; have q16 := zhx q16; omega)) (by first | (omega) | (have q1 := zhx q1; have q2 := zhx q2; have q15 := zhx q15; have q16 := zhx q16; omega)) (by first | (omega) | (have q1 := zhx q1; have q2 := zhx q2; have q15 := zhx q15; have q16 := zhx q16; omega))) (by have q1 := zhx q1; have q2 := zhx q2; have q15 := zhx q15; have q16 := zhx q16; first | omega | exact w3_r _)
        have hR28 : zRx [] 0 Zc25 Ym26 := zRx_w hR11 (ac_43_4 (by first | (omega) | (have q1 := zhx q1; have q2 := zhx q2; have q15 := zhx q15; have q16 := zhx q16; omega)) (by first | (omega) | (have q1 := zhx q1; have q2 := zhx q2; have q15 := zhx q15; have q16 := zhx q16; omega)) (by first | (omega) | (have q1 := zhx q1; have q2 := zhx q2; have q15 := zhx q15; have q16 := zhx q16; omega))) hZc25 hYm26 (by first | rfl | (omega) | (simp only [] <;> omega))
        have hF29 := zFc_u hF13 hZc25 rfl rfl
        have hG30 := yFr_u hG14 hYm26 (zcm_s (ac_43_4 (a := 1214 + 12 * a1) (x := a1) (by first | (omega) | (have q1 := zhx q1; have q2 := zhx q2; have q15 := zhx q15; have q16 := zhx q16; omega)) (by first | (omega) | (have q1 := zhx q1; have q2 := zhx q2; have q15 := zhx q15; have q16 := zhx q16; omega)) (by first | (omega) | (have q1 := zhx q1; have q2 := zhx q2; have q15 := zhx q15; have q16 := zhx q16; omega)))) rfl
        have q31 := zhd (((zRl_43_4 (x := a1) (a := 1214 + 12 * a1) (zRx_1 hR11) (by first | (omega) | (have q1 := zhx q1; have q2 := zhx q2; have q15 := zhx q15; have q16 := zhx q16; omega)) (by first | (omega) | (have q1 := zhx q1; have q2 := zhx q2; have q15 := zhx q15; have q16 := zhx q16; omega)) (by first | (omega) | (have q1 := zhx q1; have q2 := zhx q2; have q15 := zhx q15; have q16 := zhx q16; omega))).trans (zhx q16)))
        replace hC := zE_n hC (by first | (have q1 := zhx q1; have q2 := zhx q2; have q15 := zhx q15; have q16 := zhx q16; have q31 := zhx q31; omega) | (simp only [zhx q1, zhx q2, zhx q15, zhx q16, zhx q31] at h3 h4 h17 ⊢ <;> omega))
        have th9 := (((zu_ne (k' := 1) (b' := 0) (i' := 0) (j' := 2) hYm26 (fun q => absurd q.1 (by decide))).trans (zTh_dm hd hYm10 (by decide))).trans (zu_at hYm5))
        obtain rfl : C = _ := hC
        obtain rfl : M = _ := hM
        exact ⟨zRx_1 hR28, hV27, ⟨Zc9, Ym10, .inr ⟨6, a1, 0, 0, 0, 0, 0, 7, Ym5, hZc9, yFr_w hG8 (by decide), hYm10, (by unfold zcode; omega)⟩, zFc_w hF29 (by decide), yFr_w hG30 (by decide)⟩, zThr_a th9 (by first | rfl | (have q1 := zhx q1; have q2 := zhx q2; have q15 := zhx q15; have q16 := zhx q16; omega) | (simp only [zhx q1, zhx q2, zhx q15, zhx q16] <;> omega) | (have q1 := zhx q1; have q2 := zhx q2; have q15 := zhx q15; have q16 := zhx q16; refine w3z ?_ ?_ ?_ <;> omega) | (have q1 := zhx q1; have q2 := zhx q2; have q15 := zhx q15; have q16 := zhx q16; refine w3y ?_ ?_ ?_ <;> omega) | (have q1 := zhx q1; have q2 := zhx q2; have q15 := zhx q15; have q16 := zhx q16; refine z2o ?_ ?_ ?_ <;> omega))⟩
    · replace hM := zE_n hM (by first | (have q1 := zhx q1; have q2 := zhx q2; omega) | (simp only [zhx q1, zhx q2] at h3 h4 ⊢ <;> omega))
      replace hM := zE_n hM (by first | (have q1 := zhx q1; have q2 := zhx q2; omega) | (simp only [zhx q1, zhx q2] at h3 h4 ⊢ <;> omega))
      obtain ⟨Ym32, hYm32, hM⟩ := zl_x hM
      have hR33 : zRx [] 0 Z Ym32 := zRx_o hRb hYm32 rfl
      have hV34 : zV Ym32 := zV_o hV hYm32 rfl
      have hG35 := yFr_o hG hYm32 rfl (.inr rfl) rfl
      replace hM := zE_n hM (by first | (have q1 := zhx q1; have q2 := zhx q2; omega) | (simp only [zhx q1, zhx q2] at h3 h4 ⊢ <;> omega))
      obtain ⟨Zc36, hZc36, hC⟩ := zl_x hC
      obtain ⟨Ym37, hYm37, hM⟩ := zl_x hM
      have hR38 : zRx [] 0 Zc36 Ym37 := zRx_dd hR33 hI hd hZc36 hYm37
      have hV39 : zV Ym37 := zV_dm hV34 hd hYm37
      have hF40 : zFc [4304] 0 Zc36 Zc36 := zFc_r
      have hG41 : yFr [4304] Ym37 Ym37 := yFr_r
      have q42 := zhd (zVr_43_4 (x := a1) (a := 1214 + 12 * a1) hV (by have q1 := zhx q1; have q2 := zhx q2; omega) (by have q1 := zhx q1; have q2 := zhx q2; omega) (by have q1 := zhx q1; have q2 := zhx q2; omega))
      have q43 := zhd (((yFa_dm hd hYm37 (1214 + 12 * a1) rfl).trans (zu_ne (k' := 2) (b' := 0) (i' := 0) (j' := 1214 + 12 * a1) hYm32 (fun q => absurd q.1 (by decide)))))
      rcases zE_c hM with ⟨h44, hM⟩ | ⟨h44, hM⟩
      · obtain ⟨Zc45, hZc45, hC⟩ := zl_x hC
        obtain ⟨Ym46, hYm46, hM⟩ := zl_x hM
        have hV47 : zV Ym46 := zV_i hV39 hYm46 (zvi_43_4 (x := a1) (by first | (omega) | (have q1 := zhx q1; have q2 := zhx q2; have q42 := zhx q42; have q43 := zhx q43; omega)) (by first | (omega) | (have q1 := zhx q1; have q2 := zhx q2; have q42 := zhx q42; have q43 := zhx q43; omega)) (by first | (omega) | (have q1 := zhx q1; have q2 := zhx q2; have q42 := zhx q42; have q43 := zhx q43; omega))) (by have q1 := zhx q1; have q2 := zhx q2; have q42 := zhx q42; have q43 := zhx q43; first | omega | exact w3_r _)
        have hR48 : zRx [] 0 Zc45 Ym46 := zRx_w hR38 (ac_43_4 (by first | (omega) | (have q1 := zhx q1; have q2 := zhx q2; have q42 := zhx q42; have q43 := zhx q43; omega)) (by first | (omega) | (have q1 := zhx q1; have q2 := zhx q2; have q42 := zhx q42; have q43 := zhx q43; omega)) (by first | (omega) | (have q1 := zhx q1; have q2 := zhx q2; have q42 := zhx q42; have q43 := zhx q43; omega))) hZc45 hYm46 (by first | rfl | (omega) | (simp only [] <;> omega))
        have hF49 := zFc_u hF40 hZc45 rfl rfl
        have hG50 := yFr_u hG41 hYm46 (zcm_s (ac_43_4 (a := 1214 + 12 * a1) (x := a1) (by first | (omega) | (have q1 := zhx q1; have q2 := zhx q2; have q42 := zhx q42; have q43 := zhx q43; omega)) (by first | (omega) | (have q1 := zhx q1; have q2 := zhx q2; have q42 := zhx q42; have q43 := zhx q43; omega)) (by first | (omega) | (have q1 := zhx q1; have q2 := zhx q2; have q42 := zhx q42; have q43 := zhx q43; omega)))) rfl
        have q51 := zhd (((zRl_43_4 (x := a1) (a := 1214 + 12 * a1) (zRx_1 hR38) (by first | (omega) | (have q1 := zhx q1; have q2 := zhx q2; have q42 := zhx q42; have q43 := zhx q43; omega)) (by first | (omega) | (have q1 := zhx q1; have q2 := zhx q2; have q42 := zhx q42; have q43 := zhx q43; omega)) (by first | (omega) | (have q1 := zhx q1; have q2 := zhx q2; have q42 := zhx q42; have q43 := zhx q43; omega))).trans (zhx q43)))
        replace hC := zE_p hC (by first | (have q1 := zhx q1; have q2 := zhx q2; have q42 := zhx q42; have q43 := zhx q43; have q51 := zhx q51; omega) | (simp only [zhx q1, zhx q2, zhx q42, zhx q43, zhx q51] at h3 h4 h44 ⊢ <;> omega))
        have th9 := (((zu_ne (k' := 1) (b' := 0) (i' := 0) (j' := 2) hYm46 (fun q => absurd q.1 (by decide))).trans (zTh_dm hd hYm37 (by decide))).trans (zu_at hYm32))
        obtain rfl : C = _ := hC
        obtain rfl : M = _ := hM
        exact ⟨zRx_1 hR48, hV47, ⟨Zc36, Ym37, .inr ⟨6, a1, 1, 0, 0, 0, 0, 7, Ym32, hZc36, yFr_w hG35 (by decide), hYm37, (by unfold zcode; omega)⟩, zFc_w hF49 (by decide), yFr_w hG50 (by decide)⟩, zThr_a th9 (by first | rfl | (have q1 := zhx q1; have q2 := zhx q2; have q42 := zhx q42; have q43 := zhx q43; omega) | (simp only [zhx q1, zhx q2, zhx q42, zhx q43] <;> omega) | (have q1 := zhx q1; have q2 := zhx q2; have q42 := zhx q42; have q43 := zhx q43; refine w3z ?_ ?_ ?_ <;> omega) | (have q1 := zhx q1; have q2 := zhx q2; have q42 := zhx q42; have q43 := zhx q43; refine w3y ?_ ?_ ?_ <;> omega) | (have q1 := zhx q1; have q2 := zhx q2; have q42 := zhx q42; have q43 := zhx q43; refine z2o ?_ ?_ ?_ <;> omega))⟩
      · obtain ⟨Zc52, hZc52, hC⟩ := zl_x hC
        obtain ⟨Ym53, hYm53, hM⟩ := zl_x hM
        have hV54 : zV Ym53 := zV_i hV39 hYm53 (zvi_43_4 (x := a1) (by first | (omega) | (have q1 := zhx q1; have q2 := zhx q2; have q42 := zhx q42; have q43 := zhx q43; omega)) (by first | (omega) | (have q1 := zhx q1; have q2 := zhx q2; have q42 := zhx q42; have q43 := zhx q43; omega)) (by first | (omega) | (have q1 := zhx q1; have q2 := zhx q2; have q42 := zhx q42; have q43 := zhx q43; omega))) (by have q1 := zhx q1; have q2 := zhx q2; have q42 := zhx q42; have q43 := zhx q43; first | omega | exact w3_r _)
        have hR55 : zRx [] 0 Zc52 Ym53 := zRx_w hR38 (ac_43_4 (by first | (omega) | (have q1 := zhx q1; have q2 := zhx q2; have q42 := zhx q42; have q43 := zhx q43; omega)) (by first | (omega) | (have q1 := zhx q1; have q2 := zhx q2; have q42 := zhx q42; have q43 := zhx q43; omega)) (by first | (omega) | (have q1 := zhx q1; have q2 := zhx q2; have q42 := zhx q42; have q43 := zhx q43; omega))) hZc52 hYm53 (by first | rfl | (omega) | (simp only [] <;> omega))
        have hF56 := zFc_u hF40 hZc52 rfl rfl
        have hG57 := yFr_u hG41 hYm53 (zcm_s (ac_43_4 (a := 1214 + 12 * a1) (x := a1) (by first | (omega) | (have q1 := zhx q1; have q2 := zhx q2; have q42 := zhx q42; have q43 := zhx q43; omega)) (by first | (omega) | (have q1 := zhx q1; have q2 := zhx q2; have q42 := zhx q42; have q43 := zhx q43; omega)) (by first | (omega) | (have q1 := zhx q1; have q2 := zhx q2; have q42 := zhx q42; have q43 := zhx q43; omega)))) rfl
        have q58 := zhd (((zRl_43_4 (x := a1) (a := 1214 + 12 * a1) (zRx_1 hR38) (by first | (omega) | (have q1 := zhx q1; have q2 := zhx q2; have q42 := zhx q42; have q43 := zhx q43; omega)) (by first | (omega) | (have q1 := zhx q1; have q2 := zhx q2; have q42 := zhx q42; have q43 := zhx q43; omega)) (by first | (omega) | (have q1 := zhx q1; have q2 := zhx q2; have q42 := zhx q42; have q43 := zhx q43; omega))).trans (zhx q43)))
        replace hC := zE_n hC (by first | (have q1 := zhx q1; have q2 := zhx q2; have q42 := zhx q42; have q43 := zhx q43; have q58 := zhx q58; omega) | (simp only [zhx q1, zhx q2, zhx q42, zhx q43, zhx q58] at h3 h4 h44 ⊢ <;> omega))
        have th9 := (((zu_ne (k' := 1) (b' := 0) (i' := 0) (j' := 2) hYm53 (fun q => absurd q.1 (by decide))).trans (zTh_dm hd hYm37 (by decide))).trans (zu_at hYm32))
        obtain rfl : C = _ := hC
        obtain rfl : M = _ := hM
        exact ⟨zRx_1 hR55, hV54, ⟨Zc36, Ym37, .inr ⟨6, a1, 1, 0, 0, 0, 0, 7, Ym32, hZc36, yFr_w hG35 (by decide), hYm37, (by unfold zcode; omega)⟩, zFc_w hF56 (by decide), yFr_w hG57 (by decide)⟩, zThr_a th9 (by first | rfl | (have q1 := zhx q1; have q2 := zhx q2; have q42 := zhx q42; have q43 := zhx q43; omega) | (simp only [zhx q1, zhx q2, zhx q42, zhx q43] <;> omega) | (have q1 := zhx q1; have q2 := zhx q2; have q42 := zhx q42; have q43 := zhx q43; refine w3z ?_ ?_ ?_ <;> omega) | (have q1 := zhx q1; have q2 := zhx q2; have q42 := zhx q42; have q43 := zhx q43; refine w3y ?_ ?_ ?_ <;> omega) | (have q1 := zhx q1; have q2 := zhx q2; have q42 := zhx q42; have q43 := zhx q43; refine z2o ?_ ?_ ?_ <;> omega))⟩
  · rcases zE_c hM with ⟨h59, hM⟩ | ⟨h59, hM⟩
    · obtain ⟨Ym60, hYm60, hM⟩ := zl_x hM
      have hR61 : zRx [] 0 Z Ym60 := zRx_o hRb hYm60 rfl
      have hV62 : zV Ym60 := zV_o hV hYm60 rfl
      have hG63 := yFr_o hG hYm60 rfl (.inr rfl) rfl
      have th9 := (zu_at hYm60)
      obtain rfl : C = _ := hC
      obtain rfl : M = _ := hM
      exact ⟨zRx_1 hR61, hV62, ⟨Z, _, .inl ⟨rfl, yFr_w hG63 (by decide)⟩, zFc_r, yFr_r⟩, zThr_e th9 (by decide)⟩
    · rcases zE_c hM with ⟨h64, hM⟩ | ⟨h64, hM⟩
      · obtain ⟨Ym65, hYm65, hM⟩ := zl_x hM
        have hR66 : zRx [] 0 Z Ym65 := zRx_o hRb hYm65 rfl
        have hV67 : zV Ym65 := zV_o hV hYm65 rfl
        have hG68 := yFr_o hG hYm65 rfl (.inr rfl) rfl
        have th9 := (zu_at hYm65)
        obtain rfl : C = _ := hC
        obtain rfl : M = _ := hM
        exact ⟨zRx_1 hR66, hV67, ⟨Z, _, .inl ⟨rfl, yFr_w hG68 (by decide)⟩, zFc_r, yFr_r⟩, zThr_e th9 (by decide)⟩
      · obtain ⟨Ym69, hYm69, hM⟩ := zl_x hM
        have hR70 : zRx [] 0 Z Ym69 := zRx_o hRb hYm69 rfl
        have hV71 : zV Ym69 := zV_o hV hYm69 rfl
        have hG72 := yFr_o hG hYm69 rfl (.inr rfl) rfl
        rcases zE_c hM with ⟨h73, hM⟩ | ⟨h73, hM⟩
        · exact False.elim (by have q1 := zhx q1; have q2 := zhx q2; first | omega | grind)
        · exact False.elim (by have q1 := zhx q1; have q2 := zhx q2; first | omega | grind)

/- face account -/
theorem rf_account {Z Y : qz_Z} {dm : qz_Z → Int → Int → Int → Int → Int → Int → Int → qz_Z} {a1 : Int} (hRa : zR 0 Z Y) (hV : zV Y) (hI : zI none Z) (hd : zDf dm)   {C : qz_Z × Int × Int} {M : qz_Z × Int} (hC : zE C (zx_185 Z a1)) (hM : zE M (zy_256 Y a1)) : zR 0 C.1 M.1 ∧ zV M.1 ∧ zDd [] [99999] Z Y dm C.1 M.1 ∧ zThr [(13, 1)] C.2 (M.1 1 0 0 2) M.2 := by
  have hRb := zRx_0 hRa
  have hF : zFc [] 0 Z Z := zFc_r
  have hG : yFr [99999] Y Y := yFr_r
  unfold zx_185 at hC
  unfold zy_256 at hM
  rcases zE_c hC with ⟨h1, hC⟩ | ⟨h1, hC⟩
  · replace hM := zE_n hM (by omega)
    replace hM := zE_n hM (by omega)
    obtain ⟨Ym2, hYm2, hM⟩ := zl_x hM
    have hR3 : zRx [] 0 Z Ym2 := zRx_o hRb hYm2 rfl
    have hV4 : zV Ym2 := zV_o hV hYm2 rfl
    have hG5 := yFr_o hG hYm2 rfl (.inr rfl) rfl
    have th9 := (zu_at hYm2)
    have q6 := zhd ((zu_ne (k' := 2) (b' := 0) (i' := 0) (j' := 3800 + a1) hYm2 (fun q => absurd q.1 (by decide))))
    have q7 := zhd (((zRl_14_s (x := a1) (a := 3800 + a1) (zRx_1 hR3) (by omega) (by omega) (by omega)).trans (zhx q6)))
    obtain rfl : C = _ := hC
    obtain rfl : M = _ := hM
    exact ⟨zRx_1 hR3, hV4, ⟨Z, _, .inl ⟨rfl, yFr_w hG5 (by decide)⟩, zFc_r, yFr_r⟩, zThr_a th9 (by first | rfl | (have q6 := zhx q6; have q7 := zhx q7; omega) | (simp only [zhx q6, zhx q7] <;> omega) | (have q6 := zhx q6; have q7 := zhx q7; refine w3z ?_ ?_ ?_ <;> omega) | (have q6 := zhx q6; have q7 := zhx q7; refine w3y ?_ ?_ ?_ <;> omega) | (have q6 := zhx q6; have q7 := zhx q7; refine z2o ?_ ?_ ?_ <;> omega))⟩
  · rcases zE_c hM with ⟨h8, hM⟩ | ⟨h8, hM⟩
    · obtain ⟨Ym9, hYm9, hM⟩ := zl_x hM
      have hR10 : zRx [] 0 Z Ym9 := zRx_o hRb hYm9 rfl
      have hV11 : zV Ym9 := zV_o hV hYm9 rfl
      have hG12 := yFr_o hG hYm9 rfl (.inr rfl) rfl
      have th9 := (zu_at hYm9)
      obtain rfl : C = _ := hC
      obtain rfl : M = _ := hM
      exact ⟨zRx_1 hR10, hV11, ⟨Z, _, .inl ⟨rfl, yFr_w hG12 (by decide)⟩, zFc_r, yFr_r⟩, zThr_e th9 (by decide)⟩
    · rcases zE_c hM with ⟨h13, hM⟩ | ⟨h13, hM⟩
      · obtain ⟨Ym14, hYm14, hM⟩ := zl_x hM
        have hR15 : zRx [] 0 Z Ym14 := zRx_o hRb hYm14 rfl
        have hV16 : zV Ym14 := zV_o hV hYm14 rfl
        have hG17 := yFr_o hG hYm14 rfl (.inr rfl) rfl
        have th9 := (zu_at hYm14)
        obtain rfl : C = _ := hC
        obtain rfl : M = _ := hM
        exact ⟨zRx_1 hR15, hV16, ⟨Z, _, .inl ⟨rfl, yFr_w hG17 (by decide)⟩, zFc_r, yFr_r⟩, zThr_e th9 (by decide)⟩
      · obtain ⟨Ym18, hYm18, hM⟩ := zl_x hM
        have hR19 : zRx [] 0 Z Ym18 := zRx_o hRb hYm18 rfl
        have hV20 : zV Ym18 := zV_o hV hYm18 rfl
        have hG21 := yFr_o hG hYm18 rfl (.inr rfl) rfl
        exact False.elim (by first | omega | grind)

/- face way -/
theorem rf_way {Z Y : qz_Z} {dm : qz_Z → Int → Int → Int → Int → Int → Int → Int → qz_Z} {a1 a2 a3 : Int} (hRa : zR 0 Z Y) (hV : zV Y) (hI : zI none Z) (hd : zDf dm) (hDw : zDw 0 Z Y)  {C : qz_Z × Int × Int} {M : qz_Z × Int} (hC : zE C (zx_253 Z a1 a2 a3)) (hM : zE M (zy_543 Y dm a1 a2 a3)) : zR 0 C.1 M.1 ∧ zV M.1 ∧ zDd [4000] [10070, 99999] Z Y dm C.1 M.1 ∧ zThr [(24, 1), (13, 2)] C.2 (M.1 1 0 0 2) M.2 := by
  have hRb := zRx_0 hRa
  have hF : zFc [] 0 Z Z := zFc_r
  have hG : yFr [99999] Y Y := yFr_r
  unfold zx_253 at hC
  unfold zy_543 at hM
  rcases zE_c hC with ⟨h1, hC⟩ | ⟨h1, hC⟩
  · rcases zE_c hC with ⟨h2, hC⟩ | ⟨h2, hC⟩
    · rcases zE_c hC with ⟨h3, hC⟩ | ⟨h3, hC⟩
      · rcases zE_c hC with ⟨h4, hC⟩ | ⟨h4, hC⟩
        · replace hM := zE_n hM (by omega)
          replace hM := zE_n hM (by omega)
          replace hM := zE_n hM (by omega)
          replace hM := zE_n hM (by omega)
          obtain ⟨Ym5, hYm5, hM⟩ := zl_x hM
          have hR6 : zRx [] 0 Z Ym5 := zRx_o hRb hYm5 rfl
          have hV7 : zV Ym5 := zV_o hV hYm5 rfl
          have hG8 := yFr_o hG hYm5 rfl (.inr rfl) rfl
          replace hM := zE_n hM (by omega)
          replace hM := zE_n hM (by omega)
          replace hM := zE_n hM (by omega)
          obtain ⟨Ym9, hYm9, hM⟩ := zl_x hM
          have hR10 : zRx [] 0 Z Ym9 := zRx_o hR6 hYm9 rfl
          have hV11 : zV Ym9 := zV_o hV7 hYm9 rfl
          have hG12 := yFr_o hG8 hYm9 rfl (.inr rfl) rfl
          obtain ⟨Zc13, hZc13, hC⟩ := zl_x hC
          obtain ⟨Ym14, hYm14, hM⟩ := zl_x hM
          have hR15 : zRx [] 0 Zc13 Ym14 := zRx_dd hR10 hI hd hZc13 hYm14
          have hV16 : zV Ym14 := zV_dm hV11 hd hYm14
          have hDw_17 : zDw 0 Zc13 Ym14 := (zDw_f (zDw_f hDw hF.1 hG12.1 ⟨rfl, rfl⟩) (zFa_dd hI hZc13) (yFa_dm hd hYm14) ⟨rfl, rfl⟩)
          have hF18 : zFc [4000] 0 Zc13 Zc13 := zFc_r
          have hG19 : yFr [10070] Ym14 Ym14 := yFr_r
          obtain ⟨Zc20, hZc20, hC⟩ := zl_x hC
          have hR21 : zRx [] 0 Zc20 Ym14 := zRx_n hR15 hZc20 rfl
          have hF22 := zFc_u hF18 hZc20 rfl rfl
          obtain ⟨Zc23, hZc23, hC⟩ := zl_x hC
          have hR24 : zRx [] 0 Zc23 Ym14 := zRx_n hR21 hZc23 rfl
          have hF25 := zFc_u hF22 hZc23 rfl rfl
          obtain ⟨Ym26, hYm26, hM⟩ := zl_x hM
          have hV27 : zV Ym26 := zV_n hV16 hYm26 (zvn_way (by omega) (by omega))
          have hR28 : zRx [] 0 Zc23 Ym26 := zRx_m hR24 hYm26 (adm_way (a := 3210 + 6 * a1 + a2) (by omega) (by omega))
          have hG29 := yFr_u hG19 hYm26 (zcm_way (a := 3210 + 6 * a1 + a2) (by omega) (by omega)) rfl
          obtain ⟨Ym30, hYm30, hM⟩ := zl_x hM
          have hV31 : zV Ym30 := zV_n hV27 hYm30 (zvn_way (by omega) (by omega))
          have hR32 : zRx [] 0 Zc23 Ym30 := zRx_m hR28 hYm30 (adm_way (a := 3210 + 6 * a2 + a1) (by omega) (by omega))
          have hG33 := yFr_u hG29 hYm30 (zcm_way (a := 3210 + 6 * a2 + a1) (by omega) (by omega)) rfl
          have th9 := ((((zu_ne (k' := 1) (b' := 0) (i' := 0) (j' := 2) hYm30 (fun q => absurd q.1 (by decide))).trans (zu_ne (k' := 1) (b' := 0) (i' := 0) (j' := 2) hYm26 (fun q => absurd q.1 (by decide)))).trans (zTh_dm hd hYm14 (by decide))).trans (zu_at hYm9))
          have q34 := zhd (((zFa_dd hI hZc13 40 a1 a2 rfl rfl).trans ((hDw a1 a2 (by omega) (by omega) (by omega) (by omega) (by omega)).trans (congrArg (Y 2 0 0) (show 3210 + 6 * a1 + a2 = 3210 + 6 * a1 + a2 from (by omega))))))
          have q35 := zhd ((((yFa_dm hd hYm14 (3210 + 6 * a1 + a2) rfl).trans (zu_ne (k' := 2) (b' := 0) (i' := 0) (j' := 3210 + 6 * a1 + a2) hYm9 (fun q => absurd q.1 (by decide)))).trans (zu_ne (k' := 2) (b' := 0) (i' := 0) (j' := 3210 + 6 * a1 + a2) hYm5 (fun q => absurd q.1 (by decide)))))
          obtain rfl : C = _ := hC
          obtain rfl : M = _ := hM
          exact ⟨zRx_1 hR32, hV31, ⟨Zc13, Ym14, .inr ⟨17, a1, a2, a3, 0, 0, 0, 18, Ym9, hZc13, yFr_w hG12 (by decide), hYm14, (by unfold zcode; omega)⟩, zFc_w hF25 (by decide), yFr_w hG33 (by decide)⟩, zThr_a th9 (by first | rfl | (have q34 := zhx q34; have q35 := zhx q35; omega) | (simp only [zhx q34, zhx q35] <;> omega) | (have q34 := zhx q34; have q35 := zhx q35; refine w3z ?_ ?_ ?_ <;> omega) | (have q34 := zhx q34; have q35 := zhx q35; refine w3y ?_ ?_ ?_ <;> omega) | (have q34 := zhx q34; have q35 := zhx q35; refine z2o ?_ ?_ ?_ <;> omega))⟩
        · replace hM := zE_n hM (by omega)
          replace hM := zE_n hM (by omega)
          replace hM := zE_n hM (by omega)
          replace hM := zE_n hM (by omega)
          obtain ⟨Ym36, hYm36, hM⟩ := zl_x hM
          have hR37 : zRx [] 0 Z Ym36 := zRx_o hRb hYm36 rfl
          have hV38 : zV Ym36 := zV_o hV hYm36 rfl
          have hG39 := yFr_o hG hYm36 rfl (.inr rfl) rfl
          replace hM := zE_n hM (by omega)
          rcases zE_c hM with ⟨h40, hM⟩ | ⟨h40, hM⟩
          · obtain ⟨Ym41, hYm41, hM⟩ := zl_x hM
            have hR42 : zRx [] 0 Z Ym41 := zRx_o hR37 hYm41 rfl
            have hV43 : zV Ym41 := zV_o hV38 hYm41 rfl
            have hG44 := yFr_o hG39 hYm41 rfl (.inr rfl) rfl
            have th9 := (zu_at hYm41)
            obtain rfl : C = _ := hC
            obtain rfl : M = _ := hM
            exact ⟨zRx_1 hR42, hV43, ⟨Z, _, .inl ⟨rfl, yFr_w hG44 (by decide)⟩, zFc_r, yFr_r⟩, zThr_e th9 (by decide)⟩
          · rcases zE_c hM with ⟨h45, hM⟩ | ⟨h45, hM⟩
            · obtain ⟨Ym46, hYm46, hM⟩ := zl_x hM
              have hR47 : zRx [] 0 Z Ym46 := zRx_o hR37 hYm46 rfl
              have hV48 : zV Ym46 := zV_o hV38 hYm46 rfl
              have hG49 := yFr_o hG39 hYm46 rfl (.inr rfl) rfl
              have th9 := (zu_at hYm46)
              obtain rfl : C = _ := hC
              obtain rfl : M = _ := hM
              exact ⟨zRx_1 hR47, hV48, ⟨Z, _, .inl ⟨rfl, yFr_w hG49 (by decide)⟩, zFc_r, yFr_r⟩, zThr_e th9 (by decide)⟩
            · obtain ⟨Ym50, hYm50, hM⟩ := zl_x hM
              have hR51 : zRx [] 0 Z Ym50 := zRx_o hR37 hYm50 rfl
              have hV52 : zV Ym50 := zV_o hV38 hYm50 rfl
              have hG53 := yFr_o hG39 hYm50 rfl (.inr rfl) rfl
              exact False.elim (by first | omega | grind)
      · replace hM := zE_n hM (by omega)
        replace hM := zE_n hM (by omega)
        replace hM := zE_n hM (by omega)
        replace hM := zE_n hM (by omega)
        obtain ⟨Ym54, hYm54, hM⟩ := zl_x hM
        have hR55 : zRx [] 0 Z Ym54 := zRx_o hRb hYm54 rfl
        have hV56 : zV Ym54 := zV_o hV hYm54 rfl
        have hG57 := yFr_o hG hYm54 rfl (.inr rfl) rfl
        replace hM := zE_p hM (by omega)
        obtain ⟨Ym58, hYm58, hM⟩ := zl_x hM
        have hR59 : zRx [] 0 Z Ym58 := zRx_o hR55 hYm58 rfl
        have hV60 : zV Ym58 := zV_o hV56 hYm58 rfl
        have hG61 := yFr_o hG57 hYm58 rfl (.inr rfl) rfl
        have th9 := (zu_at hYm58)
        obtain rfl : C = _ := hC
        obtain rfl : M = _ := hM
        exact ⟨zRx_1 hR59, hV60, ⟨Z, _, .inl ⟨rfl, yFr_w hG61 (by decide)⟩, zFc_r, yFr_r⟩, zThr_e th9 (by decide)⟩
    · replace hM := zE_n hM (by omega)
      replace hM := zE_n hM (by omega)
      rcases zE_c hM with ⟨h62, hM⟩ | ⟨h62, hM⟩
      · obtain ⟨Ym63, hYm63, hM⟩ := zl_x hM
        have hR64 : zRx [] 0 Z Ym63 := zRx_o hRb hYm63 rfl
        have hV65 : zV Ym63 := zV_o hV hYm63 rfl
        have hG66 := yFr_o hG hYm63 rfl (.inr rfl) rfl
        have th9 := (zu_at hYm63)
        obtain rfl : C = _ := hC
        obtain rfl : M = _ := hM
        exact ⟨zRx_1 hR64, hV65, ⟨Z, _, .inl ⟨rfl, yFr_w hG66 (by decide)⟩, zFc_r, yFr_r⟩, zThr_e th9 (by decide)⟩
      · rcases zE_c hM with ⟨h67, hM⟩ | ⟨h67, hM⟩
        · obtain ⟨Ym68, hYm68, hM⟩ := zl_x hM
          have hR69 : zRx [] 0 Z Ym68 := zRx_o hRb hYm68 rfl
          have hV70 : zV Ym68 := zV_o hV hYm68 rfl
          have hG71 := yFr_o hG hYm68 rfl (.inr rfl) rfl
          have th9 := (zu_at hYm68)
          obtain rfl : C = _ := hC
          obtain rfl : M = _ := hM
          exact ⟨zRx_1 hR69, hV70, ⟨Z, _, .inl ⟨rfl, yFr_w hG71 (by decide)⟩, zFc_r, yFr_r⟩, zThr_e th9 (by decide)⟩
        · obtain ⟨Ym72, hYm72, hM⟩ := zl_x hM
          have hR73 : zRx [] 0 Z Ym72 := zRx_o hRb hYm72 rfl
          have hV74 : zV Ym72 := zV_o hV hYm72 rfl
          have hG75 := yFr_o hG hYm72 rfl (.inr rfl) rfl
          rcases zE_c hM with ⟨h76, hM⟩ | ⟨h76, hM⟩
          · obtain ⟨Ym77, hYm77, hM⟩ := zl_x hM
            have hR78 : zRx [] 0 Z Ym77 := zRx_o hR73 hYm77 rfl
            have hV79 : zV Ym77 := zV_o hV74 hYm77 rfl
            have hG80 := yFr_o hG75 hYm77 rfl (.inr rfl) rfl
            exact False.elim (by first | omega | grind)
          · rcases zE_c hM with ⟨h81, hM⟩ | ⟨h81, hM⟩
            · obtain ⟨Ym82, hYm82, hM⟩ := zl_x hM
              have hR83 : zRx [] 0 Z Ym82 := zRx_o hR73 hYm82 rfl
              have hV84 : zV Ym82 := zV_o hV74 hYm82 rfl
              have hG85 := yFr_o hG75 hYm82 rfl (.inr rfl) rfl
              exact False.elim (by first | omega | grind)
            · rcases zE_c hM with ⟨h86, hM⟩ | ⟨h86, hM⟩
              · obtain ⟨Ym87, hYm87, hM⟩ := zl_x hM
                have hR88 : zRx [] 0 Z Ym87 := zRx_o hR73 hYm87 rfl
                have hV89 : zV Ym87 := zV_o hV74 hYm87 rfl
                have hG90 := yFr_o hG75 hYm87 rfl (.inr rfl) rfl
                exact False.elim (by first | omega | grind)
              · obtain ⟨Ym91, hYm91, hM⟩ := zl_x hM
                have hR92 : zRx [] 0 Z Ym91 := zRx_o hR73 hYm91 rfl
                have hV93 : zV Ym91 := zV_o hV74 hYm91 rfl
                have hG94 := yFr_o hG75 hYm91 rfl (.inr rfl) rfl
                exact False.elim (by first | omega | grind)
  · rcases zE_c hM with ⟨h95, hM⟩ | ⟨h95, hM⟩
    · obtain ⟨Ym96, hYm96, hM⟩ := zl_x hM
      have hR97 : zRx [] 0 Z Ym96 := zRx_o hRb hYm96 rfl
      have hV98 : zV Ym96 := zV_o hV hYm96 rfl
      have hG99 := yFr_o hG hYm96 rfl (.inr rfl) rfl
      have th9 := (zu_at hYm96)
      obtain rfl : C = _ := hC
      obtain rfl : M = _ := hM
      exact ⟨zRx_1 hR97, hV98, ⟨Z, _, .inl ⟨rfl, yFr_w hG99 (by decide)⟩, zFc_r, yFr_r⟩, zThr_e th9 (by decide)⟩
    · rcases zE_c hM with ⟨h100, hM⟩ | ⟨h100, hM⟩
      · obtain ⟨Ym101, hYm101, hM⟩ := zl_x hM
        have hR102 : zRx [] 0 Z Ym101 := zRx_o hRb hYm101 rfl
        have hV103 : zV Ym101 := zV_o hV hYm101 rfl
        have hG104 := yFr_o hG hYm101 rfl (.inr rfl) rfl
        have th9 := (zu_at hYm101)
        obtain rfl : C = _ := hC
        obtain rfl : M = _ := hM
        exact ⟨zRx_1 hR102, hV103, ⟨Z, _, .inl ⟨rfl, yFr_w hG104 (by decide)⟩, zFc_r, yFr_r⟩, zThr_e th9 (by decide)⟩
      · rcases zE_c hM with ⟨h105, hM⟩ | ⟨h105, hM⟩
        · obtain ⟨Ym106, hYm106, hM⟩ := zl_x hM
          have hR107 : zRx [] 0 Z Ym106 := zRx_o hRb hYm106 rfl
          have hV108 : zV Ym106 := zV_o hV hYm106 rfl
          have hG109 := yFr_o hG hYm106 rfl (.inr rfl) rfl
          have th9 := (zu_at hYm106)
          obtain rfl : C = _ := hC
          obtain rfl : M = _ := hM
          exact ⟨zRx_1 hR107, hV108, ⟨Z, _, .inl ⟨rfl, yFr_w hG109 (by decide)⟩, zFc_r, yFr_r⟩, zThr_e th9 (by decide)⟩
        · rcases zE_c hM with ⟨h110, hM⟩ | ⟨h110, hM⟩
          · obtain ⟨Ym111, hYm111, hM⟩ := zl_x hM
            have hR112 : zRx [] 0 Z Ym111 := zRx_o hRb hYm111 rfl
            have hV113 : zV Ym111 := zV_o hV hYm111 rfl
            have hG114 := yFr_o hG hYm111 rfl (.inr rfl) rfl
            have th9 := (zu_at hYm111)
            obtain rfl : C = _ := hC
            obtain rfl : M = _ := hM
            exact ⟨zRx_1 hR112, hV113, ⟨Z, _, .inl ⟨rfl, yFr_w hG114 (by decide)⟩, zFc_r, yFr_r⟩, zThr_e th9 (by decide)⟩
          · obtain ⟨Ym115, hYm115, hM⟩ := zl_x hM
            have hR116 : zRx [] 0 Z Ym115 := zRx_o hRb hYm115 rfl
            have hV117 : zV Ym115 := zV_o hV hYm115 rfl
            have hG118 := yFr_o hG hYm115 rfl (.inr rfl) rfl
            rcases zE_c hM with ⟨h119, hM⟩ | ⟨h119, hM⟩
            · obtain ⟨Ym120, hYm120, hM⟩ := zl_x hM
              have hR121 : zRx [] 0 Z Ym120 := zRx_o hR116 hYm120 rfl
              have hV122 : zV Ym120 := zV_o hV117 hYm120 rfl
              have hG123 := yFr_o hG118 hYm120 rfl (.inr rfl) rfl
              exact False.elim (by first | omega | grind)
            · rcases zE_c hM with ⟨h124, hM⟩ | ⟨h124, hM⟩
              · obtain ⟨Ym125, hYm125, hM⟩ := zl_x hM
                have hR126 : zRx [] 0 Z Ym125 := zRx_o hR116 hYm125 rfl
                have hV127 : zV Ym125 := zV_o hV117 hYm125 rfl
                have hG128 := yFr_o hG118 hYm125 rfl (.inr rfl) rfl
                exact False.elim (by first | omega | grind)
              · rcases zE_c hM with ⟨h129, hM⟩ | ⟨h129, hM⟩
                · obtain ⟨Ym130, hYm130, hM⟩ := zl_x hM
                  have hR131 : zRx [] 0 Z Ym130 := zRx_o hR116 hYm130 rfl
                  have hV132 : zV Ym130 := zV_o hV117 hYm130 rfl
                  have hG133 := yFr_o hG118 hYm130 rfl (.inr rfl) rfl
                  exact False.elim (by first | omega | grind)
                · obtain ⟨Ym134, hYm134, hM⟩ := zl_x hM
                  have hR135 : zRx [] 0 Z Ym134 := zRx_o hR116 hYm134 rfl
                  have hV136 : zV Ym134 := zV_o hV117 hYm134 rfl
                  have hG137 := yFr_o hG118 hYm134 rfl (.inr rfl) rfl
                  exact False.elim (by first | omega | grind)
