/- face withdraw -/
theorem rf_withdraw {Z Y : qz_Z} {dm : qz_Z → Int → Int → Int → Int → Int → Int → Int → qz_Z} {a1 : Int} (hRa : zR 0 Z Y) (hV : zV Y) (hI : zI none Z) (hd : zDf dm) (hD1 : zD1 0 Z Y) (hD4 : zD4 0 Z Y) (hN1 : zN1 Y) (hN4 : zN4 Y) (hDs : zDs 0 Z Y) (hDw : zDw 0 Z Y) (hDl : zDl 0 Z Y) (hNL : zNL Y)  {C : qz_Z × Int × Int} {M : qz_Z × Int} (hC : zE C (zx_254 Z a1)) (hM : zE M (zy_546 Y dm a1)) : zR 0 C.1 M.1 ∧ zV M.1 ∧ zDd [4410, 4805, 4900] [4410, 4805, 10050, 10051, 10052, 99999] Z Y dm C.1 M.1 ∧ zThr [(24, 1), (15, 2)] C.2 (M.1 1 0 0 2) M.2 ∧ zDl 0 C.1 M.1 ∧ zNL M.1 := by
  have hRb := zRx_0 hRa
  have hF : zFc [] 0 Z Z := zFc_r
  have hG : yFr [99999] Y Y := yFr_r
  unfold zx_254 at hC
  unfold zy_546 at hM
  rcases zE_c hC with ⟨h1, hC⟩ | ⟨h1, hC⟩
  · replace hM := zE_p hM (by omega)
    obtain ⟨Ym2, hYm2, hM⟩ := zl_x hM
    have hR3 : zRx [] 0 Z Ym2 := zRx_o hRb hYm2 rfl
    have hV4 : zV Ym2 := zV_o hV hYm2 rfl
    have hG5 := yFr_o hG hYm2 rfl (.inr rfl) rfl
    have th9 := (zu_at hYm2)
    obtain rfl : C = _ := hC
    obtain rfl : M = _ := hM
    exact ⟨zRx_1 hR3, hV4, ⟨Z, _, .inl ⟨rfl, yFr_w hG5 (by decide)⟩, zFc_r, yFr_r⟩, zThr_e th9 (by decide), (zDl_f hDl hF.1 hG5.1 ⟨rfl, rfl, rfl, rfl, rfl⟩), (zNL_f hNL hV hG5.1 ⟨rfl, rfl, rfl, rfl, rfl⟩)⟩
  · have q6 := zhd (zVr_11_3 (a := 102) hV (by omega))
    have q7 := zhd ((zRl_11_3 (a := 102) hRa (by omega)))
    rcases zE_c hC with ⟨h8, hC⟩ | ⟨h8, hC⟩
    · have q9 := zhd (zVr_44_10 (x := a1) (a := 210 + 20 * a1) hV (by have q6 := zhx q6; have q7 := zhx q7; omega) (by have q6 := zhx q6; have q7 := zhx q7; omega) (by have q6 := zhx q6; have q7 := zhx q7; omega))
      have q10 := zhd ((zRl_44_10 (x := a1) (a := 210 + 20 * a1) hRa (by have q6 := zhx q6; have q7 := zhx q7; omega) (by have q6 := zhx q6; have q7 := zhx q7; omega) (by have q6 := zhx q6; have q7 := zhx q7; omega)))
      rcases zE_c hC with ⟨h11, hC⟩ | ⟨h11, hC⟩
      · replace hM := zE_n hM (by first | (have q6 := zhx q6; have q7 := zhx q7; have q9 := zhx q9; have q10 := zhx q10; omega) | (simp only [zhx q6, zhx q7, zhx q9, zhx q10] at h1 h8 h11 ⊢ <;> omega))
        replace hM := zE_n hM (by first | (have q6 := zhx q6; have q7 := zhx q7; have q9 := zhx q9; have q10 := zhx q10; omega) | (simp only [zhx q6, zhx q7, zhx q9, zhx q10] at h1 h8 h11 ⊢ <;> omega))
        obtain ⟨Ym12, hYm12, hM⟩ := zl_x hM
        have hR13 : zRx [] 0 Z Ym12 := zRx_o hRb hYm12 rfl
        have hV14 : zV Ym12 := zV_o hV hYm12 rfl
        have hG15 := yFr_o hG hYm12 rfl (.inr rfl) rfl
        have q16 := zhd ((zu_ne (k' := 2) (b' := 0) (i' := 0) (j' := 210 + 20 * a1) hYm12 (fun q => absurd q.1 (by decide))))
        replace hM := zE_p hM (by first | (have q6 := zhx q6; have q7 := zhx q7; have q9 := zhx q9; have q10 := zhx q10; have q16 := zhx q16; omega) | (simp only [zhx q6, zhx q7, zhx q9, zhx q10, zhx q16] at h1 h8 h11 ⊢ <;> omega))
        obtain ⟨Ym17, hYm17, hM⟩ := zl_x hM
        have hR18 : zRx [] 0 Z Ym17 := zRx_o hR13 hYm17 rfl
        have hV19 : zV Ym17 := zV_o hV14 hYm17 rfl
        have hG20 := yFr_o hG15 hYm17 rfl (.inr rfl) rfl
        have th9 := (zu_at hYm17)
        obtain rfl : C = _ := hC
        obtain rfl : M = _ := hM
        exact ⟨zRx_1 hR18, hV19, ⟨Z, _, .inl ⟨rfl, yFr_w hG20 (by decide)⟩, zFc_r, yFr_r⟩, zThr_e th9 (by decide), (zDl_f hDl hF.1 hG20.1 ⟨rfl, rfl, rfl, rfl, rfl⟩), (zNL_f hNL hV hG20.1 ⟨rfl, rfl, rfl, rfl, rfl⟩)⟩
      · replace hM := zE_n hM (by first | (have q6 := zhx q6; have q7 := zhx q7; have q9 := zhx q9; have q10 := zhx q10; omega) | (simp only [zhx q6, zhx q7, zhx q9, zhx q10] at h1 h8 h11 ⊢ <;> omega))
        replace hM := zE_n hM (by first | (have q6 := zhx q6; have q7 := zhx q7; have q9 := zhx q9; have q10 := zhx q10; omega) | (simp only [zhx q6, zhx q7, zhx q9, zhx q10] at h1 h8 h11 ⊢ <;> omega))
        obtain ⟨Ym21, hYm21, hM⟩ := zl_x hM
        have hR22 : zRx [] 0 Z Ym21 := zRx_o hRb hYm21 rfl
        have hV23 : zV Ym21 := zV_o hV hYm21 rfl
        have hG24 := yFr_o hG hYm21 rfl (.inr rfl) rfl
        have q25 := zhd ((zu_ne (k' := 2) (b' := 0) (i' := 0) (j' := 210 + 20 * a1) hYm21 (fun q => absurd q.1 (by decide))))
        replace hM := zE_n hM (by first | (have q6 := zhx q6; have q7 := zhx q7; have q9 := zhx q9; have q10 := zhx q10; have q25 := zhx q25; omega) | (simp only [zhx q6, zhx q7, zhx q9, zhx q10, zhx q25] at h1 h8 h11 ⊢ <;> omega))
        obtain ⟨Ym26, hYm26, hM⟩ := zl_x hM
        have hR27 : zRx [] 0 Z Ym26 := zRx_o hR22 hYm26 rfl
        have hV28 : zV Ym26 := zV_o hV23 hYm26 rfl
        have hG29 := yFr_o hG24 hYm26 rfl (.inr rfl) rfl
        obtain ⟨Zc30, hZc30, hC⟩ := zl_x hC
        obtain ⟨Ym31, hYm31, hM⟩ := zl_x hM
        have hR32 : zRx [] 0 Zc30 Ym31 := zRx_dd hR27 hI hd hZc30 hYm31
        have hV33 : zV Ym31 := zV_dm hV28 hd hYm31
        have hD1_34 : zD1 0 Zc30 Ym31 := (zD1_f (zD1_f hD1 hF.1 hG29.1 ⟨rfl, rfl, rfl⟩) (zFa_dd hI hZc30) (yFa_dm hd hYm31) ⟨rfl, rfl, rfl⟩)
        have hD4_35 : zD4 0 Zc30 Ym31 := (zD4_f (zD4_f hD4 hF.1 hG29.1 ⟨⟨rfl, rfl⟩, rfl, rfl, rfl⟩) (zFa_dd hI hZc30) (yFa_dm hd hYm31) ⟨⟨rfl, rfl⟩, rfl, rfl, rfl⟩)
        have hN1_36 : zN1 Ym31 := (zN1_f (zN1_f hN1 hG29.1 ⟨rfl, rfl, rfl, rfl⟩) (yFa_dm hd hYm31) ⟨rfl, rfl, rfl, rfl⟩)
        have hN4_37 : zN4 Ym31 := (zN4_f (zN4_f hN4 hG29.1 ⟨rfl, rfl, rfl⟩) (yFa_dm hd hYm31) ⟨rfl, rfl, rfl⟩)
        have hDs_38 : zDs 0 Zc30 Ym31 := (zDs_f (zDs_f hDs hF.1 hG29.1 ⟨rfl, rfl⟩) (zFa_dd hI hZc30) (yFa_dm hd hYm31) ⟨rfl, rfl⟩)
        have hDw_39 : zDw 0 Zc30 Ym31 := (zDw_f (zDw_f hDw hF.1 hG29.1 ⟨rfl, rfl⟩) (zFa_dd hI hZc30) (yFa_dm hd hYm31) ⟨rfl, rfl⟩)
        have hDl_40 : zDl 0 Zc30 Ym31 := (zDl_f (zDl_f hDl hF.1 hG29.1 ⟨rfl, rfl, rfl, rfl, rfl⟩) (zFa_dd hI hZc30) (yFa_dm hd hYm31) ⟨rfl, rfl, rfl, rfl, rfl⟩)
        have hNL_41 : zNL Ym31 := (zNL_f (zNL_f hNL hV hG29.1 ⟨rfl, rfl, rfl, rfl, rfl⟩) hV28 (yFa_dm hd hYm31) ⟨rfl, rfl, rfl, rfl, rfl⟩)
        have hF42 : zFc [4410, 4805, 4900] 0 Zc30 Zc30 := zFc_r
        have hG43 : yFr [4805, 10050, 10051, 10052] Ym31 Ym31 := yFr_r
        obtain ⟨v44, hv44, hM⟩ := zl_x hM
        have q45 := zhd ((((yFa_dm hd hYm31 (210 + 20 * a1) rfl).trans (zu_ne (k' := 2) (b' := 0) (i' := 0) (j' := 210 + 20 * a1) hYm26 (fun q => absurd q.1 (by decide)))).trans (zhx q25)))
        obtain ⟨c9, t9, hAt⟩ := hNL_41.2.2 (a1) (by first | (omega) | (have q6 := zhx q6; have q7 := zhx q7; have q9 := zhx q9; have q10 := zhx q10; omega)) (by first | (omega) | (have q6 := zhx q6; have q7 := zhx q7; have q9 := zhx q9; have q10 := zhx q10; omega)) (by first | (have q9 := zhx q9; have q45 := zhx q45; omega) | (have q6 := zhx q6; have q7 := zhx q7; have q9 := zhx q9; have q10 := zhx q10; have q45 := zhx q45; omega))
        have q46 := zhd (show 0 ≤ c9 ∧ c9 < 2 from ⟨hAt.1, hAt.2.1⟩)
        have q47 := zhd (show 0 ≤ t9 ∧ t9 < 12 from ⟨hAt.2.2.2.1, hAt.2.2.2.2.1⟩)
        have q48 := zhd (hv44.trans (zAt_m hV33 hNL_41.1 hAt).2.2)
        obtain ⟨v49, hv49, hM⟩ := zl_x hM
        have q50 := zhd (hv49.trans (zAt_m hV33 hNL_41.1 hAt).2.2)
        replace hM := zE_n hM (by first | (have q6 := zhx q6; have q7 := zhx q7; have q9 := zhx q9; have q10 := zhx q10; have q46 := zhx q46; have q50 := zhx q50; omega) | (simp only [zhx q6, zhx q7, zhx q9, zhx q10, zhx q46, zhx q50] at h1 h8 h11 ⊢ <;> omega))
        obtain ⟨v51, hv51, hM⟩ := zl_x hM
        rw [show v49 = c9 from (by first | (have q46 := zhx q46; have q50 := zhx q50; omega) | (have q6 := zhx q6; have q7 := zhx q7; have q9 := zhx q9; have q10 := zhx q10; have q46 := zhx q46; have q50 := zhx q50; omega))] at hv51
        have q52 := zhd (hv51.trans (zAt_m hV33 hNL_41.1 hAt).1)
        obtain ⟨Zc53, v54, g55, hC⟩ := zl_x2 hC
        obtain ⟨Ym56, hYm56, hM⟩ := zl_x hM
        rw [show v49 = c9 from (by first | (have q46 := zhx q46; have q50 := zhx q50; omega) | (have q6 := zhx q6; have q7 := zhx q7; have q9 := zhx q9; have q10 := zhx q10; have q46 := zhx q46; have q50 := zhx q50; omega)), show v51 = t9 from (by first | (have q47 := zhx q47; have q52 := zhx q52; omega) | (have q6 := zhx q6; have q7 := zhx q7; have q9 := zhx q9; have q10 := zhx q10; have q47 := zhx q47; have q52 := zhx q52; omega))] at hYm56
        obtain ⟨l1, l2, l3, l4, l5, l6, l7⟩ := rr_76 (b := 0) (q := a1) (zRx_1 hR32) hV33 hDl_40 hNL_41.1 hAt (by first | (omega) | (have q6 := zhx q6; have q7 := zhx q7; have q9 := zhx q9; have q10 := zhx q10; omega)) (by first | (omega) | (have q6 := zhx q6; have q7 := zhx q7; have q9 := zhx q9; have q10 := zhx q10; omega))
        obtain ⟨Zc57, hZc57⟩ := zx (zf_69 Zc30 0 c9 t9)
        rw [← hZc57] at l1 l3 l5 l6
        rw [← hYm56] at l3 l4 l5 l7
        have hZc53 : Zc53 = zu Zc57 44 0 a1 10 0 := (show Zc53 = _ from congrArg (fun x9 => x9.1) (show _ = _ from g55)).trans l1
        have hR58 : zRx [(44, a1, 10)] 0 Zc53 Ym56 := zRx_z (zRx_0 l3) hZc53
        have hF59 : zFc [4410, 4805, 4900] 0 Zc30 Zc53 := zFc_u (zFc_w l6 (by decide)) hZc53 rfl rfl
        have hD1_60 : zD1 0 Zc53 Ym56 := (zD1_f hD1_34 hF59.1 l7.1 ⟨rfl, rfl, rfl⟩)
        have hD4_61 : zD4 0 Zc53 Ym56 := (zD4_f hD4_35 hF59.1 l7.1 ⟨⟨rfl, rfl⟩, rfl, rfl, rfl⟩)
        have hN1_62 : zN1 Ym56 := (zN1_f hN1_36 l7.1 ⟨rfl, rfl, rfl, rfl⟩)
        have hN4_63 : zN4 Ym56 := (zN4_f hN4_37 l7.1 ⟨rfl, rfl, rfl⟩)
        have hDs_64 : zDs 0 Zc53 Ym56 := (zDs_f hDs_38 hF59.1 l7.1 ⟨rfl, rfl⟩)
        have hDw_65 : zDw 0 Zc53 Ym56 := (zDw_f hDw_39 hF59.1 l7.1 ⟨rfl, rfl⟩)
        have hDl_66 : zDl 0 Zc53 Ym56 := (zDl_f l5 (zFc_u (zFc_r : zFc [4410] 0 Zc57 Zc57) hZc53 rfl rfl).1 (yFr_r : yFr [] Ym56 Ym56).1 ⟨rfl, rfl, rfl, rfl, rfl⟩)
        have hF67 := zFc_t hF42 hF59 (by decide)
        have hG68 := yFr_t hG43 l7 (by decide)
        have q69 := zhd ((show v54 = _ from congrArg (fun x9 => x9.2) (show _ = _ from g55)).trans l2)
        have q70 := zhd (show Ym56 2 0 0 (3015 + 60 * c9) = Ym31 2 0 0 (3015 + 60 * c9) - 1 from by rw [hYm56, z312_len hAt.1 hAt.2.1 hAt.2.2.2.1 hAt.1 hAt.2.1 (by have r := zVr_48_5 (x := c9) (a := 3015 + 60 * c9) hV33 hAt.1 hAt.2.1 rfl; have r2 := hAt.2.2.2.2.2.1; have r3 := hAt.2.2.2.1; omega), if_pos rfl])
        have tF71 : zFc [4410, 4805, 4900] 0 Zc30 Zc53 := zFc_w hF67 (by decide)
        have tG72 : yFr [4410, 4805, 10050, 10051, 10052, 99999] Ym31 Ym56 := yFr_w hG68 (by decide)
        have hF73 : zFc [] 0 Zc53 Zc53 := zFc_r
        have hG74 : yFr [4410] Ym56 Ym56 := yFr_r
        obtain ⟨Ym75, hYm75, hM⟩ := zl_x hM
        have hV76 : zV Ym75 := zV_i l4 hYm75 (zvi_44_10 (x := a1) (by first | (omega) | (have q6 := zhx q6; have q7 := zhx q7; have q9 := zhx q9; have q10 := zhx q10; omega)) (by first | (omega) | (have q6 := zhx q6; have q7 := zhx q7; have q9 := zhx q9; have q10 := zhx q10; omega)) (by first | (omega) | (have q6 := zhx q6; have q7 := zhx q7; have q9 := zhx q9; have q10 := zhx q10; omega))) (by have q6 := zhx q6; have q7 := zhx q7; have q9 := zhx q9; have q10 := zhx q10; first | omega | exact w3_r _)
        have hR77 : zRx [(44, a1, 10)] 0 Zc53 Ym75 := zRx_yin hR58 (ac_44_10 (x := a1) (a := 210 + 20 * a1) (by first | (omega) | (have q6 := zhx q6; have q7 := zhx q7; have q9 := zhx q9; have q10 := zhx q10; omega)) (by first | (omega) | (have q6 := zhx q6; have q7 := zhx q7; have q9 := zhx q9; have q10 := zhx q10; omega)) (by first | (omega) | (have q6 := zhx q6; have q7 := zhx q7; have q9 := zhx q9; have q10 := zhx q10; omega))) hYm75 (by simp)
        have hG78 := yFr_u hG74 hYm75 (zcm_s (ac_44_10 (a := 210 + 20 * a1) (x := a1) (by first | (omega) | (have q6 := zhx q6; have q7 := zhx q7; have q9 := zhx q9; have q10 := zhx q10; omega)) (by first | (omega) | (have q6 := zhx q6; have q7 := zhx q7; have q9 := zhx q9; have q10 := zhx q10; omega)) (by first | (omega) | (have q6 := zhx q6; have q7 := zhx q7; have q9 := zhx q9; have q10 := zhx q10; omega)))) rfl
        have q79 := zhd ((zu_at hZc53))
        have q80 := zhd ((zu_at hYm75))
        have hR81 : zRx [] 0 Zc53 Ym75 := zRx_d hR77 (ac_44_10 (a := 210 + 20 * a1) (by first | (omega) | (have q6 := zhx q6; have q7 := zhx q7; have q9 := zhx q9; have q10 := zhx q10; omega)) (by first | (omega) | (have q6 := zhx q6; have q7 := zhx q7; have q9 := zhx q9; have q10 := zhx q10; omega)) (by first | (omega) | (have q6 := zhx q6; have q7 := zhx q7; have q9 := zhx q9; have q10 := zhx q10; omega))) (by first | rfl | (have q79 := zhx q79; have q80 := zhx q80; omega) | (simp only [zhx q79, zhx q80] <;> omega) | (have q6 := zhx q6; have q7 := zhx q7; have q9 := zhx q9; have q10 := zhx q10; have q79 := zhx q79; have q80 := zhx q80; omega))
        have th9 := ((((zu_ne (k' := 1) (b' := 0) (i' := 0) (j' := 2) hYm75 (fun q => absurd q.1 (by decide))).trans (l7.2.1 rfl)).trans (zTh_dm hd hYm31 (by decide))).trans (zu_at hYm26))
        have q82 := zhd (zVr_48_5 (x := c9) (a := 3015 + 60 * c9) l4 (by first | (have q46 := zhx q46; omega) | (have q6 := zhx q6; have q7 := zhx q7; have q9 := zhx q9; have q10 := zhx q10; have q46 := zhx q46; omega)) (by first | (have q46 := zhx q46; omega) | (have q6 := zhx q6; have q7 := zhx q7; have q9 := zhx q9; have q10 := zhx q10; have q46 := zhx q46; omega)) (by first | (have q46 := zhx q46; omega) | (have q6 := zhx q6; have q7 := zhx q7; have q9 := zhx q9; have q10 := zhx q10; have q46 := zhx q46; omega)))
        have q83 := zhd (congrArg (Ym75 2 0 0) (show (3015 + 60 * v44) = 3015 + 60 * c9 from (by first | (have q46 := zhx q46; have q48 := zhx q48; omega) | (have q6 := zhx q6; have q7 := zhx q7; have q9 := zhx q9; have q10 := zhx q10; have q46 := zhx q46; have q48 := zhx q48; omega))))
        have q84 := zhd ((zu_ne (k' := 2) (b' := 0) (i' := 0) (j' := 3015 + 60 * c9) hYm75 (fun q => absurd q.2.2.2 (by first | (have q46 := zhx q46; omega) | (have q6 := zhx q6; have q7 := zhx q7; have q9 := zhx q9; have q10 := zhx q10; have q46 := zhx q46; omega)))))
        have q85 := zhd ((zu_at hYm75))
        obtain rfl : C = _ := hC
        obtain rfl : M = _ := hM
        exact ⟨zRx_1 hR81, hV76, ⟨Zc30, Ym31, .inr ⟨16, a1, 0, 0, 0, 0, 0, 17, Ym26, hZc30, yFr_w hG29 (by decide), hYm31, (by unfold zcode; omega)⟩, zFc_t tF71 hF73 (by decide), yFr_t tG72 hG78 (by decide)⟩, zThr_a th9 (by first | rfl | (have q6 := zhx q6; have q7 := zhx q7; have q9 := zhx q9; have q10 := zhx q10; have q46 := zhx q46; have q48 := zhx q48; have q69 := zhx q69; have q70 := zhx q70; have q82 := zhx q82; have q83 := zhx q83; have q84 := zhx q84; omega) | (simp only [zhx q6, zhx q7, zhx q9, zhx q10, zhx q46, zhx q48, zhx q69, zhx q70, zhx q82, zhx q83, zhx q84] <;> omega) | (have q6 := zhx q6; have q7 := zhx q7; have q9 := zhx q9; have q10 := zhx q10; have q46 := zhx q46; have q48 := zhx q48; have q69 := zhx q69; have q70 := zhx q70; have q82 := zhx q82; have q83 := zhx q83; have q84 := zhx q84; refine w3z ?_ ?_ ?_ <;> omega) | (have q6 := zhx q6; have q7 := zhx q7; have q9 := zhx q9; have q10 := zhx q10; have q46 := zhx q46; have q48 := zhx q48; have q69 := zhx q69; have q70 := zhx q70; have q82 := zhx q82; have q83 := zhx q83; have q84 := zhx q84; refine w3y ?_ ?_ ?_ <;> omega) | (have q6 := zhx q6; have q7 := zhx q7; have q9 := zhx q9; have q10 := zhx q10; have q46 := zhx q46; have q48 := zhx q48; have q69 := zhx q69; have q70 := zhx q70; have q82 := zhx q82; have q83 := zhx q83; have q84 := zhx q84; refine z2o ?_ ?_ ?_ <;> omega)), (zDl_f hDl_66 hF73.1 hG78.1 ⟨rfl, rfl, rfl, rfl, rfl⟩), (zNL_go (M := Ym75) (q := a1) (c := c9) (t := t9) hNL_41 hV33 hAt (fun a na => ((zu_ne (k' := 2) (b' := 0) (i' := 0) (j' := a) hYm75 (fun x => na (by first | (have x9 := x.2.2.2; omega) | (have q6 := zhx q6; have q7 := zhx q7; have q9 := zhx q9; have q10 := zhx q10; have x9 := x.2.2.2; omega))))).trans (by rw [hYm56])) (by first | (have q80 := zhx q80; have q85 := zhx q85; omega) | (have q6 := zhx q6; have q7 := zhx q7; have q9 := zhx q9; have q10 := zhx q10; have q80 := zhx q80; have q85 := zhx q85; omega)) (by first | (omega) | (have q6 := zhx q6; have q7 := zhx q7; have q9 := zhx q9; have q10 := zhx q10; omega)) (by first | (omega) | (have q6 := zhx q6; have q7 := zhx q7; have q9 := zhx q9; have q10 := zhx q10; omega)))⟩
    · replace hM := zE_n hM (by first | (have q6 := zhx q6; have q7 := zhx q7; omega) | (simp only [zhx q6, zhx q7] at h1 h8 ⊢ <;> omega))
      replace hM := zE_p hM (by first | (have q6 := zhx q6; have q7 := zhx q7; omega) | (simp only [zhx q6, zhx q7] at h1 h8 ⊢ <;> omega))
      obtain ⟨Ym86, hYm86, hM⟩ := zl_x hM
      have hR87 : zRx [] 0 Z Ym86 := zRx_o hRb hYm86 rfl
      have hV88 : zV Ym86 := zV_o hV hYm86 rfl
      have hG89 := yFr_o hG hYm86 rfl (.inr rfl) rfl
      have th9 := (zu_at hYm86)
      obtain rfl : C = _ := hC
      obtain rfl : M = _ := hM
      exact ⟨zRx_1 hR87, hV88, ⟨Z, _, .inl ⟨rfl, yFr_w hG89 (by decide)⟩, zFc_r, yFr_r⟩, zThr_e th9 (by decide), (zDl_f hDl hF.1 hG89.1 ⟨rfl, rfl, rfl, rfl, rfl⟩), (zNL_f hNL hV hG89.1 ⟨rfl, rfl, rfl, rfl, rfl⟩)⟩
