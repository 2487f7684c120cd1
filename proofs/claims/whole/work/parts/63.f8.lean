/- face deliver -/
theorem rf_deliver {Z Y : qz_Z} {dm : qz_Z → Int → Int → Int → Int → Int → Int → Int → qz_Z} {a1 a2 a3 a4 a5 : Int} (hRa : zR 0 Z Y) (hV : zV Y) (hI : zI none Z) (hd : zDf dm) (hNp : zNp Y) (hN1 : zN1 Y)  {C : qz_Z × Int × Int} {M : qz_Z × Int} (hC : zE C (zx_195 Z a1 a2 a3 a4 a5)) (hM : zE M (zy_335 Y dm a1 a2 a3 a4 a5)) : zR 0 C.1 M.1 ∧ zV M.1 ∧ zDd [1103, 4400, 4401, 4402, 4403, 4404, 4405, 4407, 4409, 4410, 4412, 4415] [1103, 4400, 4401, 4402, 4403, 4404, 4405, 4407, 4409, 4412, 4415, 99999] Z Y dm C.1 M.1 ∧ zThr [(24, 1), (13, 2), (15, 3)] C.2 (M.1 1 0 0 2) M.2 ∧ zNp M.1 := by
  have hRb := zRx_0 hRa
  have hF : zFc [] 0 Z Z := zFc_r
  have hG : yFr [99999] Y Y := yFr_r
  unfold zx_195 at hC
  unfold zy_335 at hM
  have q1 := zhd (zVr_11_1 (a := 101) hV (by omega))
  have q2 := zhd ((zRl_11_1 (a := 101) hRa (by omega)))
  rcases zE_c hC with ⟨h3, hC⟩ | ⟨h3, hC⟩
  · have q4 := zhd (zVr_11_0 (a := 100) hV (by omega))
    have q5 := zhd ((zRl_11_0 (a := 100) hRa (by omega)))
    rcases zE_c hC with ⟨h6, hC⟩ | ⟨h6, hC⟩
    · rcases zE_c hC with ⟨h7, hC⟩ | ⟨h7, hC⟩
      · rcases zE_c hC with ⟨h8, hC⟩ | ⟨h8, hC⟩
        · rcases zE_c hC with ⟨h9, hC⟩ | ⟨h9, hC⟩
          · have q10 := zhd (zVr_11_3 (a := 102) hV (by omega))
            have q11 := zhd ((zRl_11_3 (a := 102) hRa (by omega)))
            rcases zE_c hC with ⟨h12, hC⟩ | ⟨h12, hC⟩
            · replace hM := zE_n hM (by first | (have q1 := zhx q1; have q2 := zhx q2; have q4 := zhx q4; have q5 := zhx q5; have q10 := zhx q10; have q11 := zhx q11; omega) | (simp only [zhx q1, zhx q2, zhx q4, zhx q5, zhx q10, zhx q11] at h3 h6 h7 h8 h9 h12 ⊢ <;> omega))
              replace hM := zE_n hM (by first | (have q1 := zhx q1; have q2 := zhx q2; have q4 := zhx q4; have q5 := zhx q5; have q10 := zhx q10; have q11 := zhx q11; omega) | (simp only [zhx q1, zhx q2, zhx q4, zhx q5, zhx q10, zhx q11] at h3 h6 h7 h8 h9 h12 ⊢ <;> omega))
              replace hM := zE_n hM (by first | (have q1 := zhx q1; have q2 := zhx q2; have q4 := zhx q4; have q5 := zhx q5; have q10 := zhx q10; have q11 := zhx q11; omega) | (simp only [zhx q1, zhx q2, zhx q4, zhx q5, zhx q10, zhx q11] at h3 h6 h7 h8 h9 h12 ⊢ <;> omega))
              replace hM := zE_n hM (by first | (have q1 := zhx q1; have q2 := zhx q2; have q4 := zhx q4; have q5 := zhx q5; have q10 := zhx q10; have q11 := zhx q11; omega) | (simp only [zhx q1, zhx q2, zhx q4, zhx q5, zhx q10, zhx q11] at h3 h6 h7 h8 h9 h12 ⊢ <;> omega))
              obtain ⟨Ym13, hYm13, hM⟩ := zl_x hM
              have hR14 : zRx [] 0 Z Ym13 := zRx_o hRb hYm13 rfl
              have hV15 : zV Ym13 := zV_o hV hYm13 rfl
              have hG16 := yFr_o hG hYm13 rfl (.inr rfl) rfl
              replace hM := zE_n hM (by first | (have q1 := zhx q1; have q2 := zhx q2; have q4 := zhx q4; have q5 := zhx q5; have q10 := zhx q10; have q11 := zhx q11; omega) | (simp only [zhx q1, zhx q2, zhx q4, zhx q5, zhx q10, zhx q11] at h3 h6 h7 h8 h9 h12 ⊢ <;> omega))
              replace hM := zE_n hM (by first | (have q1 := zhx q1; have q2 := zhx q2; have q4 := zhx q4; have q5 := zhx q5; have q10 := zhx q10; have q11 := zhx q11; omega) | (simp only [zhx q1, zhx q2, zhx q4, zhx q5, zhx q10, zhx q11] at h3 h6 h7 h8 h9 h12 ⊢ <;> omega))
              replace hM := zE_n hM (by first | (have q1 := zhx q1; have q2 := zhx q2; have q4 := zhx q4; have q5 := zhx q5; have q10 := zhx q10; have q11 := zhx q11; omega) | (simp only [zhx q1, zhx q2, zhx q4, zhx q5, zhx q10, zhx q11] at h3 h6 h7 h8 h9 h12 ⊢ <;> omega))
              replace hM := zE_n hM (by first | (have q1 := zhx q1; have q2 := zhx q2; have q4 := zhx q4; have q5 := zhx q5; have q10 := zhx q10; have q11 := zhx q11; omega) | (simp only [zhx q1, zhx q2, zhx q4, zhx q5, zhx q10, zhx q11] at h3 h6 h7 h8 h9 h12 ⊢ <;> omega))
              replace hM := zE_n hM (by first | (have q1 := zhx q1; have q2 := zhx q2; have q4 := zhx q4; have q5 := zhx q5; have q10 := zhx q10; have q11 := zhx q11; omega) | (simp only [zhx q1, zhx q2, zhx q4, zhx q5, zhx q10, zhx q11] at h3 h6 h7 h8 h9 h12 ⊢ <;> omega))
              replace hM := zE_n hM (by first | (have q1 := zhx q1; have q2 := zhx q2; have q4 := zhx q4; have q5 := zhx q5; have q10 := zhx q10; have q11 := zhx q11; omega) | (simp only [zhx q1, zhx q2, zhx q4, zhx q5, zhx q10, zhx q11] at h3 h6 h7 h8 h9 h12 ⊢ <;> omega))
              obtain ⟨Ym17, hYm17, hM⟩ := zl_x hM
              have hR18 : zRx [] 0 Z Ym17 := zRx_o hR14 hYm17 rfl
              have hV19 : zV Ym17 := zV_o hV15 hYm17 rfl
              have hG20 := yFr_o hG16 hYm17 rfl (.inr rfl) rfl
              have q21 := zhd (((zu_ne (k' := 2) (b' := 0) (i' := 0) (j' := 102) hYm17 (fun q => absurd q.1 (by decide))).trans (zu_ne (k' := 2) (b' := 0) (i' := 0) (j' := 102) hYm13 (fun q => absurd q.1 (by decide)))))
              replace hM := zE_p hM (by first | (have q1 := zhx q1; have q2 := zhx q2; have q4 := zhx q4; have q5 := zhx q5; have q10 := zhx q10; have q11 := zhx q11; have q21 := zhx q21; omega) | (simp only [zhx q1, zhx q2, zhx q4, zhx q5, zhx q10, zhx q11, zhx q21] at h3 h6 h7 h8 h9 h12 ⊢ <;> omega))
              obtain ⟨Ym22, hYm22, hM⟩ := zl_x hM
              have hR23 : zRx [] 0 Z Ym22 := zRx_o hR18 hYm22 rfl
              have hV24 : zV Ym22 := zV_o hV19 hYm22 rfl
              have hG25 := yFr_o hG20 hYm22 rfl (.inr rfl) rfl
              have th9 := (zu_at hYm22)
              obtain rfl : C = _ := hC
              obtain rfl : M = _ := hM
              exact ⟨zRx_1 hR23, hV24, ⟨Z, _, .inl ⟨rfl, yFr_w hG25 (by decide)⟩, zFc_r, yFr_r⟩, zThr_e th9 (by decide), (zNp_f hNp hV hG25.1 ⟨rfl, rfl⟩)⟩
            · obtain ⟨v26, hv26, hC⟩ := zl_x hC
              have q27 := zhd (show v26 = (zf_488 Y 6) from hv26.trans (rr_182 hRa hV hN1 (by first | (omega) | (have q1 := zhx q1; have q2 := zhx q2; have q4 := zhx q4; have q5 := zhx q5; have q10 := zhx q10; have q11 := zhx q11; omega)) rfl rfl))
              rcases zE_c hC with ⟨h28, hC⟩ | ⟨h28, hC⟩
              · replace hM := zE_n hM (by first | (have q1 := zhx q1; have q2 := zhx q2; have q4 := zhx q4; have q5 := zhx q5; have q10 := zhx q10; have q11 := zhx q11; have q27 := zhx q27; omega) | (simp only [zhx q1, zhx q2, zhx q4, zhx q5, zhx q10, zhx q11, zhx q27] at h3 h6 h7 h8 h9 h12 h28 ⊢ <;> omega))
                replace hM := zE_n hM (by first | (have q1 := zhx q1; have q2 := zhx q2; have q4 := zhx q4; have q5 := zhx q5; have q10 := zhx q10; have q11 := zhx q11; have q27 := zhx q27; omega) | (simp only [zhx q1, zhx q2, zhx q4, zhx q5, zhx q10, zhx q11, zhx q27] at h3 h6 h7 h8 h9 h12 h28 ⊢ <;> omega))
                replace hM := zE_n hM (by first | (have q1 := zhx q1; have q2 := zhx q2; have q4 := zhx q4; have q5 := zhx q5; have q10 := zhx q10; have q11 := zhx q11; have q27 := zhx q27; omega) | (simp only [zhx q1, zhx q2, zhx q4, zhx q5, zhx q10, zhx q11, zhx q27] at h3 h6 h7 h8 h9 h12 h28 ⊢ <;> omega))
                replace hM := zE_n hM (by first | (have q1 := zhx q1; have q2 := zhx q2; have q4 := zhx q4; have q5 := zhx q5; have q10 := zhx q10; have q11 := zhx q11; have q27 := zhx q27; omega) | (simp only [zhx q1, zhx q2, zhx q4, zhx q5, zhx q10, zhx q11, zhx q27] at h3 h6 h7 h8 h9 h12 h28 ⊢ <;> omega))
                obtain ⟨Ym29, hYm29, hM⟩ := zl_x hM
                have hR30 : zRx [] 0 Z Ym29 := zRx_o hRb hYm29 rfl
                have hV31 : zV Ym29 := zV_o hV hYm29 rfl
                have hG32 := yFr_o hG hYm29 rfl (.inr rfl) rfl
                replace hM := zE_n hM (by first | (have q1 := zhx q1; have q2 := zhx q2; have q4 := zhx q4; have q5 := zhx q5; have q10 := zhx q10; have q11 := zhx q11; have q27 := zhx q27; omega) | (simp only [zhx q1, zhx q2, zhx q4, zhx q5, zhx q10, zhx q11, zhx q27] at h3 h6 h7 h8 h9 h12 h28 ⊢ <;> omega))
                replace hM := zE_n hM (by first | (have q1 := zhx q1; have q2 := zhx q2; have q4 := zhx q4; have q5 := zhx q5; have q10 := zhx q10; have q11 := zhx q11; have q27 := zhx q27; omega) | (simp only [zhx q1, zhx q2, zhx q4, zhx q5, zhx q10, zhx q11, zhx q27] at h3 h6 h7 h8 h9 h12 h28 ⊢ <;> omega))
                replace hM := zE_n hM (by first | (have q1 := zhx q1; have q2 := zhx q2; have q4 := zhx q4; have q5 := zhx q5; have q10 := zhx q10; have q11 := zhx q11; have q27 := zhx q27; omega) | (simp only [zhx q1, zhx q2, zhx q4, zhx q5, zhx q10, zhx q11, zhx q27] at h3 h6 h7 h8 h9 h12 h28 ⊢ <;> omega))
                replace hM := zE_n hM (by first | (have q1 := zhx q1; have q2 := zhx q2; have q4 := zhx q4; have q5 := zhx q5; have q10 := zhx q10; have q11 := zhx q11; have q27 := zhx q27; omega) | (simp only [zhx q1, zhx q2, zhx q4, zhx q5, zhx q10, zhx q11, zhx q27] at h3 h6 h7 h8 h9 h12 h28 ⊢ <;> omega))
                replace hM := zE_n hM (by first | (have q1 := zhx q1; have q2 := zhx q2; have q4 := zhx q4; have q5 := zhx q5; have q10 := zhx q10; have q11 := zhx q11; have q27 := zhx q27; omega) | (simp only [zhx q1, zhx q2, zhx q4, zhx q5, zhx q10, zhx q11, zhx q27] at h3 h6 h7 h8 h9 h12 h28 ⊢ <;> omega))
                replace hM := zE_n hM (by first | (have q1 := zhx q1; have q2 := zhx q2; have q4 := zhx q4; have q5 := zhx q5; have q10 := zhx q10; have q11 := zhx q11; have q27 := zhx q27; omega) | (simp only [zhx q1, zhx q2, zhx q4, zhx q5, zhx q10, zhx q11, zhx q27] at h3 h6 h7 h8 h9 h12 h28 ⊢ <;> omega))
                obtain ⟨Ym33, hYm33, hM⟩ := zl_x hM
                have hR34 : zRx [] 0 Z Ym33 := zRx_o hR30 hYm33 rfl
                have hV35 : zV Ym33 := zV_o hV31 hYm33 rfl
                have hG36 := yFr_o hG32 hYm33 rfl (.inr rfl) rfl
                have q37 := zhd (((zu_ne (k' := 2) (b' := 0) (i' := 0) (j' := 102) hYm33 (fun q => absurd q.1 (by decide))).trans (zu_ne (k' := 2) (b' := 0) (i' := 0) (j' := 102) hYm29 (fun q => absurd q.1 (by decide)))))
                replace hM := zE_n hM (by first | (have q1 := zhx q1; have q2 := zhx q2; have q4 := zhx q4; have q5 := zhx q5; have q10 := zhx q10; have q11 := zhx q11; have q27 := zhx q27; have q37 := zhx q37; omega) | (simp only [zhx q1, zhx q2, zhx q4, zhx q5, zhx q10, zhx q11, zhx q27, zhx q37] at h3 h6 h7 h8 h9 h12 h28 ⊢ <;> omega))
                obtain ⟨v38, hv38, hM⟩ := zl_x hM
                have q39 := zhd (show v26 = (zf_488 Ym33 6) from hv26.trans (rr_182 (zRx_1 hR34) hV35 (zN1_f hN1 hG36.1 ⟨rfl, rfl, rfl, rfl⟩) (by first | (omega) | (have q1 := zhx q1; have q2 := zhx q2; have q4 := zhx q4; have q5 := zhx q5; have q10 := zhx q10; have q11 := zhx q11; have q27 := zhx q27; omega)) rfl rfl))
                have q40 := zhd (hv38.trans (show zf_321 Ym33 = 12 - (zf_488 Ym33 6) from rr_321))
                rcases zE_c hM with ⟨h41, hM⟩ | ⟨h41, hM⟩
                · obtain ⟨Ym42, hYm42, hM⟩ := zl_x hM
                  have hR43 : zRx [] 0 Z Ym42 := zRx_o hR34 hYm42 rfl
                  have hV44 : zV Ym42 := zV_o hV35 hYm42 rfl
                  have hG45 := yFr_o hG36 hYm42 rfl (.inr rfl) rfl
                  have th9 := (zu_at hYm42)
                  obtain rfl : C = _ := hC
                  obtain rfl : M = _ := hM
                  exact ⟨zRx_1 hR43, hV44, ⟨Z, _, .inl ⟨rfl, yFr_w hG45 (by decide)⟩, zFc_r, yFr_r⟩, zThr_e th9 (by decide), (zNp_f hNp hV hG45.1 ⟨rfl, rfl⟩)⟩
                · obtain ⟨Ym46, hYm46, hM⟩ := zl_x hM
                  have hR47 : zRx [] 0 Z Ym46 := zRx_o hR34 hYm46 rfl
                  have hV48 : zV Ym46 := zV_o hV35 hYm46 rfl
                  have hG49 := yFr_o hG36 hYm46 rfl (.inr rfl) rfl
                  exact False.elim (by have q1 := zhx q1; have q2 := zhx q2; have q4 := zhx q4; have q5 := zhx q5; have q10 := zhx q10; have q11 := zhx q11; have q27 := zhx q27; have q39 := zhx q39; have q40 := zhx q40; first | omega | grind)
              · replace hM := zE_n hM (by first | (have q1 := zhx q1; have q2 := zhx q2; have q4 := zhx q4; have q5 := zhx q5; have q10 := zhx q10; have q11 := zhx q11; have q27 := zhx q27; omega) | (simp only [zhx q1, zhx q2, zhx q4, zhx q5, zhx q10, zhx q11, zhx q27] at h3 h6 h7 h8 h9 h12 h28 ⊢ <;> omega))
                replace hM := zE_n hM (by first | (have q1 := zhx q1; have q2 := zhx q2; have q4 := zhx q4; have q5 := zhx q5; have q10 := zhx q10; have q11 := zhx q11; have q27 := zhx q27; omega) | (simp only [zhx q1, zhx q2, zhx q4, zhx q5, zhx q10, zhx q11, zhx q27] at h3 h6 h7 h8 h9 h12 h28 ⊢ <;> omega))
                replace hM := zE_n hM (by first | (have q1 := zhx q1; have q2 := zhx q2; have q4 := zhx q4; have q5 := zhx q5; have q10 := zhx q10; have q11 := zhx q11; have q27 := zhx q27; omega) | (simp only [zhx q1, zhx q2, zhx q4, zhx q5, zhx q10, zhx q11, zhx q27] at h3 h6 h7 h8 h9 h12 h28 ⊢ <;> omega))
                replace hM := zE_n hM (by first | (have q1 := zhx q1; have q2 := zhx q2; have q4 := zhx q4; have q5 := zhx q5; have q10 := zhx q10; have q11 := zhx q11; have q27 := zhx q27; omega) | (simp only [zhx q1, zhx q2, zhx q4, zhx q5, zhx q10, zhx q11, zhx q27] at h3 h6 h7 h8 h9 h12 h28 ⊢ <;> omega))
                obtain ⟨Ym50, hYm50, hM⟩ := zl_x hM
                have hR51 : zRx [] 0 Z Ym50 := zRx_o hRb hYm50 rfl
                have hV52 : zV Ym50 := zV_o hV hYm50 rfl
                have hG53 := yFr_o hG hYm50 rfl (.inr rfl) rfl
                replace hM := zE_n hM (by first | (have q1 := zhx q1; have q2 := zhx q2; have q4 := zhx q4; have q5 := zhx q5; have q10 := zhx q10; have q11 := zhx q11; have q27 := zhx q27; omega) | (simp only [zhx q1, zhx q2, zhx q4, zhx q5, zhx q10, zhx q11, zhx q27] at h3 h6 h7 h8 h9 h12 h28 ⊢ <;> omega))
                replace hM := zE_n hM (by first | (have q1 := zhx q1; have q2 := zhx q2; have q4 := zhx q4; have q5 := zhx q5; have q10 := zhx q10; have q11 := zhx q11; have q27 := zhx q27; omega) | (simp only [zhx q1, zhx q2, zhx q4, zhx q5, zhx q10, zhx q11, zhx q27] at h3 h6 h7 h8 h9 h12 h28 ⊢ <;> omega))
                replace hM := zE_n hM (by first | (have q1 := zhx q1; have q2 := zhx q2; have q4 := zhx q4; have q5 := zhx q5; have q10 := zhx q10; have q11 := zhx q11; have q27 := zhx q27; omega) | (simp only [zhx q1, zhx q2, zhx q4, zhx q5, zhx q10, zhx q11, zhx q27] at h3 h6 h7 h8 h9 h12 h28 ⊢ <;> omega))
                replace hM := zE_n hM (by first | (have q1 := zhx q1; have q2 := zhx q2; have q4 := zhx q4; have q5 := zhx q5; have q10 := zhx q10; have q11 := zhx q11; have q27 := zhx q27; omega) | (simp only [zhx q1, zhx q2, zhx q4, zhx q5, zhx q10, zhx q11, zhx q27] at h3 h6 h7 h8 h9 h12 h28 ⊢ <;> omega))
                replace hM := zE_n hM (by first | (have q1 := zhx q1; have q2 := zhx q2; have q4 := zhx q4; have q5 := zhx q5; have q10 := zhx q10; have q11 := zhx q11; have q27 := zhx q27; omega) | (simp only [zhx q1, zhx q2, zhx q4, zhx q5, zhx q10, zhx q11, zhx q27] at h3 h6 h7 h8 h9 h12 h28 ⊢ <;> omega))
                replace hM := zE_n hM (by first | (have q1 := zhx q1; have q2 := zhx q2; have q4 := zhx q4; have q5 := zhx q5; have q10 := zhx q10; have q11 := zhx q11; have q27 := zhx q27; omega) | (simp only [zhx q1, zhx q2, zhx q4, zhx q5, zhx q10, zhx q11, zhx q27] at h3 h6 h7 h8 h9 h12 h28 ⊢ <;> omega))
                obtain ⟨Ym54, hYm54, hM⟩ := zl_x hM
                have hR55 : zRx [] 0 Z Ym54 := zRx_o hR51 hYm54 rfl
                have hV56 : zV Ym54 := zV_o hV52 hYm54 rfl
                have hG57 := yFr_o hG53 hYm54 rfl (.inr rfl) rfl
                have q58 := zhd (((zu_ne (k' := 2) (b' := 0) (i' := 0) (j' := 102) hYm54 (fun q => absurd q.1 (by decide))).trans (zu_ne (k' := 2) (b' := 0) (i' := 0) (j' := 102) hYm50 (fun q => absurd q.1 (by decide)))))
                replace hM := zE_n hM (by first | (have q1 := zhx q1; have q2 := zhx q2; have q4 := zhx q4; have q5 := zhx q5; have q10 := zhx q10; have q11 := zhx q11; have q27 := zhx q27; have q58 := zhx q58; omega) | (simp only [zhx q1, zhx q2, zhx q4, zhx q5, zhx q10, zhx q11, zhx q27, zhx q58] at h3 h6 h7 h8 h9 h12 h28 ⊢ <;> omega))
                obtain ⟨v59, hv59, hM⟩ := zl_x hM
                have q60 := zhd (show v26 = (zf_488 Ym54 6) from hv26.trans (rr_182 (zRx_1 hR55) hV56 (zN1_f hN1 hG57.1 ⟨rfl, rfl, rfl, rfl⟩) (by first | (omega) | (have q1 := zhx q1; have q2 := zhx q2; have q4 := zhx q4; have q5 := zhx q5; have q10 := zhx q10; have q11 := zhx q11; have q27 := zhx q27; omega)) rfl rfl))
                have q61 := zhd (hv59.trans (show zf_321 Ym54 = 12 - (zf_488 Ym54 6) from rr_321))
                rcases zE_c hM with ⟨h62, hM⟩ | ⟨h62, hM⟩
                · obtain ⟨Ym63, hYm63, hM⟩ := zl_x hM
                  have hR64 : zRx [] 0 Z Ym63 := zRx_o hR55 hYm63 rfl
                  have hV65 : zV Ym63 := zV_o hV56 hYm63 rfl
                  have hG66 := yFr_o hG57 hYm63 rfl (.inr rfl) rfl
                  exact False.elim (by have q1 := zhx q1; have q2 := zhx q2; have q4 := zhx q4; have q5 := zhx q5; have q10 := zhx q10; have q11 := zhx q11; have q27 := zhx q27; have q60 := zhx q60; have q61 := zhx q61; first | omega | grind)
                · obtain ⟨Ym67, hYm67, hM⟩ := zl_x hM
                  have hR68 : zRx [] 0 Z Ym67 := zRx_o hR55 hYm67 rfl
                  have hV69 : zV Ym67 := zV_o hV56 hYm67 rfl
                  have hG70 := yFr_o hG57 hYm67 rfl (.inr rfl) rfl
                  obtain ⟨Zc71, hZc71, hC⟩ := zl_x hC
                  obtain ⟨Ym72, hYm72, hM⟩ := zl_x hM
                  have hR73 : zRx [] 0 Zc71 Ym72 := zRx_dd hR68 hI hd hZc71 hYm72
                  have hV74 : zV Ym72 := zV_dm hV69 hd hYm72
                  have hNp_75 : zNp Ym72 := (zNp_f (zNp_f hNp hV hG70.1 ⟨rfl, rfl⟩) hV69 (yFa_dm hd hYm72) ⟨rfl, rfl⟩)
                  have hN1_76 : zN1 Ym72 := (zN1_f (zN1_f hN1 hG70.1 ⟨rfl, rfl, rfl, rfl⟩) (yFa_dm hd hYm72) ⟨rfl, rfl, rfl, rfl⟩)
                  have hF77 : zFc [1103, 4400, 4401, 4402, 4403, 4404, 4405, 4407, 4409, 4410, 4412, 4415] 0 Zc71 Zc71 := zFc_r
                  have hG78 : yFr [1103, 4400, 4401, 4402, 4403, 4404, 4405, 4407, 4409, 4412, 4415] Ym72 Ym72 := yFr_r
                  have q79 := zhd ((((yFa_dm hd hYm72 (102) rfl).trans (zu_ne (k' := 2) (b' := 0) (i' := 0) (j' := 102) hYm67 (fun q => absurd q.1 (by decide)))).trans (zhx q58)))
                  have q80 := zhd (((zRl_11_3 (a := 102) (zRx_1 hR73) (by omega)).trans (zhx q79)))
                  obtain ⟨Yr82, v83, g81, hM⟩ := zl_x2 hM
                  replace g81 : zE _ _ := g81
                  unfold zf_327 at g81
                  obtain ⟨Yi84, v85, g86, g81⟩ := zl_x2 g81
                  have d87 : Ym72 = Yi84 := ((show Yi84 = _ from congrArg (fun x9 => x9.1) (show _ = _ from g86)).trans (congrArg (fun x9 => x9.1) (z327_i (x7 := (Ym72 2 0 0 102)) (Y := Ym72) (fun a g1 g2 => hNp_75 a g1 (by first | (have q10 := zhx q10; have q79 := zhx q79; omega) | (have q1 := zhx q1; have q2 := zhx q2; have q4 := zhx q4; have q5 := zhx q5; have q10 := zhx q10; have q11 := zhx q11; have q27 := zhx q27; have q60 := zhx q60; have q61 := zhx q61; have q79 := zhx q79; omega))) 21 0 (by omega) (by omega) (by decide)))).symm
                  subst d87
                  obtain ⟨Zc88, hZc88, hC⟩ := zl_x hC
                  obtain ⟨Ym89, hYm89, g81⟩ := zl_x g81
                  have hV90 : zV Ym89 := zV_i hV74 hYm89 (zvi_44_0 (x := (Y 2 0 0 102)) (by first | (have q10 := zhx q10; have q79 := zhx q79; omega) | (have q1 := zhx q1; have q2 := zhx q2; have q4 := zhx q4; have q5 := zhx q5; have q10 := zhx q10; have q11 := zhx q11; have q27 := zhx q27; have q60 := zhx q60; have q61 := zhx q61; have q79 := zhx q79; omega)) (by first | (have q10 := zhx q10; have q79 := zhx q79; omega) | (have q1 := zhx q1; have q2 := zhx q2; have q4 := zhx q4; have q5 := zhx q5; have q10 := zhx q10; have q11 := zhx q11; have q27 := zhx q27; have q60 := zhx q60; have q61 := zhx q61; have q79 := zhx q79; omega)) (by first | (have q10 := zhx q10; have q79 := zhx q79; omega) | (have q1 := zhx q1; have q2 := zhx q2; have q4 := zhx q4; have q5 := zhx q5; have q10 := zhx q10; have q11 := zhx q11; have q27 := zhx q27; have q60 := zhx q60; have q61 := zhx q61; have q79 := zhx q79; omega))) (by have q1 := zhx q1; have q2 := zhx q2; have q4 := zhx q4; have q5 := zhx q5; have q10 := zhx q10; have q11 := zhx q11; have q27 := zhx q27; have q60 := zhx q60; have q61 := zhx q61; first | omega | exact w3_r _)
                  have hR91 : zRx [] 0 Zc88 Ym89 := zRx_w hR73 (ac_44_0 (by first | (have q10 := zhx q10; have q79 := zhx q79; have q80 := zhx q80; omega) | (have q1 := zhx q1; have q2 := zhx q2; have q4 := zhx q4; have q5 := zhx q5; have q10 := zhx q10; have q11 := zhx q11; have q27 := zhx q27; have q60 := zhx q60; have q61 := zhx q61; have q79 := zhx q79; have q80 := zhx q80; omega)) (by first | (have q10 := zhx q10; have q79 := zhx q79; have q80 := zhx q80; omega) | (have q1 := zhx q1; have q2 := zhx q2; have q4 := zhx q4; have q5 := zhx q5; have q10 := zhx q10; have q11 := zhx q11; have q27 := zhx q27; have q60 := zhx q60; have q61 := zhx q61; have q79 := zhx q79; have q80 := zhx q80; omega)) (by first | (have q10 := zhx q10; have q79 := zhx q79; have q80 := zhx q80; omega) | (have q1 := zhx q1; have q2 := zhx q2; have q4 := zhx q4; have q5 := zhx q5; have q10 := zhx q10; have q11 := zhx q11; have q27 := zhx q27; have q60 := zhx q60; have q61 := zhx q61; have q79 := zhx q79; have q80 := zhx q80; omega))) hZc88 hYm89 (by first | rfl | (omega) | (simp only [] <;> omega) | (have q1 := zhx q1; have q2 := zhx q2; have q4 := zhx q4; have q5 := zhx q5; have q10 := zhx q10; have q11 := zhx q11; have q27 := zhx q27; have q60 := zhx q60; have q61 := zhx q61; omega))
                  have hF92 := zFc_u hF77 hZc88 rfl rfl
                  have hG93 := yFr_u hG78 hYm89 (zcm_s (ac_44_0 (a := 200 + 20 * (Ym72 2 0 0 102)) (x := (Y 2 0 0 102)) (by first | (have q10 := zhx q10; have q79 := zhx q79; omega) | (have q1 := zhx q1; have q2 := zhx q2; have q4 := zhx q4; have q5 := zhx q5; have q10 := zhx q10; have q11 := zhx q11; have q27 := zhx q27; have q60 := zhx q60; have q61 := zhx q61; have q79 := zhx q79; omega)) (by first | (have q10 := zhx q10; have q79 := zhx q79; omega) | (have q1 := zhx q1; have q2 := zhx q2; have q4 := zhx q4; have q5 := zhx q5; have q10 := zhx q10; have q11 := zhx q11; have q27 := zhx q27; have q60 := zhx q60; have q61 := zhx q61; have q79 := zhx q79; omega)) (by first | (have q10 := zhx q10; have q79 := zhx q79; omega) | (have q1 := zhx q1; have q2 := zhx q2; have q4 := zhx q4; have q5 := zhx q5; have q10 := zhx q10; have q11 := zhx q11; have q27 := zhx q27; have q60 := zhx q60; have q61 := zhx q61; have q79 := zhx q79; omega)))) rfl
                  obtain ⟨Zc94, hZc94, hC⟩ := zl_x hC
                  obtain ⟨Ym95, hYm95, g81⟩ := zl_x g81
                  have hV96 : zV Ym95 := zV_i hV90 hYm95 (zvi_44_1 (x := (Y 2 0 0 102)) (by first | (have q10 := zhx q10; have q79 := zhx q79; omega) | (have q1 := zhx q1; have q2 := zhx q2; have q4 := zhx q4; have q5 := zhx q5; have q10 := zhx q10; have q11 := zhx q11; have q27 := zhx q27; have q60 := zhx q60; have q61 := zhx q61; have q79 := zhx q79; omega)) (by first | (have q10 := zhx q10; have q79 := zhx q79; omega) | (have q1 := zhx q1; have q2 := zhx q2; have q4 := zhx q4; have q5 := zhx q5; have q10 := zhx q10; have q11 := zhx q11; have q27 := zhx q27; have q60 := zhx q60; have q61 := zhx q61; have q79 := zhx q79; omega)) (by first | (have q10 := zhx q10; have q79 := zhx q79; omega) | (have q1 := zhx q1; have q2 := zhx q2; have q4 := zhx q4; have q5 := zhx q5; have q10 := zhx q10; have q11 := zhx q11; have q27 := zhx q27; have q60 := zhx q60; have q61 := zhx q61; have q79 := zhx q79; omega))) (by have q1 := zhx q1; have q2 := zhx q2; have q4 := zhx q4; have q5 := zhx q5; have q10 := zhx q10; have q11 := zhx q11; have q27 := zhx q27; have q60 := zhx q60; have q61 := zhx q61; first | omega | exact w3_r _)
                  have hR97 : zRx [] 0 Zc94 Ym95 := zRx_w hR91 (ac_44_1 (by first | (have q10 := zhx q10; have q79 := zhx q79; have q80 := zhx q80; omega) | (have q1 := zhx q1; have q2 := zhx q2; have q4 := zhx q4; have q5 := zhx q5; have q10 := zhx q10; have q11 := zhx q11; have q27 := zhx q27; have q60 := zhx q60; have q61 := zhx q61; have q79 := zhx q79; have q80 := zhx q80; omega)) (by first | (have q10 := zhx q10; have q79 := zhx q79; have q80 := zhx q80; omega) | (have q1 := zhx q1; have q2 := zhx q2; have q4 := zhx q4; have q5 := zhx q5; have q10 := zhx q10; have q11 := zhx q11; have q27 := zhx q27; have q60 := zhx q60; have q61 := zhx q61; have q79 := zhx q79; have q80 := zhx q80; omega)) (by first | (have q10 := zhx q10; have q79 := zhx q79; have q80 := zhx q80; omega) | (have q1 := zhx q1; have q2 := zhx q2; have q4 := zhx q4; have q5 := zhx q5; have q10 := zhx q10; have q11 := zhx q11; have q27 := zhx q27; have q60 := zhx q60; have q61 := zhx q61; have q79 := zhx q79; have q80 := zhx q80; omega))) hZc94 hYm95 (by first | rfl | (omega) | (simp only [] <;> omega) | (have q1 := zhx q1; have q2 := zhx q2; have q4 := zhx q4; have q5 := zhx q5; have q10 := zhx q10; have q11 := zhx q11; have q27 := zhx q27; have q60 := zhx q60; have q61 := zhx q61; omega))
                  have hF98 := zFc_u hF92 hZc94 rfl rfl
                  have hG99 := yFr_u hG93 hYm95 (zcm_s (ac_44_1 (a := 201 + 20 * (Ym72 2 0 0 102)) (x := (Y 2 0 0 102)) (by first | (have q10 := zhx q10; have q79 := zhx q79; omega) | (have q1 := zhx q1; have q2 := zhx q2; have q4 := zhx q4; have q5 := zhx q5; have q10 := zhx q10; have q11 := zhx q11; have q27 := zhx q27; have q60 := zhx q60; have q61 := zhx q61; have q79 := zhx q79; omega)) (by first | (have q10 := zhx q10; have q79 := zhx q79; omega) | (have q1 := zhx q1; have q2 := zhx q2; have q4 := zhx q4; have q5 := zhx q5; have q10 := zhx q10; have q11 := zhx q11; have q27 := zhx q27; have q60 := zhx q60; have q61 := zhx q61; have q79 := zhx q79; omega)) (by first | (have q10 := zhx q10; have q79 := zhx q79; omega) | (have q1 := zhx q1; have q2 := zhx q2; have q4 := zhx q4; have q5 := zhx q5; have q10 := zhx q10; have q11 := zhx q11; have q27 := zhx q27; have q60 := zhx q60; have q61 := zhx q61; have q79 := zhx q79; omega)))) rfl
                  have q100 := zhd (zVr_11_13 (a := 0) hV (by omega))
                  have q101 := zhd (((((((zu_ne (k' := 2) (b' := 0) (i' := 0) (j' := 0) hYm95 (fun q => absurd q.2.2.2 (by first | (have q10 := zhx q10; have q79 := zhx q79; omega) | (have q1 := zhx q1; have q2 := zhx q2; have q4 := zhx q4; have q5 := zhx q5; have q10 := zhx q10; have q11 := zhx q11; have q27 := zhx q27; have q60 := zhx q60; have q61 := zhx q61; have q79 := zhx q79; omega)))).trans (zu_ne (k' := 2) (b' := 0) (i' := 0) (j' := 0) hYm89 (fun q => absurd q.2.2.2 (by first | (have q10 := zhx q10; have q79 := zhx q79; omega) | (have q1 := zhx q1; have q2 := zhx q2; have q4 := zhx q4; have q5 := zhx q5; have q10 := zhx q10; have q11 := zhx q11; have q27 := zhx q27; have q60 := zhx q60; have q61 := zhx q61; have q79 := zhx q79; omega))))).trans (yFa_dm hd hYm72 (0) rfl)).trans (zu_ne (k' := 2) (b' := 0) (i' := 0) (j' := 0) hYm67 (fun q => absurd q.1 (by decide)))).trans (zu_ne (k' := 2) (b' := 0) (i' := 0) (j' := 0) hYm54 (fun q => absurd q.1 (by decide)))).trans (zu_ne (k' := 2) (b' := 0) (i' := 0) (j' := 0) hYm50 (fun q => absurd q.1 (by decide)))))
                  have q102 := zhd (((zRl_11_13 (a := 0) (zRx_1 hR97) (by omega)).trans (zhx q101)))
                  obtain ⟨Zc103, hZc103, hC⟩ := zl_x hC
                  obtain ⟨Ym104, hYm104, g81⟩ := zl_x g81
                  have hV105 : zV Ym104 := zV_n hV96 hYm104 (zvn_44_2 (x := (Y 2 0 0 102)) (by first | (have q10 := zhx q10; have q79 := zhx q79; omega) | (have q1 := zhx q1; have q2 := zhx q2; have q4 := zhx q4; have q5 := zhx q5; have q10 := zhx q10; have q11 := zhx q11; have q27 := zhx q27; have q60 := zhx q60; have q61 := zhx q61; have q79 := zhx q79; omega)) (by first | (have q10 := zhx q10; have q79 := zhx q79; omega) | (have q1 := zhx q1; have q2 := zhx q2; have q4 := zhx q4; have q5 := zhx q5; have q10 := zhx q10; have q11 := zhx q11; have q27 := zhx q27; have q60 := zhx q60; have q61 := zhx q61; have q79 := zhx q79; omega)) (by first | (have q10 := zhx q10; have q79 := zhx q79; omega) | (have q1 := zhx q1; have q2 := zhx q2; have q4 := zhx q4; have q5 := zhx q5; have q10 := zhx q10; have q11 := zhx q11; have q27 := zhx q27; have q60 := zhx q60; have q61 := zhx q61; have q79 := zhx q79; omega)))
                  have hR106 : zRx [] 0 Zc103 Ym104 := zRx_w hR97 (ac_44_2 (by first | (have q10 := zhx q10; have q79 := zhx q79; have q80 := zhx q80; omega) | (have q1 := zhx q1; have q2 := zhx q2; have q4 := zhx q4; have q5 := zhx q5; have q10 := zhx q10; have q11 := zhx q11; have q27 := zhx q27; have q60 := zhx q60; have q61 := zhx q61; have q79 := zhx q79; have q80 := zhx q80; omega)) (by first | (have q10 := zhx q10; have q79 := zhx q79; have q80 := zhx q80; omega) | (have q1 := zhx q1; have q2 := zhx q2; have q4 := zhx q4; have q5 := zhx q5; have q10 := zhx q10; have q11 := zhx q11; have q27 := zhx q27; have q60 := zhx q60; have q61 := zhx q61; have q79 := zhx q79; have q80 := zhx q80; omega)) (by first | (have q10 := zhx q10; have q79 := zhx q79; have q80 := zhx q80; omega) | (have q1 := zhx q1; have q2 := zhx q2; have q4 := zhx q4; have q5 := zhx q5; have q10 := zhx q10; have q11 := zhx q11; have q27 := zhx q27; have q60 := zhx q60; have q61 := zhx q61; have q79 := zhx q79; have q80 := zhx q80; omega))) hZc103 hYm104 (by first | rfl | (have q100 := zhx q100; have q101 := zhx q101; have q102 := zhx q102; omega) | (simp only [zhx q100, zhx q101, zhx q102] <;> omega) | (have q1 := zhx q1; have q2 := zhx q2; have q4 := zhx q4; have q5 := zhx q5; have q10 := zhx q10; have q11 := zhx q11; have q27 := zhx q27; have q60 := zhx q60; have q61 := zhx q61; have q100 := zhx q100; have q101 := zhx q101; have q102 := zhx q102; omega))
                  have hF107 := zFc_u hF98 hZc103 rfl rfl
                  have hG108 := yFr_u hG99 hYm104 (zcm_s (ac_44_2 (a := 202 + 20 * (Ym72 2 0 0 102)) (x := (Y 2 0 0 102)) (by first | (have q10 := zhx q10; have q79 := zhx q79; omega) | (have q1 := zhx q1; have q2 := zhx q2; have q4 := zhx q4; have q5 := zhx q5; have q10 := zhx q10; have q11 := zhx q11; have q27 := zhx q27; have q60 := zhx q60; have q61 := zhx q61; have q79 := zhx q79; omega)) (by first | (have q10 := zhx q10; have q79 := zhx q79; omega) | (have q1 := zhx q1; have q2 := zhx q2; have q4 := zhx q4; have q5 := zhx q5; have q10 := zhx q10; have q11 := zhx q11; have q27 := zhx q27; have q60 := zhx q60; have q61 := zhx q61; have q79 := zhx q79; omega)) (by first | (have q10 := zhx q10; have q79 := zhx q79; omega) | (have q1 := zhx q1; have q2 := zhx q2; have q4 := zhx q4; have q5 := zhx q5; have q10 := zhx q10; have q11 := zhx q11; have q27 := zhx q27; have q60 := zhx q60; have q61 := zhx q61; have q79 := zhx q79; omega)))) rfl
                  obtain ⟨Zc109, hZc109, hC⟩ := zl_x hC
                  obtain ⟨Ym110, hYm110, g81⟩ := zl_x g81
                  have hV111 : zV Ym110 := zV_n hV105 hYm110 (zvn_44_3 (x := (Y 2 0 0 102)) (by first | (have q10 := zhx q10; have q79 := zhx q79; omega) | (have q1 := zhx q1; have q2 := zhx q2; have q4 := zhx q4; have q5 := zhx q5; have q10 := zhx q10; have q11 := zhx q11; have q27 := zhx q27; have q60 := zhx q60; have q61 := zhx q61; have q79 := zhx q79; omega)) (by first | (have q10 := zhx q10; have q79 := zhx q79; omega) | (have q1 := zhx q1; have q2 := zhx q2; have q4 := zhx q4; have q5 := zhx q5; have q10 := zhx q10; have q11 := zhx q11; have q27 := zhx q27; have q60 := zhx q60; have q61 := zhx q61; have q79 := zhx q79; omega)) (by first | (have q10 := zhx q10; have q79 := zhx q79; omega) | (have q1 := zhx q1; have q2 := zhx q2; have q4 := zhx q4; have q5 := zhx q5; have q10 := zhx q10; have q11 := zhx q11; have q27 := zhx q27; have q60 := zhx q60; have q61 := zhx q61; have q79 := zhx q79; omega)))
                  have hR112 : zRx [] 0 Zc109 Ym110 := zRx_w hR106 (ac_44_3 (by first | (have q10 := zhx q10; have q79 := zhx q79; have q80 := zhx q80; omega) | (have q1 := zhx q1; have q2 := zhx q2; have q4 := zhx q4; have q5 := zhx q5; have q10 := zhx q10; have q11 := zhx q11; have q27 := zhx q27; have q60 := zhx q60; have q61 := zhx q61; have q79 := zhx q79; have q80 := zhx q80; omega)) (by first | (have q10 := zhx q10; have q79 := zhx q79; have q80 := zhx q80; omega) | (have q1 := zhx q1; have q2 := zhx q2; have q4 := zhx q4; have q5 := zhx q5; have q10 := zhx q10; have q11 := zhx q11; have q27 := zhx q27; have q60 := zhx q60; have q61 := zhx q61; have q79 := zhx q79; have q80 := zhx q80; omega)) (by first | (have q10 := zhx q10; have q79 := zhx q79; have q80 := zhx q80; omega) | (have q1 := zhx q1; have q2 := zhx q2; have q4 := zhx q4; have q5 := zhx q5; have q10 := zhx q10; have q11 := zhx q11; have q27 := zhx q27; have q60 := zhx q60; have q61 := zhx q61; have q79 := zhx q79; have q80 := zhx q80; omega))) hZc109 hYm110 (by first | rfl | (omega) | (simp only [] <;> omega) | (have q1 := zhx q1; have q2 := zhx q2; have q4 := zhx q4; have q5 := zhx q5; have q10 := zhx q10; have q11 := zhx q11; have q27 := zhx q27; have q60 := zhx q60; have q61 := zhx q61; omega))
                  have hF113 := zFc_u hF107 hZc109 rfl rfl
                  have hG114 := yFr_u hG108 hYm110 (zcm_s (ac_44_3 (a := 203 + 20 * (Ym72 2 0 0 102)) (x := (Y 2 0 0 102)) (by first | (have q10 := zhx q10; have q79 := zhx q79; omega) | (have q1 := zhx q1; have q2 := zhx q2; have q4 := zhx q4; have q5 := zhx q5; have q10 := zhx q10; have q11 := zhx q11; have q27 := zhx q27; have q60 := zhx q60; have q61 := zhx q61; have q79 := zhx q79; omega)) (by first | (have q10 := zhx q10; have q79 := zhx q79; omega) | (have q1 := zhx q1; have q2 := zhx q2; have q4 := zhx q4; have q5 := zhx q5; have q10 := zhx q10; have q11 := zhx q11; have q27 := zhx q27; have q60 := zhx q60; have q61 := zhx q61; have q79 := zhx q79; omega)) (by first | (have q10 := zhx q10; have q79 := zhx q79; omega) | (have q1 := zhx q1; have q2 := zhx q2; have q4 := zhx q4; have q5 := zhx q5; have q10 := zhx q10; have q11 := zhx q11; have q27 := zhx q27; have q60 := zhx q60; have q61 := zhx q61; have q79 := zhx q79; omega)))) rfl
                  obtain ⟨Zc115, hZc115, hC⟩ := zl_x hC
                  obtain ⟨Ym116, hYm116, g81⟩ := zl_x g81
                  have hV117 : zV Ym116 := zV_n hV111 hYm116 (zvn_44_4 (x := (Y 2 0 0 102)) (by first | (have q10 := zhx q10; have q79 := zhx q79; omega) | (have q1 := zhx q1; have q2 := zhx q2; have q4 := zhx q4; have q5 := zhx q5; have q10 := zhx q10; have q11 := zhx q11; have q27 := zhx q27; have q60 := zhx q60; have q61 := zhx q61; have q79 := zhx q79; omega)) (by first | (have q10 := zhx q10; have q79 := zhx q79; omega) | (have q1 := zhx q1; have q2 := zhx q2; have q4 := zhx q4; have q5 := zhx q5; have q10 := zhx q10; have q11 := zhx q11; have q27 := zhx q27; have q60 := zhx q60; have q61 := zhx q61; have q79 := zhx q79; omega)) (by first | (have q10 := zhx q10; have q79 := zhx q79; omega) | (have q1 := zhx q1; have q2 := zhx q2; have q4 := zhx q4; have q5 := zhx q5; have q10 := zhx q10; have q11 := zhx q11; have q27 := zhx q27; have q60 := zhx q60; have q61 := zhx q61; have q79 := zhx q79; omega)))
                  have hR118 : zRx [] 0 Zc115 Ym116 := zRx_w hR112 (ac_44_4 (by first | (have q10 := zhx q10; have q79 := zhx q79; have q80 := zhx q80; omega) | (have q1 := zhx q1; have q2 := zhx q2; have q4 := zhx q4; have q5 := zhx q5; have q10 := zhx q10; have q11 := zhx q11; have q27 := zhx q27; have q60 := zhx q60; have q61 := zhx q61; have q79 := zhx q79; have q80 := zhx q80; omega)) (by first | (have q10 := zhx q10; have q79 := zhx q79; have q80 := zhx q80; omega) | (have q1 := zhx q1; have q2 := zhx q2; have q4 := zhx q4; have q5 := zhx q5; have q10 := zhx q10; have q11 := zhx q11; have q27 := zhx q27; have q60 := zhx q60; have q61 := zhx q61; have q79 := zhx q79; have q80 := zhx q80; omega)) (by first | (have q10 := zhx q10; have q79 := zhx q79; have q80 := zhx q80; omega) | (have q1 := zhx q1; have q2 := zhx q2; have q4 := zhx q4; have q5 := zhx q5; have q10 := zhx q10; have q11 := zhx q11; have q27 := zhx q27; have q60 := zhx q60; have q61 := zhx q61; have q79 := zhx q79; have q80 := zhx q80; omega))) hZc115 hYm116 (by first | rfl | (omega) | (simp only [] <;> omega) | (have q1 := zhx q1; have q2 := zhx q2; have q4 := zhx q4; have q5 := zhx q5; have q10 := zhx q10; have q11 := zhx q11; have q27 := zhx q27; have q60 := zhx q60; have q61 := zhx q61; omega))
                  have hF119 := zFc_u hF113 hZc115 rfl rfl
                  have hG120 := yFr_u hG114 hYm116 (zcm_s (ac_44_4 (a := 204 + 20 * (Ym72 2 0 0 102)) (x := (Y 2 0 0 102)) (by first | (have q10 := zhx q10; have q79 := zhx q79; omega) | (have q1 := zhx q1; have q2 := zhx q2; have q4 := zhx q4; have q5 := zhx q5; have q10 := zhx q10; have q11 := zhx q11; have q27 := zhx q27; have q60 := zhx q60; have q61 := zhx q61; have q79 := zhx q79; omega)) (by first | (have q10 := zhx q10; have q79 := zhx q79; omega) | (have q1 := zhx q1; have q2 := zhx q2; have q4 := zhx q4; have q5 := zhx q5; have q10 := zhx q10; have q11 := zhx q11; have q27 := zhx q27; have q60 := zhx q60; have q61 := zhx q61; have q79 := zhx q79; omega)) (by first | (have q10 := zhx q10; have q79 := zhx q79; omega) | (have q1 := zhx q1; have q2 := zhx q2; have q4 := zhx q4; have q5 := zhx q5; have q10 := zhx q10; have q11 := zhx q11; have q27 := zhx q27; have q60 := zhx q60; have q61 := zhx q61; have q79 := zhx q79; omega)))) rfl
                  obtain ⟨Zc121, hZc121, hC⟩ := zl_x hC
                  obtain ⟨Ym122, hYm122, g81⟩ := zl_x g81
                  have hV123 : zV Ym122 := zV_n hV117 hYm122 (zvn_44_5 (x := (Y 2 0 0 102)) (by first | (have q10 := zhx q10; have q79 := zhx q79; omega) | (have q1 := zhx q1; have q2 := zhx q2; have q4 := zhx q4; have q5 := zhx q5; have q10 := zhx q10; have q11 := zhx q11; have q27 := zhx q27; have q60 := zhx q60; have q61 := zhx q61; have q79 := zhx q79; omega)) (by first | (have q10 := zhx q10; have q79 := zhx q79; omega) | (have q1 := zhx q1; have q2 := zhx q2; have q4 := zhx q4; have q5 := zhx q5; have q10 := zhx q10; have q11 := zhx q11; have q27 := zhx q27; have q60 := zhx q60; have q61 := zhx q61; have q79 := zhx q79; omega)) (by first | (have q10 := zhx q10; have q79 := zhx q79; omega) | (have q1 := zhx q1; have q2 := zhx q2; have q4 := zhx q4; have q5 := zhx q5; have q10 := zhx q10; have q11 := zhx q11; have q27 := zhx q27; have q60 := zhx q60; have q61 := zhx q61; have q79 := zhx q79; omega)))
                  have hR124 : zRx [] 0 Zc121 Ym122 := zRx_w hR118 (ac_44_5 (by first | (have q10 := zhx q10; have q79 := zhx q79; have q80 := zhx q80; omega) | (have q1 := zhx q1; have q2 := zhx q2; have q4 := zhx q4; have q5 := zhx q5; have q10 := zhx q10; have q11 := zhx q11; have q27 := zhx q27; have q60 := zhx q60; have q61 := zhx q61; have q79 := zhx q79; have q80 := zhx q80; omega)) (by first | (have q10 := zhx q10; have q79 := zhx q79; have q80 := zhx q80; omega) | (have q1 := zhx q1; have q2 := zhx q2; have q4 := zhx q4; have q5 := zhx q5; have q10 := zhx q10; have q11 := zhx q11; have q27 := zhx q27; have q60 := zhx q60; have q61 := zhx q61; have q79 := zhx q79; have q80 := zhx q80; omega)) (by first | (have q10 := zhx q10; have q79 := zhx q79; have q80 := zhx q80; omega) | (have q1 := zhx q1; have q2 := zhx q2; have q4 := zhx q4; have q5 := zhx q5; have q10 := zhx q10; have q11 := zhx q11; have q27 := zhx q27; have q60 := zhx q60; have q61 := zhx q61; have q79 := zhx q79; have q80 := zhx q80; omega))) hZc121 hYm122 (by first | rfl | (omega) | (simp only [] <;> omega) | (have q1 := zhx q1; have q2 := zhx q2; have q4 := zhx q4; have q5 := zhx q5; have q10 := zhx q10; have q11 := zhx q11; have q27 := zhx q27; have q60 := zhx q60; have q61 := zhx q61; omega))
                  have hF125 := zFc_u hF119 hZc121 rfl rfl
                  have hG126 := yFr_u hG120 hYm122 (zcm_s (ac_44_5 (a := 205 + 20 * (Ym72 2 0 0 102)) (x := (Y 2 0 0 102)) (by first | (have q10 := zhx q10; have q79 := zhx q79; omega) | (have q1 := zhx q1; have q2 := zhx q2; have q4 := zhx q4; have q5 := zhx q5; have q10 := zhx q10; have q11 := zhx q11; have q27 := zhx q27; have q60 := zhx q60; have q61 := zhx q61; have q79 := zhx q79; omega)) (by first | (have q10 := zhx q10; have q79 := zhx q79; omega) | (have q1 := zhx q1; have q2 := zhx q2; have q4 := zhx q4; have q5 := zhx q5; have q10 := zhx q10; have q11 := zhx q11; have q27 := zhx q27; have q60 := zhx q60; have q61 := zhx q61; have q79 := zhx q79; omega)) (by first | (have q10 := zhx q10; have q79 := zhx q79; omega) | (have q1 := zhx q1; have q2 := zhx q2; have q4 := zhx q4; have q5 := zhx q5; have q10 := zhx q10; have q11 := zhx q11; have q27 := zhx q27; have q60 := zhx q60; have q61 := zhx q61; have q79 := zhx q79; omega)))) rfl
                  obtain ⟨Zc127, hZc127, hC⟩ := zl_x hC
                  obtain ⟨Ym128, hYm128, g81⟩ := zl_x g81
                  have hV129 : zV Ym128 := zV_n hV123 hYm128 (zvn_44_7 (x := (Y 2 0 0 102)) (by first | (have q10 := zhx q10; have q79 := zhx q79; omega) | (have q1 := zhx q1; have q2 := zhx q2; have q4 := zhx q4; have q5 := zhx q5; have q10 := zhx q10; have q11 := zhx q11; have q27 := zhx q27; have q60 := zhx q60; have q61 := zhx q61; have q79 := zhx q79; omega)) (by first | (have q10 := zhx q10; have q79 := zhx q79; omega) | (have q1 := zhx q1; have q2 := zhx q2; have q4 := zhx q4; have q5 := zhx q5; have q10 := zhx q10; have q11 := zhx q11; have q27 := zhx q27; have q60 := zhx q60; have q61 := zhx q61; have q79 := zhx q79; omega)) (by first | (have q10 := zhx q10; have q79 := zhx q79; omega) | (have q1 := zhx q1; have q2 := zhx q2; have q4 := zhx q4; have q5 := zhx q5; have q10 := zhx q10; have q11 := zhx q11; have q27 := zhx q27; have q60 := zhx q60; have q61 := zhx q61; have q79 := zhx q79; omega)))
                  have hR130 : zRx [] 0 Zc127 Ym128 := zRx_w hR124 (ac_44_7 (by first | (have q10 := zhx q10; have q79 := zhx q79; have q80 := zhx q80; omega) | (have q1 := zhx q1; have q2 := zhx q2; have q4 := zhx q4; have q5 := zhx q5; have q10 := zhx q10; have q11 := zhx q11; have q27 := zhx q27; have q60 := zhx q60; have q61 := zhx q61; have q79 := zhx q79; have q80 := zhx q80; omega)) (by first | (have q10 := zhx q10; have q79 := zhx q79; have q80 := zhx q80; omega) | (have q1 := zhx q1; have q2 := zhx q2; have q4 := zhx q4; have q5 := zhx q5; have q10 := zhx q10; have q11 := zhx q11; have q27 := zhx q27; have q60 := zhx q60; have q61 := zhx q61; have q79 := zhx q79; have q80 := zhx q80; omega)) (by first | (have q10 := zhx q10; have q79 := zhx q79; have q80 := zhx q80; omega) | (have q1 := zhx q1; have q2 := zhx q2; have q4 := zhx q4; have q5 := zhx q5; have q10 := zhx q10; have q11 := zhx q11; have q27 := zhx q27; have q60 := zhx q60; have q61 := zhx q61; have q79 := zhx q79; have q80 := zhx q80; omega))) hZc127 hYm128 (by first | rfl | (omega) | (simp only [] <;> omega) | (have q1 := zhx q1; have q2 := zhx q2; have q4 := zhx q4; have q5 := zhx q5; have q10 := zhx q10; have q11 := zhx q11; have q27 := zhx q27; have q60 := zhx q60; have q61 := zhx q61; omega))
                  have hF131 := zFc_u hF125 hZc127 rfl rfl
                  have hG132 := yFr_u hG126 hYm128 (zcm_s (ac_44_7 (a := 207 + 20 * (Ym72 2 0 0 102)) (x := (Y 2 0 0 102)) (by first | (have q10 := zhx q10; have q79 := zhx q79; omega) | (have q1 := zhx q1; have q2 := zhx q2; have q4 := zhx q4; have q5 := zhx q5; have q10 := zhx q10; have q11 := zhx q11; have q27 := zhx q27; have q60 := zhx q60; have q61 := zhx q61; have q79 := zhx q79; omega)) (by first | (have q10 := zhx q10; have q79 := zhx q79; omega) | (have q1 := zhx q1; have q2 := zhx q2; have q4 := zhx q4; have q5 := zhx q5; have q10 := zhx q10; have q11 := zhx q11; have q27 := zhx q27; have q60 := zhx q60; have q61 := zhx q61; have q79 := zhx q79; omega)) (by first | (have q10 := zhx q10; have q79 := zhx q79; omega) | (have q1 := zhx q1; have q2 := zhx q2; have q4 := zhx q4; have q5 := zhx q5; have q10 := zhx q10; have q11 := zhx q11; have q27 := zhx q27; have q60 := zhx q60; have q61 := zhx q61; have q79 := zhx q79; omega)))) rfl
                  obtain ⟨Zc133, hZc133, hC⟩ := zl_x hC
                  obtain ⟨Ym134, hYm134, g81⟩ := zl_x g81
                  have hV135 : zV Ym134 := zV_i hV129 hYm134 (zvi_44_9 (x := (Y 2 0 0 102)) (by first | (have q10 := zhx q10; have q79 := zhx q79; omega) | (have q1 := zhx q1; have q2 := zhx q2; have q4 := zhx q4; have q5 := zhx q5; have q10 := zhx q10; have q11 := zhx q11; have q27 := zhx q27; have q60 := zhx q60; have q61 := zhx q61; have q79 := zhx q79; omega)) (by first | (have q10 := zhx q10; have q79 := zhx q79; omega) | (have q1 := zhx q1; have q2 := zhx q2; have q4 := zhx q4; have q5 := zhx q5; have q10 := zhx q10; have q11 := zhx q11; have q27 := zhx q27; have q60 := zhx q60; have q61 := zhx q61; have q79 := zhx q79; omega)) (by first | (have q10 := zhx q10; have q79 := zhx q79; omega) | (have q1 := zhx q1; have q2 := zhx q2; have q4 := zhx q4; have q5 := zhx q5; have q10 := zhx q10; have q11 := zhx q11; have q27 := zhx q27; have q60 := zhx q60; have q61 := zhx q61; have q79 := zhx q79; omega))) (by have q1 := zhx q1; have q2 := zhx q2; have q4 := zhx q4; have q5 := zhx q5; have q10 := zhx q10; have q11 := zhx q11; have q27 := zhx q27; have q60 := zhx q60; have q61 := zhx q61; first | omega | exact w3_r _)
                  have hR136 : zRx [] 0 Zc133 Ym134 := zRx_w hR130 (ac_44_9 (by first | (have q10 := zhx q10; have q79 := zhx q79; have q80 := zhx q80; omega) | (have q1 := zhx q1; have q2 := zhx q2; have q4 := zhx q4; have q5 := zhx q5; have q10 := zhx q10; have q11 := zhx q11; have q27 := zhx q27; have q60 := zhx q60; have q61 := zhx q61; have q79 := zhx q79; have q80 := zhx q80; omega)) (by first | (have q10 := zhx q10; have q79 := zhx q79; have q80 := zhx q80; omega) | (have q1 := zhx q1; have q2 := zhx q2; have q4 := zhx q4; have q5 := zhx q5; have q10 := zhx q10; have q11 := zhx q11; have q27 := zhx q27; have q60 := zhx q60; have q61 := zhx q61; have q79 := zhx q79; have q80 := zhx q80; omega)) (by first | (have q10 := zhx q10; have q79 := zhx q79; have q80 := zhx q80; omega) | (have q1 := zhx q1; have q2 := zhx q2; have q4 := zhx q4; have q5 := zhx q5; have q10 := zhx q10; have q11 := zhx q11; have q27 := zhx q27; have q60 := zhx q60; have q61 := zhx q61; have q79 := zhx q79; have q80 := zhx q80; omega))) hZc133 hYm134 (by first | rfl | (omega) | (simp only [] <;> omega) | (have q1 := zhx q1; have q2 := zhx q2; have q4 := zhx q4; have q5 := zhx q5; have q10 := zhx q10; have q11 := zhx q11; have q27 := zhx q27; have q60 := zhx q60; have q61 := zhx q61; omega))
                  have hF137 := zFc_u hF131 hZc133 rfl rfl
                  have hG138 := yFr_u hG132 hYm134 (zcm_s (ac_44_9 (a := 209 + 20 * (Ym72 2 0 0 102)) (x := (Y 2 0 0 102)) (by first | (have q10 := zhx q10; have q79 := zhx q79; omega) | (have q1 := zhx q1; have q2 := zhx q2; have q4 := zhx q4; have q5 := zhx q5; have q10 := zhx q10; have q11 := zhx q11; have q27 := zhx q27; have q60 := zhx q60; have q61 := zhx q61; have q79 := zhx q79; omega)) (by first | (have q10 := zhx q10; have q79 := zhx q79; omega) | (have q1 := zhx q1; have q2 := zhx q2; have q4 := zhx q4; have q5 := zhx q5; have q10 := zhx q10; have q11 := zhx q11; have q27 := zhx q27; have q60 := zhx q60; have q61 := zhx q61; have q79 := zhx q79; omega)) (by first | (have q10 := zhx q10; have q79 := zhx q79; omega) | (have q1 := zhx q1; have q2 := zhx q2; have q4 := zhx q4; have q5 := zhx q5; have q10 := zhx q10; have q11 := zhx q11; have q27 := zhx q27; have q60 := zhx q60; have q61 := zhx q61; have q79 := zhx q79; omega)))) rfl
                  obtain ⟨Zc139, hZc139, hC⟩ := zl_x hC
                  have hR140 : zRx [(44, (Zc71 11 0 0 3), 10)] 0 Zc139 Ym134 := zRx_z hR136 hZc139
                  have hF141 := zFc_u hF137 hZc139 rfl rfl
                  obtain ⟨Zc142, hZc142, hC⟩ := zl_x hC
                  obtain ⟨Ym143, hYm143, g81⟩ := zl_x g81
                  have hV144 : zV Ym143 := zV_i hV135 hYm143 (zvi_44_12 (x := (Y 2 0 0 102)) (by first | (have q10 := zhx q10; have q79 := zhx q79; omega) | (have q1 := zhx q1; have q2 := zhx q2; have q4 := zhx q4; have q5 := zhx q5; have q10 := zhx q10; have q11 := zhx q11; have q27 := zhx q27; have q60 := zhx q60; have q61 := zhx q61; have q79 := zhx q79; omega)) (by first | (have q10 := zhx q10; have q79 := zhx q79; omega) | (have q1 := zhx q1; have q2 := zhx q2; have q4 := zhx q4; have q5 := zhx q5; have q10 := zhx q10; have q11 := zhx q11; have q27 := zhx q27; have q60 := zhx q60; have q61 := zhx q61; have q79 := zhx q79; omega)) (by first | (have q10 := zhx q10; have q79 := zhx q79; omega) | (have q1 := zhx q1; have q2 := zhx q2; have q4 := zhx q4; have q5 := zhx q5; have q10 := zhx q10; have q11 := zhx q11; have q27 := zhx q27; have q60 := zhx q60; have q61 := zhx q61; have q79 := zhx q79; omega))) (by have q1 := zhx q1; have q2 := zhx q2; have q4 := zhx q4; have q5 := zhx q5; have q10 := zhx q10; have q11 := zhx q11; have q27 := zhx q27; have q60 := zhx q60; have q61 := zhx q61; first | omega | exact w3_r _)
                  have hR145 : zRx [(44, (Zc71 11 0 0 3), 10)] 0 Zc142 Ym143 := zRx_w hR140 (ac_44_12 (by first | (have q10 := zhx q10; have q79 := zhx q79; have q80 := zhx q80; omega) | (have q1 := zhx q1; have q2 := zhx q2; have q4 := zhx q4; have q5 := zhx q5; have q10 := zhx q10; have q11 := zhx q11; have q27 := zhx q27; have q60 := zhx q60; have q61 := zhx q61; have q79 := zhx q79; have q80 := zhx q80; omega)) (by first | (have q10 := zhx q10; have q79 := zhx q79; have q80 := zhx q80; omega) | (have q1 := zhx q1; have q2 := zhx q2; have q4 := zhx q4; have q5 := zhx q5; have q10 := zhx q10; have q11 := zhx q11; have q27 := zhx q27; have q60 := zhx q60; have q61 := zhx q61; have q79 := zhx q79; have q80 := zhx q80; omega)) (by first | (have q10 := zhx q10; have q79 := zhx q79; have q80 := zhx q80; omega) | (have q1 := zhx q1; have q2 := zhx q2; have q4 := zhx q4; have q5 := zhx q5; have q10 := zhx q10; have q11 := zhx q11; have q27 := zhx q27; have q60 := zhx q60; have q61 := zhx q61; have q79 := zhx q79; have q80 := zhx q80; omega))) hZc142 hYm143 (by first | rfl | (omega) | (simp only [] <;> omega) | (have q1 := zhx q1; have q2 := zhx q2; have q4 := zhx q4; have q5 := zhx q5; have q10 := zhx q10; have q11 := zhx q11; have q27 := zhx q27; have q60 := zhx q60; have q61 := zhx q61; omega))
                  have hF146 := zFc_u hF141 hZc142 rfl rfl
                  have hG147 := yFr_u hG138 hYm143 (zcm_s (ac_44_12 (a := 211 + 20 * (Ym72 2 0 0 102)) (x := (Y 2 0 0 102)) (by first | (have q10 := zhx q10; have q79 := zhx q79; omega) | (have q1 := zhx q1; have q2 := zhx q2; have q4 := zhx q4; have q5 := zhx q5; have q10 := zhx q10; have q11 := zhx q11; have q27 := zhx q27; have q60 := zhx q60; have q61 := zhx q61; have q79 := zhx q79; omega)) (by first | (have q10 := zhx q10; have q79 := zhx q79; omega) | (have q1 := zhx q1; have q2 := zhx q2; have q4 := zhx q4; have q5 := zhx q5; have q10 := zhx q10; have q11 := zhx q11; have q27 := zhx q27; have q60 := zhx q60; have q61 := zhx q61; have q79 := zhx q79; omega)) (by first | (have q10 := zhx q10; have q79 := zhx q79; omega) | (have q1 := zhx q1; have q2 := zhx q2; have q4 := zhx q4; have q5 := zhx q5; have q10 := zhx q10; have q11 := zhx q11; have q27 := zhx q27; have q60 := zhx q60; have q61 := zhx q61; have q79 := zhx q79; omega)))) rfl
                  obtain ⟨Zc148, hZc148, hC⟩ := zl_x hC
                  obtain ⟨Ym149, hYm149, g81⟩ := zl_x g81
                  have hV150 : zV Ym149 := zV_n hV144 hYm149 (zvn_44_15 (x := (Y 2 0 0 102)) (by first | (have q10 := zhx q10; have q79 := zhx q79; omega) | (have q1 := zhx q1; have q2 := zhx q2; have q4 := zhx q4; have q5 := zhx q5; have q10 := zhx q10; have q11 := zhx q11; have q27 := zhx q27; have q60 := zhx q60; have q61 := zhx q61; have q79 := zhx q79; omega)) (by first | (have q10 := zhx q10; have q79 := zhx q79; omega) | (have q1 := zhx q1; have q2 := zhx q2; have q4 := zhx q4; have q5 := zhx q5; have q10 := zhx q10; have q11 := zhx q11; have q27 := zhx q27; have q60 := zhx q60; have q61 := zhx q61; have q79 := zhx q79; omega)) (by first | (have q10 := zhx q10; have q79 := zhx q79; omega) | (have q1 := zhx q1; have q2 := zhx q2; have q4 := zhx q4; have q5 := zhx q5; have q10 := zhx q10; have q11 := zhx q11; have q27 := zhx q27; have q60 := zhx q60; have q61 := zhx q61; have q79 := zhx q79; omega)))
                  have hR151 : zRx [(44, (Zc71 11 0 0 3), 10)] 0 Zc148 Ym149 := zRx_w hR145 (ac_44_15 (by first | (have q10 := zhx q10; have q79 := zhx q79; have q80 := zhx q80; omega) | (have q1 := zhx q1; have q2 := zhx q2; have q4 := zhx q4; have q5 := zhx q5; have q10 := zhx q10; have q11 := zhx q11; have q27 := zhx q27; have q60 := zhx q60; have q61 := zhx q61; have q79 := zhx q79; have q80 := zhx q80; omega)) (by first | (have q10 := zhx q10; have q79 := zhx q79; have q80 := zhx q80; omega) | (have q1 := zhx q1; have q2 := zhx q2; have q4 := zhx q4; have q5 := zhx q5; have q10 := zhx q10; have q11 := zhx q11; have q27 := zhx q27; have q60 := zhx q60; have q61 := zhx q61; have q79 := zhx q79; have q80 := zhx q80; omega)) (by first | (have q10 := zhx q10; have q79 := zhx q79; have q80 := zhx q80; omega) | (have q1 := zhx q1; have q2 := zhx q2; have q4 := zhx q4; have q5 := zhx q5; have q10 := zhx q10; have q11 := zhx q11; have q27 := zhx q27; have q60 := zhx q60; have q61 := zhx q61; have q79 := zhx q79; have q80 := zhx q80; omega))) hZc148 hYm149 (by first | rfl | (omega) | (simp only [] <;> omega) | (have q1 := zhx q1; have q2 := zhx q2; have q4 := zhx q4; have q5 := zhx q5; have q10 := zhx q10; have q11 := zhx q11; have q27 := zhx q27; have q60 := zhx q60; have q61 := zhx q61; omega))
                  have hF152 := zFc_u hF146 hZc148 rfl rfl
                  have hG153 := yFr_u hG147 hYm149 (zcm_s (ac_44_15 (a := 213 + 20 * (Ym72 2 0 0 102)) (x := (Y 2 0 0 102)) (by first | (have q10 := zhx q10; have q79 := zhx q79; omega) | (have q1 := zhx q1; have q2 := zhx q2; have q4 := zhx q4; have q5 := zhx q5; have q10 := zhx q10; have q11 := zhx q11; have q27 := zhx q27; have q60 := zhx q60; have q61 := zhx q61; have q79 := zhx q79; omega)) (by first | (have q10 := zhx q10; have q79 := zhx q79; omega) | (have q1 := zhx q1; have q2 := zhx q2; have q4 := zhx q4; have q5 := zhx q5; have q10 := zhx q10; have q11 := zhx q11; have q27 := zhx q27; have q60 := zhx q60; have q61 := zhx q61; have q79 := zhx q79; omega)) (by first | (have q10 := zhx q10; have q79 := zhx q79; omega) | (have q1 := zhx q1; have q2 := zhx q2; have q4 := zhx q4; have q5 := zhx q5; have q10 := zhx q10; have q11 := zhx q11; have q27 := zhx q27; have q60 := zhx q60; have q61 := zhx q61; have q79 := zhx q79; omega)))) rfl
                  have q154 := zhd (((zRlx hR151 (ac_11_3 (a := 102) (by omega)) (by simp)).trans ((((((((((((zu_ne (k' := 2) (b' := 0) (i' := 0) (j' := 102) hYm149 (fun q => absurd q.2.2.2 (by first | (have q10 := zhx q10; have q79 := zhx q79; omega) | (have q1 := zhx q1; have q2 := zhx q2; have q4 := zhx q4; have q5 := zhx q5; have q10 := zhx q10; have q11 := zhx q11; have q27 := zhx q27; have q60 := zhx q60; have q61 := zhx q61; have q79 := zhx q79; omega)))).trans (zu_ne (k' := 2) (b' := 0) (i' := 0) (j' := 102) hYm143 (fun q => absurd q.2.2.2 (by first | (have q10 := zhx q10; have q79 := zhx q79; omega) | (have q1 := zhx q1; have q2 := zhx q2; have q4 := zhx q4; have q5 := zhx q5; have q10 := zhx q10; have q11 := zhx q11; have q27 := zhx q27; have q60 := zhx q60; have q61 := zhx q61; have q79 := zhx q79; omega))))).trans (zu_ne (k' := 2) (b' := 0) (i' := 0) (j' := 102) hYm134 (fun q => absurd q.2.2.2 (by first | (have q10 := zhx q10; have q79 := zhx q79; omega) | (have q1 := zhx q1; have q2 := zhx q2; have q4 := zhx q4; have q5 := zhx q5; have q10 := zhx q10; have q11 := zhx q11; have q27 := zhx q27; have q60 := zhx q60; have q61 := zhx q61; have q79 := zhx q79; omega))))).trans (zu_ne (k' := 2) (b' := 0) (i' := 0) (j' := 102) hYm128 (fun q => absurd q.2.2.2 (by first | (have q10 := zhx q10; have q79 := zhx q79; omega) | (have q1 := zhx q1; have q2 := zhx q2; have q4 := zhx q4; have q5 := zhx q5; have q10 := zhx q10; have q11 := zhx q11; have q27 := zhx q27; have q60 := zhx q60; have q61 := zhx q61; have q79 := zhx q79; omega))))).trans (zu_ne (k' := 2) (b' := 0) (i' := 0) (j' := 102) hYm122 (fun q => absurd q.2.2.2 (by first | (have q10 := zhx q10; have q79 := zhx q79; omega) | (have q1 := zhx q1; have q2 := zhx q2; have q4 := zhx q4; have q5 := zhx q5; have q10 := zhx q10; have q11 := zhx q11; have q27 := zhx q27; have q60 := zhx q60; have q61 := zhx q61; have q79 := zhx q79; omega))))).trans (zu_ne (k' := 2) (b' := 0) (i' := 0) (j' := 102) hYm116 (fun q => absurd q.2.2.2 (by first | (have q10 := zhx q10; have q79 := zhx q79; omega) | (have q1 := zhx q1; have q2 := zhx q2; have q4 := zhx q4; have q5 := zhx q5; have q10 := zhx q10; have q11 := zhx q11; have q27 := zhx q27; have q60 := zhx q60; have q61 := zhx q61; have q79 := zhx q79; omega))))).trans (zu_ne (k' := 2) (b' := 0) (i' := 0) (j' := 102) hYm110 (fun q => absurd q.2.2.2 (by first | (have q10 := zhx q10; have q79 := zhx q79; omega) | (have q1 := zhx q1; have q2 := zhx q2; have q4 := zhx q4; have q5 := zhx q5; have q10 := zhx q10; have q11 := zhx q11; have q27 := zhx q27; have q60 := zhx q60; have q61 := zhx q61; have q79 := zhx q79; omega))))).trans (zu_ne (k' := 2) (b' := 0) (i' := 0) (j' := 102) hYm104 (fun q => absurd q.2.2.2 (by first | (have q10 := zhx q10; have q79 := zhx q79; omega) | (have q1 := zhx q1; have q2 := zhx q2; have q4 := zhx q4; have q5 := zhx q5; have q10 := zhx q10; have q11 := zhx q11; have q27 := zhx q27; have q60 := zhx q60; have q61 := zhx q61; have q79 := zhx q79; omega))))).trans (zu_ne (k' := 2) (b' := 0) (i' := 0) (j' := 102) hYm95 (fun q => absurd q.2.2.2 (by first | (have q10 := zhx q10; have q79 := zhx q79; omega) | (have q1 := zhx q1; have q2 := zhx q2; have q4 := zhx q4; have q5 := zhx q5; have q10 := zhx q10; have q11 := zhx q11; have q27 := zhx q27; have q60 := zhx q60; have q61 := zhx q61; have q79 := zhx q79; omega))))).trans (zu_ne (k' := 2) (b' := 0) (i' := 0) (j' := 102) hYm89 (fun q => absurd q.2.2.2 (by first | (have q10 := zhx q10; have q79 := zhx q79; omega) | (have q1 := zhx q1; have q2 := zhx q2; have q4 := zhx q4; have q5 := zhx q5; have q10 := zhx q10; have q11 := zhx q11; have q27 := zhx q27; have q60 := zhx q60; have q61 := zhx q61; have q79 := zhx q79; omega))))).trans (zhx q79)))))
                  have q155 := zhd ((((((((((((zu_ne (k' := 2) (b' := 0) (i' := 0) (j' := 102) hYm149 (fun q => absurd q.2.2.2 (by first | (have q10 := zhx q10; have q79 := zhx q79; omega) | (have q1 := zhx q1; have q2 := zhx q2; have q4 := zhx q4; have q5 := zhx q5; have q10 := zhx q10; have q11 := zhx q11; have q27 := zhx q27; have q60 := zhx q60; have q61 := zhx q61; have q79 := zhx q79; omega)))).trans (zu_ne (k' := 2) (b' := 0) (i' := 0) (j' := 102) hYm143 (fun q => absurd q.2.2.2 (by first | (have q10 := zhx q10; have q79 := zhx q79; omega) | (have q1 := zhx q1; have q2 := zhx q2; have q4 := zhx q4; have q5 := zhx q5; have q10 := zhx q10; have q11 := zhx q11; have q27 := zhx q27; have q60 := zhx q60; have q61 := zhx q61; have q79 := zhx q79; omega))))).trans (zu_ne (k' := 2) (b' := 0) (i' := 0) (j' := 102) hYm134 (fun q => absurd q.2.2.2 (by first | (have q10 := zhx q10; have q79 := zhx q79; omega) | (have q1 := zhx q1; have q2 := zhx q2; have q4 := zhx q4; have q5 := zhx q5; have q10 := zhx q10; have q11 := zhx q11; have q27 := zhx q27; have q60 := zhx q60; have q61 := zhx q61; have q79 := zhx q79; omega))))).trans (zu_ne (k' := 2) (b' := 0) (i' := 0) (j' := 102) hYm128 (fun q => absurd q.2.2.2 (by first | (have q10 := zhx q10; have q79 := zhx q79; omega) | (have q1 := zhx q1; have q2 := zhx q2; have q4 := zhx q4; have q5 := zhx q5; have q10 := zhx q10; have q11 := zhx q11; have q27 := zhx q27; have q60 := zhx q60; have q61 := zhx q61; have q79 := zhx q79; omega))))).trans (zu_ne (k' := 2) (b' := 0) (i' := 0) (j' := 102) hYm122 (fun q => absurd q.2.2.2 (by first | (have q10 := zhx q10; have q79 := zhx q79; omega) | (have q1 := zhx q1; have q2 := zhx q2; have q4 := zhx q4; have q5 := zhx q5; have q10 := zhx q10; have q11 := zhx q11; have q27 := zhx q27; have q60 := zhx q60; have q61 := zhx q61; have q79 := zhx q79; omega))))).trans (zu_ne (k' := 2) (b' := 0) (i' := 0) (j' := 102) hYm116 (fun q => absurd q.2.2.2 (by first | (have q10 := zhx q10; have q79 := zhx q79; omega) | (have q1 := zhx q1; have q2 := zhx q2; have q4 := zhx q4; have q5 := zhx q5; have q10 := zhx q10; have q11 := zhx q11; have q27 := zhx q27; have q60 := zhx q60; have q61 := zhx q61; have q79 := zhx q79; omega))))).trans (zu_ne (k' := 2) (b' := 0) (i' := 0) (j' := 102) hYm110 (fun q => absurd q.2.2.2 (by first | (have q10 := zhx q10; have q79 := zhx q79; omega) | (have q1 := zhx q1; have q2 := zhx q2; have q4 := zhx q4; have q5 := zhx q5; have q10 := zhx q10; have q11 := zhx q11; have q27 := zhx q27; have q60 := zhx q60; have q61 := zhx q61; have q79 := zhx q79; omega))))).trans (zu_ne (k' := 2) (b' := 0) (i' := 0) (j' := 102) hYm104 (fun q => absurd q.2.2.2 (by first | (have q10 := zhx q10; have q79 := zhx q79; omega) | (have q1 := zhx q1; have q2 := zhx q2; have q4 := zhx q4; have q5 := zhx q5; have q10 := zhx q10; have q11 := zhx q11; have q27 := zhx q27; have q60 := zhx q60; have q61 := zhx q61; have q79 := zhx q79; omega))))).trans (zu_ne (k' := 2) (b' := 0) (i' := 0) (j' := 102) hYm95 (fun q => absurd q.2.2.2 (by first | (have q10 := zhx q10; have q79 := zhx q79; omega) | (have q1 := zhx q1; have q2 := zhx q2; have q4 := zhx q4; have q5 := zhx q5; have q10 := zhx q10; have q11 := zhx q11; have q27 := zhx q27; have q60 := zhx q60; have q61 := zhx q61; have q79 := zhx q79; omega))))).trans (zu_ne (k' := 2) (b' := 0) (i' := 0) (j' := 102) hYm89 (fun q => absurd q.2.2.2 (by first | (have q10 := zhx q10; have q79 := zhx q79; omega) | (have q1 := zhx q1; have q2 := zhx q2; have q4 := zhx q4; have q5 := zhx q5; have q10 := zhx q10; have q11 := zhx q11; have q27 := zhx q27; have q60 := zhx q60; have q61 := zhx q61; have q79 := zhx q79; omega))))).trans (zhx q79)))
                  obtain ⟨Zc156, hZc156, hC⟩ := zl_x hC
                  obtain ⟨Ym157, hYm157, g81⟩ := zl_x g81
                  have hV158 : zV Ym157 := zV_i hV150 hYm157 (zvi_11_3 (by first | (omega) | (have q1 := zhx q1; have q2 := zhx q2; have q4 := zhx q4; have q5 := zhx q5; have q10 := zhx q10; have q11 := zhx q11; have q27 := zhx q27; have q60 := zhx q60; have q61 := zhx q61; omega))) (by have q1 := zhx q1; have q2 := zhx q2; have q4 := zhx q4; have q5 := zhx q5; have q10 := zhx q10; have q11 := zhx q11; have q27 := zhx q27; have q60 := zhx q60; have q61 := zhx q61; have q155 := zhx q155; first | omega | exact w3_r _)
                  have hR159 : zRx [(44, (Zc71 11 0 0 3), 10)] 0 Zc156 Ym157 := zRx_w hR151 (ac_11_3 (by first | (omega) | (have q1 := zhx q1; have q2 := zhx q2; have q4 := zhx q4; have q5 := zhx q5; have q10 := zhx q10; have q11 := zhx q11; have q27 := zhx q27; have q60 := zhx q60; have q61 := zhx q61; omega))) hZc156 hYm157 (by first | rfl | (have q10 := zhx q10; have q154 := zhx q154; have q155 := zhx q155; omega) | (simp only [zhx q10, zhx q154, zhx q155] <;> omega) | (have q1 := zhx q1; have q2 := zhx q2; have q4 := zhx q4; have q5 := zhx q5; have q10 := zhx q10; have q11 := zhx q11; have q27 := zhx q27; have q60 := zhx q60; have q61 := zhx q61; have q154 := zhx q154; have q155 := zhx q155; omega))
                  have hF160 := zFc_u hF152 hZc156 rfl rfl
                  have hG161 := yFr_u hG153 hYm157 (zcm_s (ac_11_3 (a := 102) (by first | (omega) | (have q1 := zhx q1; have q2 := zhx q2; have q4 := zhx q4; have q5 := zhx q5; have q10 := zhx q10; have q11 := zhx q11; have q27 := zhx q27; have q60 := zhx q60; have q61 := zhx q61; omega)))) rfl
                  have e9 : Ym157 = Yr82 := Eq.symm (show Yr82 = _ from congrArg (fun x9 => x9.1) (show _ = _ from g81))
                  subst e9
                  have e9 : (Ym72 2 0 0 102) = v83 := Eq.symm (show v83 = _ from congrArg (fun x9 => x9.2) (show _ = _ from g81))
                  subst e9
                  have q164 := zhd (((((zu_ne (k' := 44) (b' := 0) (i' := (Zc71 11 0 0 3)) (j' := 10) hZc156 (fun q => absurd q.1 (by decide))).trans (zu_ne (k' := 44) (b' := 0) (i' := (Zc71 11 0 0 3)) (j' := 10) hZc148 (fun q => absurd q.2.2.2 (by decide)))).trans (zu_ne (k' := 44) (b' := 0) (i' := (Zc71 11 0 0 3)) (j' := 10) hZc142 (fun q => absurd q.2.2.2 (by decide)))).trans (zu_at hZc139)))
                  have q165 := zhd ((congrArg (fun x => Zc156 44 0 x 10) (show (Y 2 0 0 102) = (Zc71 11 0 0 3) from (by first | (have q10 := zhx q10; have q80 := zhx q80; omega) | (have q1 := zhx q1; have q2 := zhx q2; have q4 := zhx q4; have q5 := zhx q5; have q10 := zhx q10; have q11 := zhx q11; have q27 := zhx q27; have q60 := zhx q60; have q61 := zhx q61; have q80 := zhx q80; omega)))).trans (zhx q164))
                  have q166 := zhd (((((((((((((zu_ne (k' := 2) (b' := 0) (i' := 0) (j' := 210 + 20 * (Y 2 0 0 102)) hYm157 (fun q => absurd q.2.2.2 (by first | (have q10 := zhx q10; omega) | (have q1 := zhx q1; have q2 := zhx q2; have q4 := zhx q4; have q5 := zhx q5; have q10 := zhx q10; have q11 := zhx q11; have q27 := zhx q27; have q60 := zhx q60; have q61 := zhx q61; omega)))).trans (zu_ne (k' := 2) (b' := 0) (i' := 0) (j' := 210 + 20 * (Y 2 0 0 102)) hYm149 (fun q => absurd q.2.2.2 (by first | (have q10 := zhx q10; have q79 := zhx q79; omega) | (have q1 := zhx q1; have q2 := zhx q2; have q4 := zhx q4; have q5 := zhx q5; have q10 := zhx q10; have q11 := zhx q11; have q27 := zhx q27; have q60 := zhx q60; have q61 := zhx q61; have q79 := zhx q79; omega))))).trans (zu_ne (k' := 2) (b' := 0) (i' := 0) (j' := 210 + 20 * (Y 2 0 0 102)) hYm143 (fun q => absurd q.2.2.2 (by first | (have q10 := zhx q10; have q79 := zhx q79; omega) | (have q1 := zhx q1; have q2 := zhx q2; have q4 := zhx q4; have q5 := zhx q5; have q10 := zhx q10; have q11 := zhx q11; have q27 := zhx q27; have q60 := zhx q60; have q61 := zhx q61; have q79 := zhx q79; omega))))).trans (zu_ne (k' := 2) (b' := 0) (i' := 0) (j' := 210 + 20 * (Y 2 0 0 102)) hYm134 (fun q => absurd q.2.2.2 (by first | (have q10 := zhx q10; have q79 := zhx q79; omega) | (have q1 := zhx q1; have q2 := zhx q2; have q4 := zhx q4; have q5 := zhx q5; have q10 := zhx q10; have q11 := zhx q11; have q27 := zhx q27; have q60 := zhx q60; have q61 := zhx q61; have q79 := zhx q79; omega))))).trans (zu_ne (k' := 2) (b' := 0) (i' := 0) (j' := 210 + 20 * (Y 2 0 0 102)) hYm128 (fun q => absurd q.2.2.2 (by first | (have q10 := zhx q10; have q79 := zhx q79; omega) | (have q1 := zhx q1; have q2 := zhx q2; have q4 := zhx q4; have q5 := zhx q5; have q10 := zhx q10; have q11 := zhx q11; have q27 := zhx q27; have q60 := zhx q60; have q61 := zhx q61; have q79 := zhx q79; omega))))).trans (zu_ne (k' := 2) (b' := 0) (i' := 0) (j' := 210 + 20 * (Y 2 0 0 102)) hYm122 (fun q => absurd q.2.2.2 (by first | (have q10 := zhx q10; have q79 := zhx q79; omega) | (have q1 := zhx q1; have q2 := zhx q2; have q4 := zhx q4; have q5 := zhx q5; have q10 := zhx q10; have q11 := zhx q11; have q27 := zhx q27; have q60 := zhx q60; have q61 := zhx q61; have q79 := zhx q79; omega))))).trans (zu_ne (k' := 2) (b' := 0) (i' := 0) (j' := 210 + 20 * (Y 2 0 0 102)) hYm116 (fun q => absurd q.2.2.2 (by first | (have q10 := zhx q10; have q79 := zhx q79; omega) | (have q1 := zhx q1; have q2 := zhx q2; have q4 := zhx q4; have q5 := zhx q5; have q10 := zhx q10; have q11 := zhx q11; have q27 := zhx q27; have q60 := zhx q60; have q61 := zhx q61; have q79 := zhx q79; omega))))).trans (zu_ne (k' := 2) (b' := 0) (i' := 0) (j' := 210 + 20 * (Y 2 0 0 102)) hYm110 (fun q => absurd q.2.2.2 (by first | (have q10 := zhx q10; have q79 := zhx q79; omega) | (have q1 := zhx q1; have q2 := zhx q2; have q4 := zhx q4; have q5 := zhx q5; have q10 := zhx q10; have q11 := zhx q11; have q27 := zhx q27; have q60 := zhx q60; have q61 := zhx q61; have q79 := zhx q79; omega))))).trans (zu_ne (k' := 2) (b' := 0) (i' := 0) (j' := 210 + 20 * (Y 2 0 0 102)) hYm104 (fun q => absurd q.2.2.2 (by first | (have q10 := zhx q10; have q79 := zhx q79; omega) | (have q1 := zhx q1; have q2 := zhx q2; have q4 := zhx q4; have q5 := zhx q5; have q10 := zhx q10; have q11 := zhx q11; have q27 := zhx q27; have q60 := zhx q60; have q61 := zhx q61; have q79 := zhx q79; omega))))).trans (zu_ne (k' := 2) (b' := 0) (i' := 0) (j' := 210 + 20 * (Y 2 0 0 102)) hYm95 (fun q => absurd q.2.2.2 (by first | (have q10 := zhx q10; have q79 := zhx q79; omega) | (have q1 := zhx q1; have q2 := zhx q2; have q4 := zhx q4; have q5 := zhx q5; have q10 := zhx q10; have q11 := zhx q11; have q27 := zhx q27; have q60 := zhx q60; have q61 := zhx q61; have q79 := zhx q79; omega))))).trans (zu_ne (k' := 2) (b' := 0) (i' := 0) (j' := 210 + 20 * (Y 2 0 0 102)) hYm89 (fun q => absurd q.2.2.2 (by first | (have q10 := zhx q10; have q79 := zhx q79; omega) | (have q1 := zhx q1; have q2 := zhx q2; have q4 := zhx q4; have q5 := zhx q5; have q10 := zhx q10; have q11 := zhx q11; have q27 := zhx q27; have q60 := zhx q60; have q61 := zhx q61; have q79 := zhx q79; omega))))).trans ((hNp_75 (210 + 20 * (Y 2 0 0 102)) (by first | (have q10 := zhx q10; have q79 := zhx q79; omega) | (have q1 := zhx q1; have q2 := zhx q2; have q4 := zhx q4; have q5 := zhx q5; have q10 := zhx q10; have q11 := zhx q11; have q27 := zhx q27; have q60 := zhx q60; have q61 := zhx q61; have q79 := zhx q79; omega)) (by first | (have q10 := zhx q10; have q79 := zhx q79; omega) | (have q1 := zhx q1; have q2 := zhx q2; have q4 := zhx q4; have q5 := zhx q5; have q10 := zhx q10; have q11 := zhx q11; have q27 := zhx q27; have q60 := zhx q60; have q61 := zhx q61; have q79 := zhx q79; omega))))))
                  have hR167 : zRx [] 0 Zc156 Ym157 := zRx_d hR159 (ac_44_10 (a := 210 + 20 * (Y 2 0 0 102)) (by first | (have q10 := zhx q10; have q80 := zhx q80; omega) | (have q1 := zhx q1; have q2 := zhx q2; have q4 := zhx q4; have q5 := zhx q5; have q10 := zhx q10; have q11 := zhx q11; have q27 := zhx q27; have q60 := zhx q60; have q61 := zhx q61; have q80 := zhx q80; omega)) (by first | (have q10 := zhx q10; have q80 := zhx q80; omega) | (have q1 := zhx q1; have q2 := zhx q2; have q4 := zhx q4; have q5 := zhx q5; have q10 := zhx q10; have q11 := zhx q11; have q27 := zhx q27; have q60 := zhx q60; have q61 := zhx q61; have q80 := zhx q80; omega)) (by first | (have q10 := zhx q10; have q80 := zhx q80; omega) | (have q1 := zhx q1; have q2 := zhx q2; have q4 := zhx q4; have q5 := zhx q5; have q10 := zhx q10; have q11 := zhx q11; have q27 := zhx q27; have q60 := zhx q60; have q61 := zhx q61; have q80 := zhx q80; omega))) (by first | rfl | (have q10 := zhx q10; have q80 := zhx q80; have q164 := zhx q164; have q165 := zhx q165; have q166 := zhx q166; omega) | (simp only [zhx q10, zhx q80, zhx q164, zhx q165, zhx q166] <;> omega) | (have q1 := zhx q1; have q2 := zhx q2; have q4 := zhx q4; have q5 := zhx q5; have q10 := zhx q10; have q11 := zhx q11; have q27 := zhx q27; have q60 := zhx q60; have q61 := zhx q61; have q80 := zhx q80; have q164 := zhx q164; have q165 := zhx q165; have q166 := zhx q166; omega))
                  have th9 := (((((((((((((zu_ne (k' := 1) (b' := 0) (i' := 0) (j' := 2) hYm157 (fun q => absurd q.1 (by decide))).trans (zu_ne (k' := 1) (b' := 0) (i' := 0) (j' := 2) hYm149 (fun q => absurd q.1 (by decide)))).trans (zu_ne (k' := 1) (b' := 0) (i' := 0) (j' := 2) hYm143 (fun q => absurd q.1 (by decide)))).trans (zu_ne (k' := 1) (b' := 0) (i' := 0) (j' := 2) hYm134 (fun q => absurd q.1 (by decide)))).trans (zu_ne (k' := 1) (b' := 0) (i' := 0) (j' := 2) hYm128 (fun q => absurd q.1 (by decide)))).trans (zu_ne (k' := 1) (b' := 0) (i' := 0) (j' := 2) hYm122 (fun q => absurd q.1 (by decide)))).trans (zu_ne (k' := 1) (b' := 0) (i' := 0) (j' := 2) hYm116 (fun q => absurd q.1 (by decide)))).trans (zu_ne (k' := 1) (b' := 0) (i' := 0) (j' := 2) hYm110 (fun q => absurd q.1 (by decide)))).trans (zu_ne (k' := 1) (b' := 0) (i' := 0) (j' := 2) hYm104 (fun q => absurd q.1 (by decide)))).trans (zu_ne (k' := 1) (b' := 0) (i' := 0) (j' := 2) hYm95 (fun q => absurd q.1 (by decide)))).trans (zu_ne (k' := 1) (b' := 0) (i' := 0) (j' := 2) hYm89 (fun q => absurd q.1 (by decide)))).trans (zTh_dm hd hYm72 (by decide))).trans (zu_at hYm67))
                  have q168 := zhd ((((yFa_dm hd hYm72 (102) rfl).trans (zu_ne (k' := 2) (b' := 0) (i' := 0) (j' := 102) hYm67 (fun q => absurd q.1 (by decide)))).trans (zhx q58)))
                  have q169 := zhd ((zu_at hYm157))
                  obtain rfl : C = _ := hC
                  obtain rfl : M = _ := hM
                  exact ⟨zRx_1 hR167, hV158, ⟨Zc71, Ym72, .inr ⟨2, a1, a2, a3, a4, a5, 0, 3, Ym67, hZc71, yFr_w hG70 (by decide), hYm72, (by unfold zcode; omega)⟩, zFc_w hF160 (by decide), yFr_w hG161 (by decide)⟩, zThr_a th9 (by first | rfl | (have q1 := zhx q1; have q2 := zhx q2; have q4 := zhx q4; have q5 := zhx q5; have q10 := zhx q10; have q11 := zhx q11; have q27 := zhx q27; have q60 := zhx q60; have q61 := zhx q61; have q79 := zhx q79; have q154 := zhx q154; omega) | (simp only [zhx q1, zhx q2, zhx q4, zhx q5, zhx q10, zhx q11, zhx q27, zhx q60, zhx q61, zhx q79, zhx q154] <;> omega) | (have q1 := zhx q1; have q2 := zhx q2; have q4 := zhx q4; have q5 := zhx q5; have q10 := zhx q10; have q11 := zhx q11; have q27 := zhx q27; have q60 := zhx q60; have q61 := zhx q61; have q79 := zhx q79; have q154 := zhx q154; refine w3z ?_ ?_ ?_ <;> omega) | (have q1 := zhx q1; have q2 := zhx q2; have q4 := zhx q4; have q5 := zhx q5; have q10 := zhx q10; have q11 := zhx q11; have q27 := zhx q27; have q60 := zhx q60; have q61 := zhx q61; have q79 := zhx q79; have q154 := zhx q154; refine w3y ?_ ?_ ?_ <;> omega) | (have q1 := zhx q1; have q2 := zhx q2; have q4 := zhx q4; have q5 := zhx q5; have q10 := zhx q10; have q11 := zhx q11; have q27 := zhx q27; have q60 := zhx q60; have q61 := zhx q61; have q79 := zhx q79; have q154 := zhx q154; refine z2o ?_ ?_ ?_ <;> omega)), (zNp_put (Y := Ym72) (M := Ym157) (c := (Y 2 0 0 102)) hNp_75 (by first | (have q10 := zhx q10; have q79 := zhx q79; have q168 := zhx q168; omega) | (have q1 := zhx q1; have q2 := zhx q2; have q4 := zhx q4; have q5 := zhx q5; have q10 := zhx q10; have q11 := zhx q11; have q27 := zhx q27; have q60 := zhx q60; have q61 := zhx q61; have q79 := zhx q79; have q168 := zhx q168; omega)) (fun a g1 g2 => (((((((((((zu_ne (k' := 2) (b' := 0) (i' := 0) (j' := a) hYm157 (fun x => absurd x.2.2.2 (by first | (have q10 := zhx q10; omega) | (have q1 := zhx q1; have q2 := zhx q2; have q4 := zhx q4; have q5 := zhx q5; have q10 := zhx q10; have q11 := zhx q11; have q27 := zhx q27; have q60 := zhx q60; have q61 := zhx q61; omega)))).trans (zu_ne (k' := 2) (b' := 0) (i' := 0) (j' := a) hYm149 (fun x => absurd x.2.2.2 (by first | (have q10 := zhx q10; have q79 := zhx q79; have q168 := zhx q168; omega) | (have q1 := zhx q1; have q2 := zhx q2; have q4 := zhx q4; have q5 := zhx q5; have q10 := zhx q10; have q11 := zhx q11; have q27 := zhx q27; have q60 := zhx q60; have q61 := zhx q61; have q79 := zhx q79; have q168 := zhx q168; omega))))).trans (zu_ne (k' := 2) (b' := 0) (i' := 0) (j' := a) hYm143 (fun x => absurd x.2.2.2 (by first | (have q10 := zhx q10; have q79 := zhx q79; have q168 := zhx q168; omega) | (have q1 := zhx q1; have q2 := zhx q2; have q4 := zhx q4; have q5 := zhx q5; have q10 := zhx q10; have q11 := zhx q11; have q27 := zhx q27; have q60 := zhx q60; have q61 := zhx q61; have q79 := zhx q79; have q168 := zhx q168; omega))))).trans (zu_ne (k' := 2) (b' := 0) (i' := 0) (j' := a) hYm134 (fun x => absurd x.2.2.2 (by first | (have q10 := zhx q10; have q79 := zhx q79; have q168 := zhx q168; omega) | (have q1 := zhx q1; have q2 := zhx q2; have q4 := zhx q4; have q5 := zhx q5; have q10 := zhx q10; have q11 := zhx q11; have q27 := zhx q27; have q60 := zhx q60; have q61 := zhx q61; have q79 := zhx q79; have q168 := zhx q168; omega))))).trans (zu_ne (k' := 2) (b' := 0) (i' := 0) (j' := a) hYm128 (fun x => absurd x.2.2.2 (by first | (have q10 := zhx q10; have q79 := zhx q79; have q168 := zhx q168; omega) | (have q1 := zhx q1; have q2 := zhx q2; have q4 := zhx q4; have q5 := zhx q5; have q10 := zhx q10; have q11 := zhx q11; have q27 := zhx q27; have q60 := zhx q60; have q61 := zhx q61; have q79 := zhx q79; have q168 := zhx q168; omega))))).trans (zu_ne (k' := 2) (b' := 0) (i' := 0) (j' := a) hYm122 (fun x => absurd x.2.2.2 (by first | (have q10 := zhx q10; have q79 := zhx q79; have q168 := zhx q168; omega) | (have q1 := zhx q1; have q2 := zhx q2; have q4 := zhx q4; have q5 := zhx q5; have q10 := zhx q10; have q11 := zhx q11; have q27 := zhx q27; have q60 := zhx q60; have q61 := zhx q61; have q79 := zhx q79; have q168 := zhx q168; omega))))).trans (zu_ne (k' := 2) (b' := 0) (i' := 0) (j' := a) hYm116 (fun x => absurd x.2.2.2 (by first | (have q10 := zhx q10; have q79 := zhx q79; have q168 := zhx q168; omega) | (have q1 := zhx q1; have q2 := zhx q2; have q4 := zhx q4; have q5 := zhx q5; have q10 := zhx q10; have q11 := zhx q11; have q27 := zhx q27; have q60 := zhx q60; have q61 := zhx q61; have q79 := zhx q79; have q168 := zhx q168; omega))))).trans (zu_ne (k' := 2) (b' := 0) (i' := 0) (j' := a) hYm110 (fun x => absurd x.2.2.2 (by first | (have q10 := zhx q10; have q79 := zhx q79; have q168 := zhx q168; omega) | (have q1 := zhx q1; have q2 := zhx q2; have q4 := zhx q4; have q5 := zhx q5; have q10 := zhx q10; have q11 := zhx q11; have q27 := zhx q27; have q60 := zhx q60; have q61 := zhx q61; have q79 := zhx q79; have q168 := zhx q168; omega))))).trans (zu_ne (k' := 2) (b' := 0) (i' := 0) (j' := a) hYm104 (fun x => absurd x.2.2.2 (by first | (have q10 := zhx q10; have q79 := zhx q79; have q168 := zhx q168; omega) | (have q1 := zhx q1; have q2 := zhx q2; have q4 := zhx q4; have q5 := zhx q5; have q10 := zhx q10; have q11 := zhx q11; have q27 := zhx q27; have q60 := zhx q60; have q61 := zhx q61; have q79 := zhx q79; have q168 := zhx q168; omega))))).trans (zu_ne (k' := 2) (b' := 0) (i' := 0) (j' := a) hYm95 (fun x => absurd x.2.2.2 (by first | (have q10 := zhx q10; have q79 := zhx q79; have q168 := zhx q168; omega) | (have q1 := zhx q1; have q2 := zhx q2; have q4 := zhx q4; have q5 := zhx q5; have q10 := zhx q10; have q11 := zhx q11; have q27 := zhx q27; have q60 := zhx q60; have q61 := zhx q61; have q79 := zhx q79; have q168 := zhx q168; omega))))).trans (zu_ne (k' := 2) (b' := 0) (i' := 0) (j' := a) hYm89 (fun x => absurd x.2.2.2 (by first | (have q10 := zhx q10; have q79 := zhx q79; have q168 := zhx q168; omega) | (have q1 := zhx q1; have q2 := zhx q2; have q4 := zhx q4; have q5 := zhx q5; have q10 := zhx q10; have q11 := zhx q11; have q27 := zhx q27; have q60 := zhx q60; have q61 := zhx q61; have q79 := zhx q79; have q168 := zhx q168; omega)))))) (by first | (have q10 := zhx q10; have q79 := zhx q79; have q155 := zhx q155; have q168 := zhx q168; have q169 := zhx q169; omega) | (have q1 := zhx q1; have q2 := zhx q2; have q4 := zhx q4; have q5 := zhx q5; have q10 := zhx q10; have q11 := zhx q11; have q27 := zhx q27; have q60 := zhx q60; have q61 := zhx q61; have q79 := zhx q79; have q155 := zhx q155; have q168 := zhx q168; have q169 := zhx q169; omega)))⟩
          · replace hM := zE_n hM (by first | (have q1 := zhx q1; have q2 := zhx q2; have q4 := zhx q4; have q5 := zhx q5; omega) | (simp only [zhx q1, zhx q2, zhx q4, zhx q5] at h3 h6 h7 h8 h9 ⊢ <;> omega))
            replace hM := zE_n hM (by first | (have q1 := zhx q1; have q2 := zhx q2; have q4 := zhx q4; have q5 := zhx q5; omega) | (simp only [zhx q1, zhx q2, zhx q4, zhx q5] at h3 h6 h7 h8 h9 ⊢ <;> omega))
            replace hM := zE_n hM (by first | (have q1 := zhx q1; have q2 := zhx q2; have q4 := zhx q4; have q5 := zhx q5; omega) | (simp only [zhx q1, zhx q2, zhx q4, zhx q5] at h3 h6 h7 h8 h9 ⊢ <;> omega))
            replace hM := zE_n hM (by first | (have q1 := zhx q1; have q2 := zhx q2; have q4 := zhx q4; have q5 := zhx q5; omega) | (simp only [zhx q1, zhx q2, zhx q4, zhx q5] at h3 h6 h7 h8 h9 ⊢ <;> omega))
            obtain ⟨Ym170, hYm170, hM⟩ := zl_x hM
            have hR171 : zRx [] 0 Z Ym170 := zRx_o hRb hYm170 rfl
            have hV172 : zV Ym170 := zV_o hV hYm170 rfl
            have hG173 := yFr_o hG hYm170 rfl (.inr rfl) rfl
            replace hM := zE_n hM (by first | (have q1 := zhx q1; have q2 := zhx q2; have q4 := zhx q4; have q5 := zhx q5; omega) | (simp only [zhx q1, zhx q2, zhx q4, zhx q5] at h3 h6 h7 h8 h9 ⊢ <;> omega))
            replace hM := zE_n hM (by first | (have q1 := zhx q1; have q2 := zhx q2; have q4 := zhx q4; have q5 := zhx q5; omega) | (simp only [zhx q1, zhx q2, zhx q4, zhx q5] at h3 h6 h7 h8 h9 ⊢ <;> omega))
            replace hM := zE_n hM (by first | (have q1 := zhx q1; have q2 := zhx q2; have q4 := zhx q4; have q5 := zhx q5; omega) | (simp only [zhx q1, zhx q2, zhx q4, zhx q5] at h3 h6 h7 h8 h9 ⊢ <;> omega))
            replace hM := zE_n hM (by first | (have q1 := zhx q1; have q2 := zhx q2; have q4 := zhx q4; have q5 := zhx q5; omega) | (simp only [zhx q1, zhx q2, zhx q4, zhx q5] at h3 h6 h7 h8 h9 ⊢ <;> omega))
            rcases zE_c hM with ⟨h174, hM⟩ | ⟨h174, hM⟩
            · obtain ⟨Ym175, hYm175, hM⟩ := zl_x hM
              have hR176 : zRx [] 0 Z Ym175 := zRx_o hR171 hYm175 rfl
              have hV177 : zV Ym175 := zV_o hV172 hYm175 rfl
              have hG178 := yFr_o hG173 hYm175 rfl (.inr rfl) rfl
              have th9 := (zu_at hYm175)
              obtain rfl : C = _ := hC
              obtain rfl : M = _ := hM
              exact ⟨zRx_1 hR176, hV177, ⟨Z, _, .inl ⟨rfl, yFr_w hG178 (by decide)⟩, zFc_r, yFr_r⟩, zThr_e th9 (by decide), (zNp_f hNp hV hG178.1 ⟨rfl, rfl⟩)⟩
            · rcases zE_c hM with ⟨h179, hM⟩ | ⟨h179, hM⟩
              · obtain ⟨Ym180, hYm180, hM⟩ := zl_x hM
                have hR181 : zRx [] 0 Z Ym180 := zRx_o hR171 hYm180 rfl
                have hV182 : zV Ym180 := zV_o hV172 hYm180 rfl
                have hG183 := yFr_o hG173 hYm180 rfl (.inr rfl) rfl
                have th9 := (zu_at hYm180)
                obtain rfl : C = _ := hC
                obtain rfl : M = _ := hM
                exact ⟨zRx_1 hR181, hV182, ⟨Z, _, .inl ⟨rfl, yFr_w hG183 (by decide)⟩, zFc_r, yFr_r⟩, zThr_e th9 (by decide), (zNp_f hNp hV hG183.1 ⟨rfl, rfl⟩)⟩
              · obtain ⟨Ym184, hYm184, hM⟩ := zl_x hM
                have hR185 : zRx [] 0 Z Ym184 := zRx_o hR171 hYm184 rfl
                have hV186 : zV Ym184 := zV_o hV172 hYm184 rfl
                have hG187 := yFr_o hG173 hYm184 rfl (.inr rfl) rfl
                have q188 := zhd (zVr_11_3 (a := 102) hV (by omega))
                have q189 := zhd (((zu_ne (k' := 2) (b' := 0) (i' := 0) (j' := 102) hYm184 (fun q => absurd q.1 (by decide))).trans (zu_ne (k' := 2) (b' := 0) (i' := 0) (j' := 102) hYm170 (fun q => absurd q.1 (by decide)))))
                rcases zE_c hM with ⟨h190, hM⟩ | ⟨h190, hM⟩
                · obtain ⟨Ym191, hYm191, hM⟩ := zl_x hM
                  have hR192 : zRx [] 0 Z Ym191 := zRx_o hR185 hYm191 rfl
                  have hV193 : zV Ym191 := zV_o hV186 hYm191 rfl
                  have hG194 := yFr_o hG187 hYm191 rfl (.inr rfl) rfl
                  exact False.elim (by have q1 := zhx q1; have q2 := zhx q2; have q4 := zhx q4; have q5 := zhx q5; have q188 := zhx q188; have q189 := zhx q189; first | omega | grind)
                · obtain ⟨v195, hv195, hM⟩ := zl_x hM
                  rcases zE_c hM with ⟨h196, hM⟩ | ⟨h196, hM⟩
                  · obtain ⟨Ym197, hYm197, hM⟩ := zl_x hM
                    have hR198 : zRx [] 0 Z Ym197 := zRx_o hR185 hYm197 rfl
                    have hV199 : zV Ym197 := zV_o hV186 hYm197 rfl
                    have hG200 := yFr_o hG187 hYm197 rfl (.inr rfl) rfl
                    exact False.elim (by have q1 := zhx q1; have q2 := zhx q2; have q4 := zhx q4; have q5 := zhx q5; have q188 := zhx q188; have q189 := zhx q189; first | omega | grind)
                  · obtain ⟨Ym201, hYm201, hM⟩ := zl_x hM
                    have hR202 : zRx [] 0 Z Ym201 := zRx_o hR185 hYm201 rfl
                    have hV203 : zV Ym201 := zV_o hV186 hYm201 rfl
                    have hG204 := yFr_o hG187 hYm201 rfl (.inr rfl) rfl
                    exact False.elim (by have q1 := zhx q1; have q2 := zhx q2; have q4 := zhx q4; have q5 := zhx q5; have q188 := zhx q188; have q189 := zhx q189; first | omega | grind)
        · replace hM := zE_n hM (by first | (have q1 := zhx q1; have q2 := zhx q2; have q4 := zhx q4; have q5 := zhx q5; omega) | (simp only [zhx q1, zhx q2, zhx q4, zhx q5] at h3 h6 h7 h8 ⊢ <;> omega))
          replace hM := zE_n hM (by first | (have q1 := zhx q1; have q2 := zhx q2; have q4 := zhx q4; have q5 := zhx q5; omega) | (simp only [zhx q1, zhx q2, zhx q4, zhx q5] at h3 h6 h7 h8 ⊢ <;> omega))
          replace hM := zE_n hM (by first | (have q1 := zhx q1; have q2 := zhx q2; have q4 := zhx q4; have q5 := zhx q5; omega) | (simp only [zhx q1, zhx q2, zhx q4, zhx q5] at h3 h6 h7 h8 ⊢ <;> omega))
          replace hM := zE_n hM (by first | (have q1 := zhx q1; have q2 := zhx q2; have q4 := zhx q4; have q5 := zhx q5; omega) | (simp only [zhx q1, zhx q2, zhx q4, zhx q5] at h3 h6 h7 h8 ⊢ <;> omega))
          obtain ⟨Ym205, hYm205, hM⟩ := zl_x hM
          have hR206 : zRx [] 0 Z Ym205 := zRx_o hRb hYm205 rfl
          have hV207 : zV Ym205 := zV_o hV hYm205 rfl
          have hG208 := yFr_o hG hYm205 rfl (.inr rfl) rfl
          replace hM := zE_n hM (by first | (have q1 := zhx q1; have q2 := zhx q2; have q4 := zhx q4; have q5 := zhx q5; omega) | (simp only [zhx q1, zhx q2, zhx q4, zhx q5] at h3 h6 h7 h8 ⊢ <;> omega))
          replace hM := zE_n hM (by first | (have q1 := zhx q1; have q2 := zhx q2; have q4 := zhx q4; have q5 := zhx q5; omega) | (simp only [zhx q1, zhx q2, zhx q4, zhx q5] at h3 h6 h7 h8 ⊢ <;> omega))
          rcases zE_c hM with ⟨h209, hM⟩ | ⟨h209, hM⟩
          · obtain ⟨Ym210, hYm210, hM⟩ := zl_x hM
            have hR211 : zRx [] 0 Z Ym210 := zRx_o hR206 hYm210 rfl
            have hV212 : zV Ym210 := zV_o hV207 hYm210 rfl
            have hG213 := yFr_o hG208 hYm210 rfl (.inr rfl) rfl
            have th9 := (zu_at hYm210)
            obtain rfl : C = _ := hC
            obtain rfl : M = _ := hM
            exact ⟨zRx_1 hR211, hV212, ⟨Z, _, .inl ⟨rfl, yFr_w hG213 (by decide)⟩, zFc_r, yFr_r⟩, zThr_e th9 (by decide), (zNp_f hNp hV hG213.1 ⟨rfl, rfl⟩)⟩
          · rcases zE_c hM with ⟨h214, hM⟩ | ⟨h214, hM⟩
            · obtain ⟨Ym215, hYm215, hM⟩ := zl_x hM
              have hR216 : zRx [] 0 Z Ym215 := zRx_o hR206 hYm215 rfl
              have hV217 : zV Ym215 := zV_o hV207 hYm215 rfl
              have hG218 := yFr_o hG208 hYm215 rfl (.inr rfl) rfl
              have th9 := (zu_at hYm215)
              obtain rfl : C = _ := hC
              obtain rfl : M = _ := hM
              exact ⟨zRx_1 hR216, hV217, ⟨Z, _, .inl ⟨rfl, yFr_w hG218 (by decide)⟩, zFc_r, yFr_r⟩, zThr_e th9 (by decide), (zNp_f hNp hV hG218.1 ⟨rfl, rfl⟩)⟩
            · rcases zE_c hM with ⟨h219, hM⟩ | ⟨h219, hM⟩
              · obtain ⟨Ym220, hYm220, hM⟩ := zl_x hM
                have hR221 : zRx [] 0 Z Ym220 := zRx_o hR206 hYm220 rfl
                have hV222 : zV Ym220 := zV_o hV207 hYm220 rfl
                have hG223 := yFr_o hG208 hYm220 rfl (.inr rfl) rfl
                have th9 := (zu_at hYm220)
                obtain rfl : C = _ := hC
                obtain rfl : M = _ := hM
                exact ⟨zRx_1 hR221, hV222, ⟨Z, _, .inl ⟨rfl, yFr_w hG223 (by decide)⟩, zFc_r, yFr_r⟩, zThr_e th9 (by decide), (zNp_f hNp hV hG223.1 ⟨rfl, rfl⟩)⟩
              · rcases zE_c hM with ⟨h224, hM⟩ | ⟨h224, hM⟩
                · obtain ⟨Ym225, hYm225, hM⟩ := zl_x hM
                  have hR226 : zRx [] 0 Z Ym225 := zRx_o hR206 hYm225 rfl
                  have hV227 : zV Ym225 := zV_o hV207 hYm225 rfl
                  have hG228 := yFr_o hG208 hYm225 rfl (.inr rfl) rfl
                  have th9 := (zu_at hYm225)
                  obtain rfl : C = _ := hC
                  obtain rfl : M = _ := hM
                  exact ⟨zRx_1 hR226, hV227, ⟨Z, _, .inl ⟨rfl, yFr_w hG228 (by decide)⟩, zFc_r, yFr_r⟩, zThr_e th9 (by decide), (zNp_f hNp hV hG228.1 ⟨rfl, rfl⟩)⟩
                · obtain ⟨Ym229, hYm229, hM⟩ := zl_x hM
                  have hR230 : zRx [] 0 Z Ym229 := zRx_o hR206 hYm229 rfl
                  have hV231 : zV Ym229 := zV_o hV207 hYm229 rfl
                  have hG232 := yFr_o hG208 hYm229 rfl (.inr rfl) rfl
                  have q233 := zhd (zVr_11_3 (a := 102) hV (by omega))
                  have q234 := zhd (((zu_ne (k' := 2) (b' := 0) (i' := 0) (j' := 102) hYm229 (fun q => absurd q.1 (by decide))).trans (zu_ne (k' := 2) (b' := 0) (i' := 0) (j' := 102) hYm205 (fun q => absurd q.1 (by decide)))))
                  rcases zE_c hM with ⟨h235, hM⟩ | ⟨h235, hM⟩
                  · obtain ⟨Ym236, hYm236, hM⟩ := zl_x hM
                    have hR237 : zRx [] 0 Z Ym236 := zRx_o hR230 hYm236 rfl
                    have hV238 : zV Ym236 := zV_o hV231 hYm236 rfl
                    have hG239 := yFr_o hG232 hYm236 rfl (.inr rfl) rfl
                    exact False.elim (by have q1 := zhx q1; have q2 := zhx q2; have q4 := zhx q4; have q5 := zhx q5; have q233 := zhx q233; have q234 := zhx q234; first | omega | grind)
                  · obtain ⟨v240, hv240, hM⟩ := zl_x hM
                    rcases zE_c hM with ⟨h241, hM⟩ | ⟨h241, hM⟩
                    · obtain ⟨Ym242, hYm242, hM⟩ := zl_x hM
                      have hR243 : zRx [] 0 Z Ym242 := zRx_o hR230 hYm242 rfl
                      have hV244 : zV Ym242 := zV_o hV231 hYm242 rfl
                      have hG245 := yFr_o hG232 hYm242 rfl (.inr rfl) rfl
                      exact False.elim (by have q1 := zhx q1; have q2 := zhx q2; have q4 := zhx q4; have q5 := zhx q5; have q233 := zhx q233; have q234 := zhx q234; first | omega | grind)
                    · obtain ⟨Ym246, hYm246, hM⟩ := zl_x hM
                      have hR247 : zRx [] 0 Z Ym246 := zRx_o hR230 hYm246 rfl
                      have hV248 : zV Ym246 := zV_o hV231 hYm246 rfl
                      have hG249 := yFr_o hG232 hYm246 rfl (.inr rfl) rfl
                      exact False.elim (by have q1 := zhx q1; have q2 := zhx q2; have q4 := zhx q4; have q5 := zhx q5; have q233 := zhx q233; have q234 := zhx q234; first | omega | grind)
      · replace hM := zE_n hM (by first | (have q1 := zhx q1; have q2 := zhx q2; have q4 := zhx q4; have q5 := zhx q5; omega) | (simp only [zhx q1, zhx q2, zhx q4, zhx q5] at h3 h6 h7 ⊢ <;> omega))
        replace hM := zE_n hM (by first | (have q1 := zhx q1; have q2 := zhx q2; have q4 := zhx q4; have q5 := zhx q5; omega) | (simp only [zhx q1, zhx q2, zhx q4, zhx q5] at h3 h6 h7 ⊢ <;> omega))
        replace hM := zE_n hM (by first | (have q1 := zhx q1; have q2 := zhx q2; have q4 := zhx q4; have q5 := zhx q5; omega) | (simp only [zhx q1, zhx q2, zhx q4, zhx q5] at h3 h6 h7 ⊢ <;> omega))
        replace hM := zE_n hM (by first | (have q1 := zhx q1; have q2 := zhx q2; have q4 := zhx q4; have q5 := zhx q5; omega) | (simp only [zhx q1, zhx q2, zhx q4, zhx q5] at h3 h6 h7 ⊢ <;> omega))
        obtain ⟨Ym250, hYm250, hM⟩ := zl_x hM
        have hR251 : zRx [] 0 Z Ym250 := zRx_o hRb hYm250 rfl
        have hV252 : zV Ym250 := zV_o hV hYm250 rfl
        have hG253 := yFr_o hG hYm250 rfl (.inr rfl) rfl
        rcases zE_c hM with ⟨h254, hM⟩ | ⟨h254, hM⟩
        · obtain ⟨Ym255, hYm255, hM⟩ := zl_x hM
          have hR256 : zRx [] 0 Z Ym255 := zRx_o hR251 hYm255 rfl
          have hV257 : zV Ym255 := zV_o hV252 hYm255 rfl
          have hG258 := yFr_o hG253 hYm255 rfl (.inr rfl) rfl
          have th9 := (zu_at hYm255)
          obtain rfl : C = _ := hC
          obtain rfl : M = _ := hM
          exact ⟨zRx_1 hR256, hV257, ⟨Z, _, .inl ⟨rfl, yFr_w hG258 (by decide)⟩, zFc_r, yFr_r⟩, zThr_e th9 (by decide), (zNp_f hNp hV hG258.1 ⟨rfl, rfl⟩)⟩
        · rcases zE_c hM with ⟨h259, hM⟩ | ⟨h259, hM⟩
          · obtain ⟨Ym260, hYm260, hM⟩ := zl_x hM
            have hR261 : zRx [] 0 Z Ym260 := zRx_o hR251 hYm260 rfl
            have hV262 : zV Ym260 := zV_o hV252 hYm260 rfl
            have hG263 := yFr_o hG253 hYm260 rfl (.inr rfl) rfl
            have th9 := (zu_at hYm260)
            obtain rfl : C = _ := hC
            obtain rfl : M = _ := hM
            exact ⟨zRx_1 hR261, hV262, ⟨Z, _, .inl ⟨rfl, yFr_w hG263 (by decide)⟩, zFc_r, yFr_r⟩, zThr_e th9 (by decide), (zNp_f hNp hV hG263.1 ⟨rfl, rfl⟩)⟩
          · rcases zE_c hM with ⟨h264, hM⟩ | ⟨h264, hM⟩
            · obtain ⟨Ym265, hYm265, hM⟩ := zl_x hM
              have hR266 : zRx [] 0 Z Ym265 := zRx_o hR251 hYm265 rfl
              have hV267 : zV Ym265 := zV_o hV252 hYm265 rfl
              have hG268 := yFr_o hG253 hYm265 rfl (.inr rfl) rfl
              have th9 := (zu_at hYm265)
              obtain rfl : C = _ := hC
              obtain rfl : M = _ := hM
              exact ⟨zRx_1 hR266, hV267, ⟨Z, _, .inl ⟨rfl, yFr_w hG268 (by decide)⟩, zFc_r, yFr_r⟩, zThr_e th9 (by decide), (zNp_f hNp hV hG268.1 ⟨rfl, rfl⟩)⟩
            · rcases zE_c hM with ⟨h269, hM⟩ | ⟨h269, hM⟩
              · obtain ⟨Ym270, hYm270, hM⟩ := zl_x hM
                have hR271 : zRx [] 0 Z Ym270 := zRx_o hR251 hYm270 rfl
                have hV272 : zV Ym270 := zV_o hV252 hYm270 rfl
                have hG273 := yFr_o hG253 hYm270 rfl (.inr rfl) rfl
                have th9 := (zu_at hYm270)
                obtain rfl : C = _ := hC
                obtain rfl : M = _ := hM
                exact ⟨zRx_1 hR271, hV272, ⟨Z, _, .inl ⟨rfl, yFr_w hG273 (by decide)⟩, zFc_r, yFr_r⟩, zThr_e th9 (by decide), (zNp_f hNp hV hG273.1 ⟨rfl, rfl⟩)⟩
              · rcases zE_c hM with ⟨h274, hM⟩ | ⟨h274, hM⟩
                · obtain ⟨Ym275, hYm275, hM⟩ := zl_x hM
                  have hR276 : zRx [] 0 Z Ym275 := zRx_o hR251 hYm275 rfl
                  have hV277 : zV Ym275 := zV_o hV252 hYm275 rfl
                  have hG278 := yFr_o hG253 hYm275 rfl (.inr rfl) rfl
                  have th9 := (zu_at hYm275)
                  obtain rfl : C = _ := hC
                  obtain rfl : M = _ := hM
                  exact ⟨zRx_1 hR276, hV277, ⟨Z, _, .inl ⟨rfl, yFr_w hG278 (by decide)⟩, zFc_r, yFr_r⟩, zThr_e th9 (by decide), (zNp_f hNp hV hG278.1 ⟨rfl, rfl⟩)⟩
                · rcases zE_c hM with ⟨h279, hM⟩ | ⟨h279, hM⟩
                  · obtain ⟨Ym280, hYm280, hM⟩ := zl_x hM
                    have hR281 : zRx [] 0 Z Ym280 := zRx_o hR251 hYm280 rfl
                    have hV282 : zV Ym280 := zV_o hV252 hYm280 rfl
                    have hG283 := yFr_o hG253 hYm280 rfl (.inr rfl) rfl
                    have th9 := (zu_at hYm280)
                    obtain rfl : C = _ := hC
                    obtain rfl : M = _ := hM
                    exact ⟨zRx_1 hR281, hV282, ⟨Z, _, .inl ⟨rfl, yFr_w hG283 (by decide)⟩, zFc_r, yFr_r⟩, zThr_e th9 (by decide), (zNp_f hNp hV hG283.1 ⟨rfl, rfl⟩)⟩
                  · obtain ⟨Ym284, hYm284, hM⟩ := zl_x hM
                    have hR285 : zRx [] 0 Z Ym284 := zRx_o hR251 hYm284 rfl
                    have hV286 : zV Ym284 := zV_o hV252 hYm284 rfl
                    have hG287 := yFr_o hG253 hYm284 rfl (.inr rfl) rfl
                    have q288 := zhd (zVr_11_3 (a := 102) hV (by omega))
                    have q289 := zhd (((zu_ne (k' := 2) (b' := 0) (i' := 0) (j' := 102) hYm284 (fun q => absurd q.1 (by decide))).trans (zu_ne (k' := 2) (b' := 0) (i' := 0) (j' := 102) hYm250 (fun q => absurd q.1 (by decide)))))
                    rcases zE_c hM with ⟨h290, hM⟩ | ⟨h290, hM⟩
                    · obtain ⟨Ym291, hYm291, hM⟩ := zl_x hM
                      have hR292 : zRx [] 0 Z Ym291 := zRx_o hR285 hYm291 rfl
                      have hV293 : zV Ym291 := zV_o hV286 hYm291 rfl
                      have hG294 := yFr_o hG287 hYm291 rfl (.inr rfl) rfl
                      exact False.elim (by have q1 := zhx q1; have q2 := zhx q2; have q4 := zhx q4; have q5 := zhx q5; have q288 := zhx q288; have q289 := zhx q289; first | omega | grind)
                    · obtain ⟨v295, hv295, hM⟩ := zl_x hM
                      rcases zE_c hM with ⟨h296, hM⟩ | ⟨h296, hM⟩
                      · obtain ⟨Ym297, hYm297, hM⟩ := zl_x hM
                        have hR298 : zRx [] 0 Z Ym297 := zRx_o hR285 hYm297 rfl
                        have hV299 : zV Ym297 := zV_o hV286 hYm297 rfl
                        have hG300 := yFr_o hG287 hYm297 rfl (.inr rfl) rfl
                        exact False.elim (by have q1 := zhx q1; have q2 := zhx q2; have q4 := zhx q4; have q5 := zhx q5; have q288 := zhx q288; have q289 := zhx q289; first | omega | grind)
                      · obtain ⟨Ym301, hYm301, hM⟩ := zl_x hM
                        have hR302 : zRx [] 0 Z Ym301 := zRx_o hR285 hYm301 rfl
                        have hV303 : zV Ym301 := zV_o hV286 hYm301 rfl
                        have hG304 := yFr_o hG287 hYm301 rfl (.inr rfl) rfl
                        exact False.elim (by have q1 := zhx q1; have q2 := zhx q2; have q4 := zhx q4; have q5 := zhx q5; have q288 := zhx q288; have q289 := zhx q289; first | omega | grind)
    · replace hM := zE_n hM (by first | (have q1 := zhx q1; have q2 := zhx q2; have q4 := zhx q4; have q5 := zhx q5; omega) | (simp only [zhx q1, zhx q2, zhx q4, zhx q5] at h3 h6 ⊢ <;> omega))
      replace hM := zE_n hM (by first | (have q1 := zhx q1; have q2 := zhx q2; have q4 := zhx q4; have q5 := zhx q5; omega) | (simp only [zhx q1, zhx q2, zhx q4, zhx q5] at h3 h6 ⊢ <;> omega))
      rcases zE_c hM with ⟨h305, hM⟩ | ⟨h305, hM⟩
      · obtain ⟨Ym306, hYm306, hM⟩ := zl_x hM
        have hR307 : zRx [] 0 Z Ym306 := zRx_o hRb hYm306 rfl
        have hV308 : zV Ym306 := zV_o hV hYm306 rfl
        have hG309 := yFr_o hG hYm306 rfl (.inr rfl) rfl
        have th9 := (zu_at hYm306)
        obtain rfl : C = _ := hC
        obtain rfl : M = _ := hM
        exact ⟨zRx_1 hR307, hV308, ⟨Z, _, .inl ⟨rfl, yFr_w hG309 (by decide)⟩, zFc_r, yFr_r⟩, zThr_e th9 (by decide), (zNp_f hNp hV hG309.1 ⟨rfl, rfl⟩)⟩
      · rcases zE_c hM with ⟨h310, hM⟩ | ⟨h310, hM⟩
        · obtain ⟨Ym311, hYm311, hM⟩ := zl_x hM
          have hR312 : zRx [] 0 Z Ym311 := zRx_o hRb hYm311 rfl
          have hV313 : zV Ym311 := zV_o hV hYm311 rfl
          have hG314 := yFr_o hG hYm311 rfl (.inr rfl) rfl
          have th9 := (zu_at hYm311)
          obtain rfl : C = _ := hC
          obtain rfl : M = _ := hM
          exact ⟨zRx_1 hR312, hV313, ⟨Z, _, .inl ⟨rfl, yFr_w hG314 (by decide)⟩, zFc_r, yFr_r⟩, zThr_e th9 (by decide), (zNp_f hNp hV hG314.1 ⟨rfl, rfl⟩)⟩
        · obtain ⟨Ym315, hYm315, hM⟩ := zl_x hM
          have hR316 : zRx [] 0 Z Ym315 := zRx_o hRb hYm315 rfl
          have hV317 : zV Ym315 := zV_o hV hYm315 rfl
          have hG318 := yFr_o hG hYm315 rfl (.inr rfl) rfl
          rcases zE_c hM with ⟨h319, hM⟩ | ⟨h319, hM⟩
          · obtain ⟨Ym320, hYm320, hM⟩ := zl_x hM
            have hR321 : zRx [] 0 Z Ym320 := zRx_o hR316 hYm320 rfl
            have hV322 : zV Ym320 := zV_o hV317 hYm320 rfl
            have hG323 := yFr_o hG318 hYm320 rfl (.inr rfl) rfl
            exact False.elim (by have q1 := zhx q1; have q2 := zhx q2; have q4 := zhx q4; have q5 := zhx q5; first | omega | grind)
          · rcases zE_c hM with ⟨h324, hM⟩ | ⟨h324, hM⟩
            · obtain ⟨Ym325, hYm325, hM⟩ := zl_x hM
              have hR326 : zRx [] 0 Z Ym325 := zRx_o hR316 hYm325 rfl
              have hV327 : zV Ym325 := zV_o hV317 hYm325 rfl
              have hG328 := yFr_o hG318 hYm325 rfl (.inr rfl) rfl
              exact False.elim (by have q1 := zhx q1; have q2 := zhx q2; have q4 := zhx q4; have q5 := zhx q5; first | omega | grind)
            · rcases zE_c hM with ⟨h329, hM⟩ | ⟨h329, hM⟩
              · obtain ⟨Ym330, hYm330, hM⟩ := zl_x hM
                have hR331 : zRx [] 0 Z Ym330 := zRx_o hR316 hYm330 rfl
                have hV332 : zV Ym330 := zV_o hV317 hYm330 rfl
                have hG333 := yFr_o hG318 hYm330 rfl (.inr rfl) rfl
                exact False.elim (by have q1 := zhx q1; have q2 := zhx q2; have q4 := zhx q4; have q5 := zhx q5; first | omega | grind)
              · rcases zE_c hM with ⟨h334, hM⟩ | ⟨h334, hM⟩
                · obtain ⟨Ym335, hYm335, hM⟩ := zl_x hM
                  have hR336 : zRx [] 0 Z Ym335 := zRx_o hR316 hYm335 rfl
                  have hV337 : zV Ym335 := zV_o hV317 hYm335 rfl
                  have hG338 := yFr_o hG318 hYm335 rfl (.inr rfl) rfl
                  exact False.elim (by have q1 := zhx q1; have q2 := zhx q2; have q4 := zhx q4; have q5 := zhx q5; first | omega | grind)
                · rcases zE_c hM with ⟨h339, hM⟩ | ⟨h339, hM⟩
                  · obtain ⟨Ym340, hYm340, hM⟩ := zl_x hM
                    have hR341 : zRx [] 0 Z Ym340 := zRx_o hR316 hYm340 rfl
                    have hV342 : zV Ym340 := zV_o hV317 hYm340 rfl
                    have hG343 := yFr_o hG318 hYm340 rfl (.inr rfl) rfl
                    exact False.elim (by have q1 := zhx q1; have q2 := zhx q2; have q4 := zhx q4; have q5 := zhx q5; first | omega | grind)
                  · rcases zE_c hM with ⟨h344, hM⟩ | ⟨h344, hM⟩
                    · obtain ⟨Ym345, hYm345, hM⟩ := zl_x hM
                      have hR346 : zRx [] 0 Z Ym345 := zRx_o hR316 hYm345 rfl
                      have hV347 : zV Ym345 := zV_o hV317 hYm345 rfl
                      have hG348 := yFr_o hG318 hYm345 rfl (.inr rfl) rfl
                      exact False.elim (by have q1 := zhx q1; have q2 := zhx q2; have q4 := zhx q4; have q5 := zhx q5; first | omega | grind)
                    · obtain ⟨Ym349, hYm349, hM⟩ := zl_x hM
                      have hR350 : zRx [] 0 Z Ym349 := zRx_o hR316 hYm349 rfl
                      have hV351 : zV Ym349 := zV_o hV317 hYm349 rfl
                      have hG352 := yFr_o hG318 hYm349 rfl (.inr rfl) rfl
                      have q353 := zhd (zVr_11_3 (a := 102) hV (by omega))
                      have q354 := zhd (((zu_ne (k' := 2) (b' := 0) (i' := 0) (j' := 102) hYm349 (fun q => absurd q.1 (by decide))).trans (zu_ne (k' := 2) (b' := 0) (i' := 0) (j' := 102) hYm315 (fun q => absurd q.1 (by decide)))))
                      rcases zE_c hM with ⟨h355, hM⟩ | ⟨h355, hM⟩
                      · obtain ⟨Ym356, hYm356, hM⟩ := zl_x hM
                        have hR357 : zRx [] 0 Z Ym356 := zRx_o hR350 hYm356 rfl
                        have hV358 : zV Ym356 := zV_o hV351 hYm356 rfl
                        have hG359 := yFr_o hG352 hYm356 rfl (.inr rfl) rfl
                        exact False.elim (by have q1 := zhx q1; have q2 := zhx q2; have q4 := zhx q4; have q5 := zhx q5; have q353 := zhx q353; have q354 := zhx q354; first | omega | grind)
                      · obtain ⟨v360, hv360, hM⟩ := zl_x hM
                        rcases zE_c hM with ⟨h361, hM⟩ | ⟨h361, hM⟩
                        · obtain ⟨Ym362, hYm362, hM⟩ := zl_x hM
                          have hR363 : zRx [] 0 Z Ym362 := zRx_o hR350 hYm362 rfl
                          have hV364 : zV Ym362 := zV_o hV351 hYm362 rfl
                          have hG365 := yFr_o hG352 hYm362 rfl (.inr rfl) rfl
                          exact False.elim (by have q1 := zhx q1; have q2 := zhx q2; have q4 := zhx q4; have q5 := zhx q5; have q353 := zhx q353; have q354 := zhx q354; first | omega | grind)
                        · obtain ⟨Ym366, hYm366, hM⟩ := zl_x hM
                          have hR367 : zRx [] 0 Z Ym366 := zRx_o hR350 hYm366 rfl
                          have hV368 : zV Ym366 := zV_o hV351 hYm366 rfl
                          have hG369 := yFr_o hG352 hYm366 rfl (.inr rfl) rfl
                          exact False.elim (by have q1 := zhx q1; have q2 := zhx q2; have q4 := zhx q4; have q5 := zhx q5; have q353 := zhx q353; have q354 := zhx q354; first | omega | grind)
  · rcases zE_c hM with ⟨h370, hM⟩ | ⟨h370, hM⟩
    · obtain ⟨Ym371, hYm371, hM⟩ := zl_x hM
      have hR372 : zRx [] 0 Z Ym371 := zRx_o hRb hYm371 rfl
      have hV373 : zV Ym371 := zV_o hV hYm371 rfl
      have hG374 := yFr_o hG hYm371 rfl (.inr rfl) rfl
      have th9 := (zu_at hYm371)
      obtain rfl : C = _ := hC
      obtain rfl : M = _ := hM
      exact ⟨zRx_1 hR372, hV373, ⟨Z, _, .inl ⟨rfl, yFr_w hG374 (by decide)⟩, zFc_r, yFr_r⟩, zThr_e th9 (by decide), (zNp_f hNp hV hG374.1 ⟨rfl, rfl⟩)⟩
    · rcases zE_c hM with ⟨h375, hM⟩ | ⟨h375, hM⟩
      · obtain ⟨Ym376, hYm376, hM⟩ := zl_x hM
        have hR377 : zRx [] 0 Z Ym376 := zRx_o hRb hYm376 rfl
        have hV378 : zV Ym376 := zV_o hV hYm376 rfl
        have hG379 := yFr_o hG hYm376 rfl (.inr rfl) rfl
        have th9 := (zu_at hYm376)
        obtain rfl : C = _ := hC
        obtain rfl : M = _ := hM
        exact ⟨zRx_1 hR377, hV378, ⟨Z, _, .inl ⟨rfl, yFr_w hG379 (by decide)⟩, zFc_r, yFr_r⟩, zThr_e th9 (by decide), (zNp_f hNp hV hG379.1 ⟨rfl, rfl⟩)⟩
      · rcases zE_c hM with ⟨h380, hM⟩ | ⟨h380, hM⟩
        · obtain ⟨Ym381, hYm381, hM⟩ := zl_x hM
          have hR382 : zRx [] 0 Z Ym381 := zRx_o hRb hYm381 rfl
          have hV383 : zV Ym381 := zV_o hV hYm381 rfl
          have hG384 := yFr_o hG hYm381 rfl (.inr rfl) rfl
          have th9 := (zu_at hYm381)
          obtain rfl : C = _ := hC
          obtain rfl : M = _ := hM
          exact ⟨zRx_1 hR382, hV383, ⟨Z, _, .inl ⟨rfl, yFr_w hG384 (by decide)⟩, zFc_r, yFr_r⟩, zThr_e th9 (by decide), (zNp_f hNp hV hG384.1 ⟨rfl, rfl⟩)⟩
        · have q385 := zhd (zVr_11_0 (a := 100) hV (by omega))
          rcases zE_c hM with ⟨h386, hM⟩ | ⟨h386, hM⟩
          · obtain ⟨Ym387, hYm387, hM⟩ := zl_x hM
            have hR388 : zRx [] 0 Z Ym387 := zRx_o hRb hYm387 rfl
            have hV389 : zV Ym387 := zV_o hV hYm387 rfl
            have hG390 := yFr_o hG hYm387 rfl (.inr rfl) rfl
            have th9 := (zu_at hYm387)
            obtain rfl : C = _ := hC
            obtain rfl : M = _ := hM
            exact ⟨zRx_1 hR388, hV389, ⟨Z, _, .inl ⟨rfl, yFr_w hG390 (by decide)⟩, zFc_r, yFr_r⟩, zThr_e th9 (by decide), (zNp_f hNp hV hG390.1 ⟨rfl, rfl⟩)⟩
          · obtain ⟨Ym391, hYm391, hM⟩ := zl_x hM
            have hR392 : zRx [] 0 Z Ym391 := zRx_o hRb hYm391 rfl
            have hV393 : zV Ym391 := zV_o hV hYm391 rfl
            have hG394 := yFr_o hG hYm391 rfl (.inr rfl) rfl
            rcases zE_c hM with ⟨h395, hM⟩ | ⟨h395, hM⟩
            · obtain ⟨Ym396, hYm396, hM⟩ := zl_x hM
              have hR397 : zRx [] 0 Z Ym396 := zRx_o hR392 hYm396 rfl
              have hV398 : zV Ym396 := zV_o hV393 hYm396 rfl
              have hG399 := yFr_o hG394 hYm396 rfl (.inr rfl) rfl
              exact False.elim (by have q1 := zhx q1; have q2 := zhx q2; have q385 := zhx q385; first | omega | grind)
            · rcases zE_c hM with ⟨h400, hM⟩ | ⟨h400, hM⟩
              · obtain ⟨Ym401, hYm401, hM⟩ := zl_x hM
                have hR402 : zRx [] 0 Z Ym401 := zRx_o hR392 hYm401 rfl
                have hV403 : zV Ym401 := zV_o hV393 hYm401 rfl
                have hG404 := yFr_o hG394 hYm401 rfl (.inr rfl) rfl
                exact False.elim (by have q1 := zhx q1; have q2 := zhx q2; have q385 := zhx q385; first | omega | grind)
              · rcases zE_c hM with ⟨h405, hM⟩ | ⟨h405, hM⟩
                · obtain ⟨Ym406, hYm406, hM⟩ := zl_x hM
                  have hR407 : zRx [] 0 Z Ym406 := zRx_o hR392 hYm406 rfl
                  have hV408 : zV Ym406 := zV_o hV393 hYm406 rfl
                  have hG409 := yFr_o hG394 hYm406 rfl (.inr rfl) rfl
                  exact False.elim (by have q1 := zhx q1; have q2 := zhx q2; have q385 := zhx q385; first | omega | grind)
                · rcases zE_c hM with ⟨h410, hM⟩ | ⟨h410, hM⟩
                  · obtain ⟨Ym411, hYm411, hM⟩ := zl_x hM
                    have hR412 : zRx [] 0 Z Ym411 := zRx_o hR392 hYm411 rfl
                    have hV413 : zV Ym411 := zV_o hV393 hYm411 rfl
                    have hG414 := yFr_o hG394 hYm411 rfl (.inr rfl) rfl
                    exact False.elim (by have q1 := zhx q1; have q2 := zhx q2; have q385 := zhx q385; first | omega | grind)
                  · rcases zE_c hM with ⟨h415, hM⟩ | ⟨h415, hM⟩
                    · obtain ⟨Ym416, hYm416, hM⟩ := zl_x hM
                      have hR417 : zRx [] 0 Z Ym416 := zRx_o hR392 hYm416 rfl
                      have hV418 : zV Ym416 := zV_o hV393 hYm416 rfl
                      have hG419 := yFr_o hG394 hYm416 rfl (.inr rfl) rfl
                      exact False.elim (by have q1 := zhx q1; have q2 := zhx q2; have q385 := zhx q385; first | omega | grind)
                    · rcases zE_c hM with ⟨h420, hM⟩ | ⟨h420, hM⟩
                      · obtain ⟨Ym421, hYm421, hM⟩ := zl_x hM
                        have hR422 : zRx [] 0 Z Ym421 := zRx_o hR392 hYm421 rfl
                        have hV423 : zV Ym421 := zV_o hV393 hYm421 rfl
                        have hG424 := yFr_o hG394 hYm421 rfl (.inr rfl) rfl
                        exact False.elim (by have q1 := zhx q1; have q2 := zhx q2; have q385 := zhx q385; first | omega | grind)
                      · obtain ⟨Ym425, hYm425, hM⟩ := zl_x hM
                        have hR426 : zRx [] 0 Z Ym425 := zRx_o hR392 hYm425 rfl
                        have hV427 : zV Ym425 := zV_o hV393 hYm425 rfl
                        have hG428 := yFr_o hG394 hYm425 rfl (.inr rfl) rfl
                        have q429 := zhd (zVr_11_3 (a := 102) hV (by omega))
                        have q430 := zhd (((zu_ne (k' := 2) (b' := 0) (i' := 0) (j' := 102) hYm425 (fun q => absurd q.1 (by decide))).trans (zu_ne (k' := 2) (b' := 0) (i' := 0) (j' := 102) hYm391 (fun q => absurd q.1 (by decide)))))
                        rcases zE_c hM with ⟨h431, hM⟩ | ⟨h431, hM⟩
                        · obtain ⟨Ym432, hYm432, hM⟩ := zl_x hM
                          have hR433 : zRx [] 0 Z Ym432 := zRx_o hR426 hYm432 rfl
                          have hV434 : zV Ym432 := zV_o hV427 hYm432 rfl
                          have hG435 := yFr_o hG428 hYm432 rfl (.inr rfl) rfl
                          exact False.elim (by have q1 := zhx q1; have q2 := zhx q2; have q385 := zhx q385; have q429 := zhx q429; have q430 := zhx q430; first | omega | grind)
                        · obtain ⟨v436, hv436, hM⟩ := zl_x hM
                          rcases zE_c hM with ⟨h437, hM⟩ | ⟨h437, hM⟩
                          · obtain ⟨Ym438, hYm438, hM⟩ := zl_x hM
                            have hR439 : zRx [] 0 Z Ym438 := zRx_o hR426 hYm438 rfl
                            have hV440 : zV Ym438 := zV_o hV427 hYm438 rfl
                            have hG441 := yFr_o hG428 hYm438 rfl (.inr rfl) rfl
                            exact False.elim (by have q1 := zhx q1; have q2 := zhx q2; have q385 := zhx q385; have q429 := zhx q429; have q430 := zhx q430; first | omega | grind)
                          · obtain ⟨Ym442, hYm442, hM⟩ := zl_x hM
                            have hR443 : zRx [] 0 Z Ym442 := zRx_o hR426 hYm442 rfl
                            have hV444 : zV Ym442 := zV_o hV427 hYm442 rfl
                            have hG445 := yFr_o hG428 hYm442 rfl (.inr rfl) rfl
                            exact False.elim (by have q1 := zhx q1; have q2 := zhx q2; have q385 := zhx q385; have q429 := zhx q429; have q430 := zhx q430; first | omega | grind)
