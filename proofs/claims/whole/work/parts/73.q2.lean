/- face grown -/
theorem rf_grown {Z Y : qz_Z} {dm : qz_Z → Int → Int → Int → Int → Int → Int → Int → qz_Z} {a1 a2 : Int} (hRa : zR 0 Z Y) (hV : zV Y) (hI : zI none Z) (hd : zDf dm)   {C : qz_Z × Int × Int} {M : qz_Z × Int} (hC : zE C (zx_205 Z a1 a2)) (hM : zE M (zy_348 Y a1 a2)) : zR 0 C.1 M.1 ∧ zV M.1 ∧ zDd [] [99999] Z Y dm C.1 M.1 ∧ zThr [(24, 1), (13, 2)] C.2 (M.1 1 0 0 2) M.2 := by
  have hRb := zRx_0 hRa
  have hF : zFc [] 0 Z Z := zFc_r
  have hG : yFr [99999] Y Y := yFr_r
  unfold zx_205 at hC
  unfold zy_348 at hM
  have q1 := zhd (zVr_11_1 (a := 101) hV (by omega))
  have q2 := zhd ((zRl_11_1 (a := 101) hRa (by omega)))
  rcases zE_c hC with ⟨h3, hC⟩ | ⟨h3, hC⟩
  · rcases zE_c hC with ⟨h4, hC⟩ | ⟨h4, hC⟩
    · obtain ⟨v5, hv5, hC⟩ := zl_x hC
      have q6 := zhd (show v5 = (zf_324 Y a1 a2) from hv5.trans (rr_107 hRa hV  (by have q1 := zhx q1; have q2 := zhx q2; omega) (by have q1 := zhx q1; have q2 := zhx q2; omega) (by have q1 := zhx q1; have q2 := zhx q2; omega) (by have q1 := zhx q1; have q2 := zhx q2; omega) rfl rfl))
      replace hM := zE_n hM (by first | (have q1 := zhx q1; have q2 := zhx q2; omega) | (simp only [zhx q1, zhx q2] at h3 h4 ⊢ <;> omega))
      replace hM := zE_n hM (by first | (have q1 := zhx q1; have q2 := zhx q2; omega) | (simp only [zhx q1, zhx q2] at h3 h4 ⊢ <;> omega))
      obtain ⟨Ym7, hYm7, hM⟩ := zl_x hM
      have hR8 : zRx [] 0 Z Ym7 := zRx_o hRb hYm7 rfl
      have hV9 : zV Ym7 := zV_o hV hYm7 rfl
      have hG10 := yFr_o hG hYm7 rfl (.inr rfl) rfl
      replace hM := zE_n hM (by first | (have q1 := zhx q1; have q2 := zhx q2; omega) | (simp only [zhx q1, zhx q2] at h3 h4 ⊢ <;> omega))
      replace hM := zE_n hM (by first | (have q1 := zhx q1; have q2 := zhx q2; omega) | (simp only [zhx q1, zhx q2] at h3 h4 ⊢ <;> omega))
      obtain ⟨Ym11, hYm11, hM⟩ := zl_x hM
      have hR12 : zRx [] 0 Z Ym11 := zRx_o hR8 hYm11 rfl
      have hV13 : zV Ym11 := zV_o hV9 hYm11 rfl
      have hG14 := yFr_o hG10 hYm11 rfl (.inr rfl) rfl
      obtain ⟨v15, hv15, hM⟩ := zl_x hM
      have q16 := zhd (show v5 = (zf_324 Ym11 a1 a2) from hv5.trans (rr_107 (zRx_1 hR12) hV13  (by have q1 := zhx q1; have q2 := zhx q2; omega) (by have q1 := zhx q1; have q2 := zhx q2; omega) (by have q1 := zhx q1; have q2 := zhx q2; omega) (by have q1 := zhx q1; have q2 := zhx q2; omega) rfl rfl))
      have q17 := zhd (hv15)
      have th9 := (zu_at hYm11)
      obtain rfl : C = _ := hC
      obtain rfl : M = _ := hM
      exact ⟨zRx_1 hR12, hV13, ⟨Z, _, .inl ⟨rfl, yFr_w hG14 (by decide)⟩, zFc_r, yFr_r⟩, zThr_a th9 (by first | rfl | (have q1 := zhx q1; have q2 := zhx q2; have q6 := zhx q6; have q16 := zhx q16; have q17 := zhx q17; omega) | (simp only [zhx q1, zhx q2, zhx q6, zhx q16, zhx q17] <;> omega) | (have q1 := zhx q1; have q2 := zhx q2; have q6 := zhx q6; have q16 := zhx q16; have q17 := zhx q17; refine w3z ?_ ?_ ?_ <;> omega) | (have q1 := zhx q1; have q2 := zhx q2; have q6 := zhx q6; have q16 := zhx q16; have q17 := zhx q17; refine w3y ?_ ?_ ?_ <;> omega) | (have q1 := zhx q1; have q2 := zhx q2; have q6 := zhx q6; have q16 := zhx q16; have q17 := zhx q17; refine z2o ?_ ?_ ?_ <;> omega))⟩
    · replace hM := zE_n hM (by first | (have q1 := zhx q1; have q2 := zhx q2; omega) | (simp only [zhx q1, zhx q2] at h3 h4 ⊢ <;> omega))
      replace hM := zE_n hM (by first | (have q1 := zhx q1; have q2 := zhx q2; omega) | (simp only [zhx q1, zhx q2] at h3 h4 ⊢ <;> omega))
      obtain ⟨Ym18, hYm18, hM⟩ := zl_x hM
      have hR19 : zRx [] 0 Z Ym18 := zRx_o hRb hYm18 rfl
      have hV20 : zV Ym18 := zV_o hV hYm18 rfl
      have hG21 := yFr_o hG hYm18 rfl (.inr rfl) rfl
      rcases zE_c hM with ⟨h22, hM⟩ | ⟨h22, hM⟩
      · obtain ⟨Ym23, hYm23, hM⟩ := zl_x hM
        have hR24 : zRx [] 0 Z Ym23 := zRx_o hR19 hYm23 rfl
        have hV25 : zV Ym23 := zV_o hV20 hYm23 rfl
        have hG26 := yFr_o hG21 hYm23 rfl (.inr rfl) rfl
        have th9 := (zu_at hYm23)
        obtain rfl : C = _ := hC
        obtain rfl : M = _ := hM
        exact ⟨zRx_1 hR24, hV25, ⟨Z, _, .inl ⟨rfl, yFr_w hG26 (by decide)⟩, zFc_r, yFr_r⟩, zThr_e th9 (by decide)⟩
      · rcases zE_c hM with ⟨h27, hM⟩ | ⟨h27, hM⟩
        · obtain ⟨Ym28, hYm28, hM⟩ := zl_x hM
          have hR29 : zRx [] 0 Z Ym28 := zRx_o hR19 hYm28 rfl
          have hV30 : zV Ym28 := zV_o hV20 hYm28 rfl
          have hG31 := yFr_o hG21 hYm28 rfl (.inr rfl) rfl
          have th9 := (zu_at hYm28)
          obtain rfl : C = _ := hC
          obtain rfl : M = _ := hM
          exact ⟨zRx_1 hR29, hV30, ⟨Z, _, .inl ⟨rfl, yFr_w hG31 (by decide)⟩, zFc_r, yFr_r⟩, zThr_e th9 (by decide)⟩
        · obtain ⟨Ym32, hYm32, hM⟩ := zl_x hM
          have hR33 : zRx [] 0 Z Ym32 := zRx_o hR19 hYm32 rfl
          have hV34 : zV Ym32 := zV_o hV20 hYm32 rfl
          have hG35 := yFr_o hG21 hYm32 rfl (.inr rfl) rfl
          obtain ⟨v36, hv36, hM⟩ := zl_x hM
          exact False.elim (by have q1 := zhx q1; have q2 := zhx q2; first | omega | grind)
  · rcases zE_c hM with ⟨h37, hM⟩ | ⟨h37, hM⟩
    · obtain ⟨Ym38, hYm38, hM⟩ := zl_x hM
      have hR39 : zRx [] 0 Z Ym38 := zRx_o hRb hYm38 rfl
      have hV40 : zV Ym38 := zV_o hV hYm38 rfl
      have hG41 := yFr_o hG hYm38 rfl (.inr rfl) rfl
      have th9 := (zu_at hYm38)
      obtain rfl : C = _ := hC
      obtain rfl : M = _ := hM
      exact ⟨zRx_1 hR39, hV40, ⟨Z, _, .inl ⟨rfl, yFr_w hG41 (by decide)⟩, zFc_r, yFr_r⟩, zThr_e th9 (by decide)⟩
    · rcases zE_c hM with ⟨h42, hM⟩ | ⟨h42, hM⟩
      · obtain ⟨Ym43, hYm43, hM⟩ := zl_x hM
        have hR44 : zRx [] 0 Z Ym43 := zRx_o hRb hYm43 rfl
        have hV45 : zV Ym43 := zV_o hV hYm43 rfl
        have hG46 := yFr_o hG hYm43 rfl (.inr rfl) rfl
        have th9 := (zu_at hYm43)
        obtain rfl : C = _ := hC
        obtain rfl : M = _ := hM
        exact ⟨zRx_1 hR44, hV45, ⟨Z, _, .inl ⟨rfl, yFr_w hG46 (by decide)⟩, zFc_r, yFr_r⟩, zThr_e th9 (by decide)⟩
      · obtain ⟨Ym47, hYm47, hM⟩ := zl_x hM
        have hR48 : zRx [] 0 Z Ym47 := zRx_o hRb hYm47 rfl
        have hV49 : zV Ym47 := zV_o hV hYm47 rfl
        have hG50 := yFr_o hG hYm47 rfl (.inr rfl) rfl
        rcases zE_c hM with ⟨h51, hM⟩ | ⟨h51, hM⟩
        · obtain ⟨Ym52, hYm52, hM⟩ := zl_x hM
          have hR53 : zRx [] 0 Z Ym52 := zRx_o hR48 hYm52 rfl
          have hV54 : zV Ym52 := zV_o hV49 hYm52 rfl
          have hG55 := yFr_o hG50 hYm52 rfl (.inr rfl) rfl
          exact False.elim (by have q1 := zhx q1; have q2 := zhx q2; first | omega | grind)
        · rcases zE_c hM with ⟨h56, hM⟩ | ⟨h56, hM⟩
          · obtain ⟨Ym57, hYm57, hM⟩ := zl_x hM
            have hR58 : zRx [] 0 Z Ym57 := zRx_o hR48 hYm57 rfl
            have hV59 : zV Ym57 := zV_o hV49 hYm57 rfl
            have hG60 := yFr_o hG50 hYm57 rfl (.inr rfl) rfl
            exact False.elim (by have q1 := zhx q1; have q2 := zhx q2; first | omega | grind)
          · obtain ⟨Ym61, hYm61, hM⟩ := zl_x hM
            have hR62 : zRx [] 0 Z Ym61 := zRx_o hR48 hYm61 rfl
            have hV63 : zV Ym61 := zV_o hV49 hYm61 rfl
            have hG64 := yFr_o hG50 hYm61 rfl (.inr rfl) rfl
            obtain ⟨v65, hv65, hM⟩ := zl_x hM
            exact False.elim (by have q1 := zhx q1; have q2 := zhx q2; first | omega | grind)
