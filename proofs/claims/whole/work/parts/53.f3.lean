/- face kept_0 -/
theorem rf_kept_0 {Z Y : qz_Z} {dm : qz_Z → Int → Int → Int → Int → Int → Int → Int → qz_Z} {a1 : Int} (hRa : zR 0 Z Y) (hV : zV Y) (hI : zI none Z) (hd : zDf dm) (hD1 : zD1 0 Z Y) (hD4 : zD4 0 Z Y) (hN1 : zN1 Y) (hN4 : zN4 Y) (hDs : zDs 0 Z Y) (hDw : zDw 0 Z Y) (hDl : zDl 0 Z Y)  {C : qz_Z × Int × Int} {M : qz_Z × Int} (hC : zE C (zx_214 Z a1 0)) (hM : zE M (zy_425 Y a1 0)) : zR 0 C.1 M.1 ∧ zV M.1 ∧ zDd [] [99999] Z Y dm C.1 M.1 ∧ zThr [(24, 1), (13, 2)] C.2 (M.1 1 0 0 2) M.2 := by
  have hRb := zRx_0 hRa
  have hF : zFc [] 0 Z Z := zFc_r
  have hG : yFr [99999] Y Y := yFr_r
  unfold zx_214 at hC
  unfold zy_425 at hM
  have q1 := zhd ((fun a b => hDs a1 a b : 0 ≤ a1 → a1 < 6 → _))
  have q2 := zhd (zVr_11_13 (a := 0) hV rfl)
  have q3 := zhd (zVr_11_2 (a := 1200) hV (by omega))
  have q4 := zhd ((zRl_11_2 (a := 1200) hRa (by omega)))
  rcases zE_c hC with ⟨h5, hC⟩ | ⟨h5, hC⟩
  · replace hC := zE_p hC (by first | (have q1 := zhx q1; have q2 := zhx q2; have q3 := zhx q3; have q4 := zhx q4; omega) | (simp only [zhx q1, zhx q2, zhx q3, zhx q4] at h5 ⊢ <;> omega))
    obtain ⟨v7, g6, hC⟩ := zl_x hC
    replace g6 : zE _ _ := g6
    unfold zf_183 at g6
    replace g6 := zE_p g6 (by first | (have q1 := zhx q1; have q2 := zhx q2; have q3 := zhx q3; have q4 := zhx q4; omega) | (simp only [zhx q1, zhx q2, zhx q3, zhx q4] at h5 ⊢ <;> omega))
    replace g6 := zE_p g6 (by first | (have q1 := zhx q1; have q2 := zhx q2; have q3 := zhx q3; have q4 := zhx q4; omega) | (simp only [zhx q1, zhx q2, zhx q3, zhx q4] at h5 ⊢ <;> omega))
    have q8 := zhd ((zRl_43_0 (x := a1) (a := 1210 + 12 * a1) hRa (by first | (have q1 := zhx q1; have q2 := zhx q2; omega) | (have q1 := zhx q1; have q2 := zhx q2; have q3 := zhx q3; have q4 := zhx q4; omega)) (by first | (have q1 := zhx q1; have q2 := zhx q2; omega) | (have q1 := zhx q1; have q2 := zhx q2; have q3 := zhx q3; have q4 := zhx q4; omega)) (by first | (have q1 := zhx q1; have q2 := zhx q2; omega) | (have q1 := zhx q1; have q2 := zhx q2; have q3 := zhx q3; have q4 := zhx q4; omega))))
    have e9 : (Z 43 0 a1 0) = v7 := Eq.symm g6
    subst e9
    replace hM := zE_n hM (by first | (have q1 := zhx q1; have q2 := zhx q2; have q3 := zhx q3; have q4 := zhx q4; omega) | (simp only [zhx q1, zhx q2, zhx q3, zhx q4] at h5 ⊢ <;> omega))
    replace hM := zE_n hM (by first | (have q1 := zhx q1; have q2 := zhx q2; have q3 := zhx q3; have q4 := zhx q4; omega) | (simp only [zhx q1, zhx q2, zhx q3, zhx q4] at h5 ⊢ <;> omega))
    obtain ⟨Ym9, hYm9, hM⟩ := zl_x hM
    have hR10 : zRx [] 0 Z Ym9 := zRx_o hRb hYm9 rfl
    have hV11 : zV Ym9 := zV_o hV hYm9 rfl
    have hG12 := yFr_o hG hYm9 rfl (.inr rfl) rfl
    replace hM := zE_n hM (by first | (have q1 := zhx q1; have q2 := zhx q2; have q3 := zhx q3; have q4 := zhx q4; omega) | (simp only [zhx q1, zhx q2, zhx q3, zhx q4] at h5 ⊢ <;> omega))
    replace hM := zE_n hM (by first | (have q1 := zhx q1; have q2 := zhx q2; have q3 := zhx q3; have q4 := zhx q4; omega) | (simp only [zhx q1, zhx q2, zhx q3, zhx q4] at h5 ⊢ <;> omega))
    obtain ⟨Ym13, hYm13, hM⟩ := zl_x hM
    have hR14 : zRx [] 0 Z Ym13 := zRx_o hR10 hYm13 rfl
    have hV15 : zV Ym13 := zV_o hV11 hYm13 rfl
    have hG16 := yFr_o hG12 hYm13 rfl (.inr rfl) rfl
    obtain ⟨v18, g17, hM⟩ := zl_x hM
    replace g17 : zE _ _ := g17
    unfold zf_475 at g17
    replace g17 := zE_p g17 (by first | (have q1 := zhx q1; have q2 := zhx q2; have q3 := zhx q3; have q4 := zhx q4; omega) | (simp only [zhx q1, zhx q2, zhx q3, zhx q4] at h5 ⊢ <;> omega))
    have q19 := zhd (congrArg (Ym13 2 0 0) (show (1210 + 12 * a1 + 0) = 1210 + 12 * a1 from (by first | (have q1 := zhx q1; have q2 := zhx q2; omega) | (have q1 := zhx q1; have q2 := zhx q2; have q3 := zhx q3; have q4 := zhx q4; omega))))
    have q20 := zhd (((zu_ne (k' := 2) (b' := 0) (i' := 0) (j' := 1210 + 12 * a1) hYm13 (fun q => absurd q.1 (by decide))).trans (zu_ne (k' := 2) (b' := 0) (i' := 0) (j' := 1210 + 12 * a1) hYm9 (fun q => absurd q.1 (by decide)))))
    have e9 : (Ym13 2 0 0 (1210 + 12 * a1 + 0)) = v18 := Eq.symm g17
    subst e9
    have th9 := (zu_at hYm13)
    obtain rfl : C = _ := hC
    obtain rfl : M = _ := hM
    exact ⟨zRx_1 hR14, hV15, ⟨Z, _, .inl ⟨rfl, yFr_w hG16 (by decide)⟩, zFc_r, yFr_r⟩, zThr_a th9 (by first | rfl | (have q1 := zhx q1; have q2 := zhx q2; have q3 := zhx q3; have q4 := zhx q4; have q8 := zhx q8; have q19 := zhx q19; have q20 := zhx q20; omega) | (simp only [zhx q1, zhx q2, zhx q3, zhx q4, zhx q8, zhx q19, zhx q20] <;> omega) | (have q1 := zhx q1; have q2 := zhx q2; have q3 := zhx q3; have q4 := zhx q4; have q8 := zhx q8; have q19 := zhx q19; have q20 := zhx q20; refine w3z ?_ ?_ ?_ <;> omega) | (have q1 := zhx q1; have q2 := zhx q2; have q3 := zhx q3; have q4 := zhx q4; have q8 := zhx q8; have q19 := zhx q19; have q20 := zhx q20; refine w3y ?_ ?_ ?_ <;> omega) | (have q1 := zhx q1; have q2 := zhx q2; have q3 := zhx q3; have q4 := zhx q4; have q8 := zhx q8; have q19 := zhx q19; have q20 := zhx q20; refine z2o ?_ ?_ ?_ <;> omega))⟩
  · rcases zE_c hM with ⟨h21, hM⟩ | ⟨h21, hM⟩
    · obtain ⟨Ym22, hYm22, hM⟩ := zl_x hM
      have hR23 : zRx [] 0 Z Ym22 := zRx_o hRb hYm22 rfl
      have hV24 : zV Ym22 := zV_o hV hYm22 rfl
      have hG25 := yFr_o hG hYm22 rfl (.inr rfl) rfl
      have th9 := (zu_at hYm22)
      obtain rfl : C = _ := hC
      obtain rfl : M = _ := hM
      exact ⟨zRx_1 hR23, hV24, ⟨Z, _, .inl ⟨rfl, yFr_w hG25 (by decide)⟩, zFc_r, yFr_r⟩, zThr_e th9 (by decide)⟩
    · rcases zE_c hM with ⟨h26, hM⟩ | ⟨h26, hM⟩
      · obtain ⟨Ym27, hYm27, hM⟩ := zl_x hM
        have hR28 : zRx [] 0 Z Ym27 := zRx_o hRb hYm27 rfl
        have hV29 : zV Ym27 := zV_o hV hYm27 rfl
        have hG30 := yFr_o hG hYm27 rfl (.inr rfl) rfl
        have th9 := (zu_at hYm27)
        obtain rfl : C = _ := hC
        obtain rfl : M = _ := hM
        exact ⟨zRx_1 hR28, hV29, ⟨Z, _, .inl ⟨rfl, yFr_w hG30 (by decide)⟩, zFc_r, yFr_r⟩, zThr_e th9 (by decide)⟩
      · obtain ⟨Ym31, hYm31, hM⟩ := zl_x hM
        have hR32 : zRx [] 0 Z Ym31 := zRx_o hRb hYm31 rfl
        have hV33 : zV Ym31 := zV_o hV hYm31 rfl
        have hG34 := yFr_o hG hYm31 rfl (.inr rfl) rfl
        replace hM := zE_n hM (by first | (have q1 := zhx q1; have q2 := zhx q2; have q3 := zhx q3; have q4 := zhx q4; omega) | (simp only [zhx q1, zhx q2, zhx q3, zhx q4] at h5 h21 h26 ⊢ <;> omega))
        replace hM := zE_n hM (by first | (have q1 := zhx q1; have q2 := zhx q2; have q3 := zhx q3; have q4 := zhx q4; omega) | (simp only [zhx q1, zhx q2, zhx q3, zhx q4] at h5 h21 h26 ⊢ <;> omega))
        obtain ⟨Ym35, hYm35, hM⟩ := zl_x hM
        have hR36 : zRx [] 0 Z Ym35 := zRx_o hR32 hYm35 rfl
        have hV37 : zV Ym35 := zV_o hV33 hYm35 rfl
        have hG38 := yFr_o hG34 hYm35 rfl (.inr rfl) rfl
        obtain ⟨v40, g39, hM⟩ := zl_x hM
        replace g39 : zE _ _ := g39
        unfold zf_475 at g39
        replace g39 := zE_p g39 (by first | (have q1 := zhx q1; have q2 := zhx q2; have q3 := zhx q3; have q4 := zhx q4; omega) | (simp only [zhx q1, zhx q2, zhx q3, zhx q4] at h5 h21 h26 ⊢ <;> omega))
        have q41 := zhd (congrArg (Ym35 2 0 0) (show (1210 + 12 * a1 + 0) = 1210 + 12 * a1 from (by first | (have q1 := zhx q1; have q2 := zhx q2; omega) | (have q1 := zhx q1; have q2 := zhx q2; have q3 := zhx q3; have q4 := zhx q4; omega))))
        have q42 := zhd (((zu_ne (k' := 2) (b' := 0) (i' := 0) (j' := 1210 + 12 * a1) hYm35 (fun q => absurd q.1 (by decide))).trans (zu_ne (k' := 2) (b' := 0) (i' := 0) (j' := 1210 + 12 * a1) hYm31 (fun q => absurd q.1 (by decide)))))
        have e9 : (Ym35 2 0 0 (1210 + 12 * a1 + 0)) = v40 := Eq.symm g39
        subst e9
        exact False.elim (by have q1 := zhx q1; have q2 := zhx q2; have q3 := zhx q3; have q4 := zhx q4; first | omega | grind)

/- face kept_1 -/
theorem rf_kept_1 {Z Y : qz_Z} {dm : qz_Z → Int → Int → Int → Int → Int → Int → Int → qz_Z} {a1 : Int} (hRa : zR 0 Z Y) (hV : zV Y) (hI : zI none Z) (hd : zDf dm) (hD1 : zD1 0 Z Y) (hD4 : zD4 0 Z Y) (hN1 : zN1 Y) (hN4 : zN4 Y) (hDs : zDs 0 Z Y) (hDw : zDw 0 Z Y) (hDl : zDl 0 Z Y)  {C : qz_Z × Int × Int} {M : qz_Z × Int} (hC : zE C (zx_214 Z a1 1)) (hM : zE M (zy_425 Y a1 1)) : zR 0 C.1 M.1 ∧ zV M.1 ∧ zDd [] [99999] Z Y dm C.1 M.1 ∧ zThr [(24, 1), (13, 2)] C.2 (M.1 1 0 0 2) M.2 := by
  have hRb := zRx_0 hRa
  have hF : zFc [] 0 Z Z := zFc_r
  have hG : yFr [99999] Y Y := yFr_r
  unfold zx_214 at hC
  unfold zy_425 at hM
  have q1 := zhd ((fun a b => hDs a1 a b : 0 ≤ a1 → a1 < 6 → _))
  have q2 := zhd (zVr_11_13 (a := 0) hV rfl)
  have q3 := zhd (zVr_11_2 (a := 1200) hV (by omega))
  have q4 := zhd ((zRl_11_2 (a := 1200) hRa (by omega)))
  rcases zE_c hC with ⟨h5, hC⟩ | ⟨h5, hC⟩
  · replace hC := zE_p hC (by first | (have q1 := zhx q1; have q2 := zhx q2; have q3 := zhx q3; have q4 := zhx q4; omega) | (simp only [zhx q1, zhx q2, zhx q3, zhx q4] at h5 ⊢ <;> omega))
    obtain ⟨v7, g6, hC⟩ := zl_x hC
    replace g6 : zE _ _ := g6
    unfold zf_183 at g6
    replace g6 := zE_p g6 (by first | (have q1 := zhx q1; have q2 := zhx q2; have q3 := zhx q3; have q4 := zhx q4; omega) | (simp only [zhx q1, zhx q2, zhx q3, zhx q4] at h5 ⊢ <;> omega))
    replace g6 := zE_p g6 (by first | (have q1 := zhx q1; have q2 := zhx q2; have q3 := zhx q3; have q4 := zhx q4; omega) | (simp only [zhx q1, zhx q2, zhx q3, zhx q4] at h5 ⊢ <;> omega))
    have q8 := zhd ((zRl_43_1 (x := a1) (a := 1211 + 12 * a1) hRa (by first | (have q1 := zhx q1; have q2 := zhx q2; omega) | (have q1 := zhx q1; have q2 := zhx q2; have q3 := zhx q3; have q4 := zhx q4; omega)) (by first | (have q1 := zhx q1; have q2 := zhx q2; omega) | (have q1 := zhx q1; have q2 := zhx q2; have q3 := zhx q3; have q4 := zhx q4; omega)) (by first | (have q1 := zhx q1; have q2 := zhx q2; omega) | (have q1 := zhx q1; have q2 := zhx q2; have q3 := zhx q3; have q4 := zhx q4; omega))))
    have e9 : (Z 43 0 a1 1) = v7 := Eq.symm g6
    subst e9
    replace hM := zE_n hM (by first | (have q1 := zhx q1; have q2 := zhx q2; have q3 := zhx q3; have q4 := zhx q4; omega) | (simp only [zhx q1, zhx q2, zhx q3, zhx q4] at h5 ⊢ <;> omega))
    replace hM := zE_n hM (by first | (have q1 := zhx q1; have q2 := zhx q2; have q3 := zhx q3; have q4 := zhx q4; omega) | (simp only [zhx q1, zhx q2, zhx q3, zhx q4] at h5 ⊢ <;> omega))
    obtain ⟨Ym9, hYm9, hM⟩ := zl_x hM
    have hR10 : zRx [] 0 Z Ym9 := zRx_o hRb hYm9 rfl
    have hV11 : zV Ym9 := zV_o hV hYm9 rfl
    have hG12 := yFr_o hG hYm9 rfl (.inr rfl) rfl
    replace hM := zE_n hM (by first | (have q1 := zhx q1; have q2 := zhx q2; have q3 := zhx q3; have q4 := zhx q4; omega) | (simp only [zhx q1, zhx q2, zhx q3, zhx q4] at h5 ⊢ <;> omega))
    replace hM := zE_n hM (by first | (have q1 := zhx q1; have q2 := zhx q2; have q3 := zhx q3; have q4 := zhx q4; omega) | (simp only [zhx q1, zhx q2, zhx q3, zhx q4] at h5 ⊢ <;> omega))
    obtain ⟨Ym13, hYm13, hM⟩ := zl_x hM
    have hR14 : zRx [] 0 Z Ym13 := zRx_o hR10 hYm13 rfl
    have hV15 : zV Ym13 := zV_o hV11 hYm13 rfl
    have hG16 := yFr_o hG12 hYm13 rfl (.inr rfl) rfl
    obtain ⟨v18, g17, hM⟩ := zl_x hM
    replace g17 : zE _ _ := g17
    unfold zf_475 at g17
    replace g17 := zE_p g17 (by first | (have q1 := zhx q1; have q2 := zhx q2; have q3 := zhx q3; have q4 := zhx q4; omega) | (simp only [zhx q1, zhx q2, zhx q3, zhx q4] at h5 ⊢ <;> omega))
    have q19 := zhd (congrArg (Ym13 2 0 0) (show (1210 + 12 * a1 + 1) = 1211 + 12 * a1 from (by first | (have q1 := zhx q1; have q2 := zhx q2; omega) | (have q1 := zhx q1; have q2 := zhx q2; have q3 := zhx q3; have q4 := zhx q4; omega))))
    have q20 := zhd (((zu_ne (k' := 2) (b' := 0) (i' := 0) (j' := 1211 + 12 * a1) hYm13 (fun q => absurd q.1 (by decide))).trans (zu_ne (k' := 2) (b' := 0) (i' := 0) (j' := 1211 + 12 * a1) hYm9 (fun q => absurd q.1 (by decide)))))
    have e9 : (Ym13 2 0 0 (1210 + 12 * a1 + 1)) = v18 := Eq.symm g17
    subst e9
    have th9 := (zu_at hYm13)
    obtain rfl : C = _ := hC
    obtain rfl : M = _ := hM
    exact ⟨zRx_1 hR14, hV15, ⟨Z, _, .inl ⟨rfl, yFr_w hG16 (by decide)⟩, zFc_r, yFr_r⟩, zThr_a th9 (by first | rfl | (have q1 := zhx q1; have q2 := zhx q2; have q3 := zhx q3; have q4 := zhx q4; have q8 := zhx q8; have q19 := zhx q19; have q20 := zhx q20; omega) | (simp only [zhx q1, zhx q2, zhx q3, zhx q4, zhx q8, zhx q19, zhx q20] <;> omega) | (have q1 := zhx q1; have q2 := zhx q2; have q3 := zhx q3; have q4 := zhx q4; have q8 := zhx q8; have q19 := zhx q19; have q20 := zhx q20; refine w3z ?_ ?_ ?_ <;> omega) | (have q1 := zhx q1; have q2 := zhx q2; have q3 := zhx q3; have q4 := zhx q4; have q8 := zhx q8; have q19 := zhx q19; have q20 := zhx q20; refine w3y ?_ ?_ ?_ <;> omega) | (have q1 := zhx q1; have q2 := zhx q2; have q3 := zhx q3; have q4 := zhx q4; have q8 := zhx q8; have q19 := zhx q19; have q20 := zhx q20; refine z2o ?_ ?_ ?_ <;> omega))⟩
  · rcases zE_c hM with ⟨h21, hM⟩ | ⟨h21, hM⟩
    · obtain ⟨Ym22, hYm22, hM⟩ := zl_x hM
      have hR23 : zRx [] 0 Z Ym22 := zRx_o hRb hYm22 rfl
      have hV24 : zV Ym22 := zV_o hV hYm22 rfl
      have hG25 := yFr_o hG hYm22 rfl (.inr rfl) rfl
      have th9 := (zu_at hYm22)
      obtain rfl : C = _ := hC
      obtain rfl : M = _ := hM
      exact ⟨zRx_1 hR23, hV24, ⟨Z, _, .inl ⟨rfl, yFr_w hG25 (by decide)⟩, zFc_r, yFr_r⟩, zThr_e th9 (by decide)⟩
    · rcases zE_c hM with ⟨h26, hM⟩ | ⟨h26, hM⟩
      · obtain ⟨Ym27, hYm27, hM⟩ := zl_x hM
        have hR28 : zRx [] 0 Z Ym27 := zRx_o hRb hYm27 rfl
        have hV29 : zV Ym27 := zV_o hV hYm27 rfl
        have hG30 := yFr_o hG hYm27 rfl (.inr rfl) rfl
        have th9 := (zu_at hYm27)
        obtain rfl : C = _ := hC
        obtain rfl : M = _ := hM
        exact ⟨zRx_1 hR28, hV29, ⟨Z, _, .inl ⟨rfl, yFr_w hG30 (by decide)⟩, zFc_r, yFr_r⟩, zThr_e th9 (by decide)⟩
      · obtain ⟨Ym31, hYm31, hM⟩ := zl_x hM
        have hR32 : zRx [] 0 Z Ym31 := zRx_o hRb hYm31 rfl
        have hV33 : zV Ym31 := zV_o hV hYm31 rfl
        have hG34 := yFr_o hG hYm31 rfl (.inr rfl) rfl
        replace hM := zE_n hM (by first | (have q1 := zhx q1; have q2 := zhx q2; have q3 := zhx q3; have q4 := zhx q4; omega) | (simp only [zhx q1, zhx q2, zhx q3, zhx q4] at h5 h21 h26 ⊢ <;> omega))
        replace hM := zE_n hM (by first | (have q1 := zhx q1; have q2 := zhx q2; have q3 := zhx q3; have q4 := zhx q4; omega) | (simp only [zhx q1, zhx q2, zhx q3, zhx q4] at h5 h21 h26 ⊢ <;> omega))
        obtain ⟨Ym35, hYm35, hM⟩ := zl_x hM
        have hR36 : zRx [] 0 Z Ym35 := zRx_o hR32 hYm35 rfl
        have hV37 : zV Ym35 := zV_o hV33 hYm35 rfl
        have hG38 := yFr_o hG34 hYm35 rfl (.inr rfl) rfl
        obtain ⟨v40, g39, hM⟩ := zl_x hM
        replace g39 : zE _ _ := g39
        unfold zf_475 at g39
        replace g39 := zE_p g39 (by first | (have q1 := zhx q1; have q2 := zhx q2; have q3 := zhx q3; have q4 := zhx q4; omega) | (simp only [zhx q1, zhx q2, zhx q3, zhx q4] at h5 h21 h26 ⊢ <;> omega))
        have q41 := zhd (congrArg (Ym35 2 0 0) (show (1210 + 12 * a1 + 1) = 1211 + 12 * a1 from (by first | (have q1 := zhx q1; have q2 := zhx q2; omega) | (have q1 := zhx q1; have q2 := zhx q2; have q3 := zhx q3; have q4 := zhx q4; omega))))
        have q42 := zhd (((zu_ne (k' := 2) (b' := 0) (i' := 0) (j' := 1211 + 12 * a1) hYm35 (fun q => absurd q.1 (by decide))).trans (zu_ne (k' := 2) (b' := 0) (i' := 0) (j' := 1211 + 12 * a1) hYm31 (fun q => absurd q.1 (by decide)))))
        have e9 : (Ym35 2 0 0 (1210 + 12 * a1 + 1)) = v40 := Eq.symm g39
        subst e9
        exact False.elim (by have q1 := zhx q1; have q2 := zhx q2; have q3 := zhx q3; have q4 := zhx q4; first | omega | grind)

/- face kept_2 -/
theorem rf_kept_2 {Z Y : qz_Z} {dm : qz_Z → Int → Int → Int → Int → Int → Int → Int → qz_Z} {a1 : Int} (hRa : zR 0 Z Y) (hV : zV Y) (hI : zI none Z) (hd : zDf dm) (hD1 : zD1 0 Z Y) (hD4 : zD4 0 Z Y) (hN1 : zN1 Y) (hN4 : zN4 Y) (hDs : zDs 0 Z Y) (hDw : zDw 0 Z Y) (hDl : zDl 0 Z Y)  {C : qz_Z × Int × Int} {M : qz_Z × Int} (hC : zE C (zx_214 Z a1 2)) (hM : zE M (zy_425 Y a1 2)) : zR 0 C.1 M.1 ∧ zV M.1 ∧ zDd [] [99999] Z Y dm C.1 M.1 ∧ zThr [(24, 1), (13, 2)] C.2 (M.1 1 0 0 2) M.2 := by
  have hRb := zRx_0 hRa
  have hF : zFc [] 0 Z Z := zFc_r
  have hG : yFr [99999] Y Y := yFr_r
  unfold zx_214 at hC
  unfold zy_425 at hM
  have q1 := zhd ((fun a b => hDs a1 a b : 0 ≤ a1 → a1 < 6 → _))
  have q2 := zhd (zVr_11_13 (a := 0) hV rfl)
  have q3 := zhd (zVr_11_2 (a := 1200) hV (by omega))
  have q4 := zhd ((zRl_11_2 (a := 1200) hRa (by omega)))
  rcases zE_c hC with ⟨h5, hC⟩ | ⟨h5, hC⟩
  · replace hC := zE_p hC (by first | (have q1 := zhx q1; have q2 := zhx q2; have q3 := zhx q3; have q4 := zhx q4; omega) | (simp only [zhx q1, zhx q2, zhx q3, zhx q4] at h5 ⊢ <;> omega))
    obtain ⟨v7, g6, hC⟩ := zl_x hC
    replace g6 : zE _ _ := g6
    unfold zf_183 at g6
    replace g6 := zE_p g6 (by first | (have q1 := zhx q1; have q2 := zhx q2; have q3 := zhx q3; have q4 := zhx q4; omega) | (simp only [zhx q1, zhx q2, zhx q3, zhx q4] at h5 ⊢ <;> omega))
    replace g6 := zE_p g6 (by first | (have q1 := zhx q1; have q2 := zhx q2; have q3 := zhx q3; have q4 := zhx q4; omega) | (simp only [zhx q1, zhx q2, zhx q3, zhx q4] at h5 ⊢ <;> omega))
    have q8 := zhd ((zRl_43_2 (x := a1) (a := 1212 + 12 * a1) hRa (by first | (have q1 := zhx q1; have q2 := zhx q2; omega) | (have q1 := zhx q1; have q2 := zhx q2; have q3 := zhx q3; have q4 := zhx q4; omega)) (by first | (have q1 := zhx q1; have q2 := zhx q2; omega) | (have q1 := zhx q1; have q2 := zhx q2; have q3 := zhx q3; have q4 := zhx q4; omega)) (by first | (have q1 := zhx q1; have q2 := zhx q2; omega) | (have q1 := zhx q1; have q2 := zhx q2; have q3 := zhx q3; have q4 := zhx q4; omega))))
    have e9 : (Z 43 0 a1 2) = v7 := Eq.symm g6
    subst e9
    replace hM := zE_n hM (by first | (have q1 := zhx q1; have q2 := zhx q2; have q3 := zhx q3; have q4 := zhx q4; omega) | (simp only [zhx q1, zhx q2, zhx q3, zhx q4] at h5 ⊢ <;> omega))
    replace hM := zE_n hM (by first | (have q1 := zhx q1; have q2 := zhx q2; have q3 := zhx q3; have q4 := zhx q4; omega) | (simp only [zhx q1, zhx q2, zhx q3, zhx q4] at h5 ⊢ <;> omega))
    obtain ⟨Ym9, hYm9, hM⟩ := zl_x hM
    have hR10 : zRx [] 0 Z Ym9 := zRx_o hRb hYm9 rfl
    have hV11 : zV Ym9 := zV_o hV hYm9 rfl
    have hG12 := yFr_o hG hYm9 rfl (.inr rfl) rfl
    replace hM := zE_n hM (by first | (have q1 := zhx q1; have q2 := zhx q2; have q3 := zhx q3; have q4 := zhx q4; omega) | (simp only [zhx q1, zhx q2, zhx q3, zhx q4] at h5 ⊢ <;> omega))
    replace hM := zE_n hM (by first | (have q1 := zhx q1; have q2 := zhx q2; have q3 := zhx q3; have q4 := zhx q4; omega) | (simp only [zhx q1, zhx q2, zhx q3, zhx q4] at h5 ⊢ <;> omega))
    obtain ⟨Ym13, hYm13, hM⟩ := zl_x hM
    have hR14 : zRx [] 0 Z Ym13 := zRx_o hR10 hYm13 rfl
    have hV15 : zV Ym13 := zV_o hV11 hYm13 rfl
    have hG16 := yFr_o hG12 hYm13 rfl (.inr rfl) rfl
    obtain ⟨v18, g17, hM⟩ := zl_x hM
    replace g17 : zE _ _ := g17
    unfold zf_475 at g17
    replace g17 := zE_p g17 (by first | (have q1 := zhx q1; have q2 := zhx q2; have q3 := zhx q3; have q4 := zhx q4; omega) | (simp only [zhx q1, zhx q2, zhx q3, zhx q4] at h5 ⊢ <;> omega))
    have q19 := zhd (congrArg (Ym13 2 0 0) (show (1210 + 12 * a1 + 2) = 1212 + 12 * a1 from (by first | (have q1 := zhx q1; have q2 := zhx q2; omega) | (have q1 := zhx q1; have q2 := zhx q2; have q3 := zhx q3; have q4 := zhx q4; omega))))
    have q20 := zhd (((zu_ne (k' := 2) (b' := 0) (i' := 0) (j' := 1212 + 12 * a1) hYm13 (fun q => absurd q.1 (by decide))).trans (zu_ne (k' := 2) (b' := 0) (i' := 0) (j' := 1212 + 12 * a1) hYm9 (fun q => absurd q.1 (by decide)))))
    have e9 : (Ym13 2 0 0 (1210 + 12 * a1 + 2)) = v18 := Eq.symm g17
    subst e9
    have th9 := (zu_at hYm13)
    obtain rfl : C = _ := hC
    obtain rfl : M = _ := hM
    exact ⟨zRx_1 hR14, hV15, ⟨Z, _, .inl ⟨rfl, yFr_w hG16 (by decide)⟩, zFc_r, yFr_r⟩, zThr_a th9 (by first | rfl | (have q1 := zhx q1; have q2 := zhx q2; have q3 := zhx q3; have q4 := zhx q4; have q8 := zhx q8; have q19 := zhx q19; have q20 := zhx q20; omega) | (simp only [zhx q1, zhx q2, zhx q3, zhx q4, zhx q8, zhx q19, zhx q20] <;> omega) | (have q1 := zhx q1; have q2 := zhx q2; have q3 := zhx q3; have q4 := zhx q4; have q8 := zhx q8; have q19 := zhx q19; have q20 := zhx q20; refine w3z ?_ ?_ ?_ <;> omega) | (have q1 := zhx q1; have q2 := zhx q2; have q3 := zhx q3; have q4 := zhx q4; have q8 := zhx q8; have q19 := zhx q19; have q20 := zhx q20; refine w3y ?_ ?_ ?_ <;> omega) | (have q1 := zhx q1; have q2 := zhx q2; have q3 := zhx q3; have q4 := zhx q4; have q8 := zhx q8; have q19 := zhx q19; have q20 := zhx q20; refine z2o ?_ ?_ ?_ <;> omega))⟩
  · rcases zE_c hM with ⟨h21, hM⟩ | ⟨h21, hM⟩
    · obtain ⟨Ym22, hYm22, hM⟩ := zl_x hM
      have hR23 : zRx [] 0 Z Ym22 := zRx_o hRb hYm22 rfl
      have hV24 : zV Ym22 := zV_o hV hYm22 rfl
      have hG25 := yFr_o hG hYm22 rfl (.inr rfl) rfl
      have th9 := (zu_at hYm22)
      obtain rfl : C = _ := hC
      obtain rfl : M = _ := hM
      exact ⟨zRx_1 hR23, hV24, ⟨Z, _, .inl ⟨rfl, yFr_w hG25 (by decide)⟩, zFc_r, yFr_r⟩, zThr_e th9 (by decide)⟩
    · rcases zE_c hM with ⟨h26, hM⟩ | ⟨h26, hM⟩
      · obtain ⟨Ym27, hYm27, hM⟩ := zl_x hM
        have hR28 : zRx [] 0 Z Ym27 := zRx_o hRb hYm27 rfl
        have hV29 : zV Ym27 := zV_o hV hYm27 rfl
        have hG30 := yFr_o hG hYm27 rfl (.inr rfl) rfl
        have th9 := (zu_at hYm27)
        obtain rfl : C = _ := hC
        obtain rfl : M = _ := hM
        exact ⟨zRx_1 hR28, hV29, ⟨Z, _, .inl ⟨rfl, yFr_w hG30 (by decide)⟩, zFc_r, yFr_r⟩, zThr_e th9 (by decide)⟩
      · obtain ⟨Ym31, hYm31, hM⟩ := zl_x hM
        have hR32 : zRx [] 0 Z Ym31 := zRx_o hRb hYm31 rfl
        have hV33 : zV Ym31 := zV_o hV hYm31 rfl
        have hG34 := yFr_o hG hYm31 rfl (.inr rfl) rfl
        replace hM := zE_n hM (by first | (have q1 := zhx q1; have q2 := zhx q2; have q3 := zhx q3; have q4 := zhx q4; omega) | (simp only [zhx q1, zhx q2, zhx q3, zhx q4] at h5 h21 h26 ⊢ <;> omega))
        replace hM := zE_n hM (by first | (have q1 := zhx q1; have q2 := zhx q2; have q3 := zhx q3; have q4 := zhx q4; omega) | (simp only [zhx q1, zhx q2, zhx q3, zhx q4] at h5 h21 h26 ⊢ <;> omega))
        obtain ⟨Ym35, hYm35, hM⟩ := zl_x hM
        have hR36 : zRx [] 0 Z Ym35 := zRx_o hR32 hYm35 rfl
        have hV37 : zV Ym35 := zV_o hV33 hYm35 rfl
        have hG38 := yFr_o hG34 hYm35 rfl (.inr rfl) rfl
        obtain ⟨v40, g39, hM⟩ := zl_x hM
        replace g39 : zE _ _ := g39
        unfold zf_475 at g39
        replace g39 := zE_p g39 (by first | (have q1 := zhx q1; have q2 := zhx q2; have q3 := zhx q3; have q4 := zhx q4; omega) | (simp only [zhx q1, zhx q2, zhx q3, zhx q4] at h5 h21 h26 ⊢ <;> omega))
        have q41 := zhd (congrArg (Ym35 2 0 0) (show (1210 + 12 * a1 + 2) = 1212 + 12 * a1 from (by first | (have q1 := zhx q1; have q2 := zhx q2; omega) | (have q1 := zhx q1; have q2 := zhx q2; have q3 := zhx q3; have q4 := zhx q4; omega))))
        have q42 := zhd (((zu_ne (k' := 2) (b' := 0) (i' := 0) (j' := 1212 + 12 * a1) hYm35 (fun q => absurd q.1 (by decide))).trans (zu_ne (k' := 2) (b' := 0) (i' := 0) (j' := 1212 + 12 * a1) hYm31 (fun q => absurd q.1 (by decide)))))
        have e9 : (Ym35 2 0 0 (1210 + 12 * a1 + 2)) = v40 := Eq.symm g39
        subst e9
        exact False.elim (by have q1 := zhx q1; have q2 := zhx q2; have q3 := zhx q3; have q4 := zhx q4; first | omega | grind)

/- face kept_3 -/
theorem rf_kept_3 {Z Y : qz_Z} {dm : qz_Z → Int → Int → Int → Int → Int → Int → Int → qz_Z} {a1 : Int} (hRa : zR 0 Z Y) (hV : zV Y) (hI : zI none Z) (hd : zDf dm) (hD1 : zD1 0 Z Y) (hD4 : zD4 0 Z Y) (hN1 : zN1 Y) (hN4 : zN4 Y) (hDs : zDs 0 Z Y) (hDw : zDw 0 Z Y) (hDl : zDl 0 Z Y)  {C : qz_Z × Int × Int} {M : qz_Z × Int} (hC : zE C (zx_214 Z a1 3)) (hM : zE M (zy_425 Y a1 3)) : zR 0 C.1 M.1 ∧ zV M.1 ∧ zDd [] [99999] Z Y dm C.1 M.1 ∧ zThr [(24, 1), (13, 2)] C.2 (M.1 1 0 0 2) M.2 := by
  have hRb := zRx_0 hRa
  have hF : zFc [] 0 Z Z := zFc_r
  have hG : yFr [99999] Y Y := yFr_r
  unfold zx_214 at hC
  unfold zy_425 at hM
  have q1 := zhd ((fun a b => hDs a1 a b : 0 ≤ a1 → a1 < 6 → _))
  have q2 := zhd (zVr_11_13 (a := 0) hV rfl)
  have q3 := zhd (zVr_11_2 (a := 1200) hV (by omega))
  have q4 := zhd ((zRl_11_2 (a := 1200) hRa (by omega)))
  rcases zE_c hC with ⟨h5, hC⟩ | ⟨h5, hC⟩
  · replace hC := zE_p hC (by first | (have q1 := zhx q1; have q2 := zhx q2; have q3 := zhx q3; have q4 := zhx q4; omega) | (simp only [zhx q1, zhx q2, zhx q3, zhx q4] at h5 ⊢ <;> omega))
    obtain ⟨v7, g6, hC⟩ := zl_x hC
    replace g6 : zE _ _ := g6
    unfold zf_183 at g6
    replace g6 := zE_p g6 (by first | (have q1 := zhx q1; have q2 := zhx q2; have q3 := zhx q3; have q4 := zhx q4; omega) | (simp only [zhx q1, zhx q2, zhx q3, zhx q4] at h5 ⊢ <;> omega))
    replace g6 := zE_p g6 (by first | (have q1 := zhx q1; have q2 := zhx q2; have q3 := zhx q3; have q4 := zhx q4; omega) | (simp only [zhx q1, zhx q2, zhx q3, zhx q4] at h5 ⊢ <;> omega))
    have q8 := zhd ((zRl_43_3 (x := a1) (a := 1213 + 12 * a1) hRa (by first | (have q1 := zhx q1; have q2 := zhx q2; omega) | (have q1 := zhx q1; have q2 := zhx q2; have q3 := zhx q3; have q4 := zhx q4; omega)) (by first | (have q1 := zhx q1; have q2 := zhx q2; omega) | (have q1 := zhx q1; have q2 := zhx q2; have q3 := zhx q3; have q4 := zhx q4; omega)) (by first | (have q1 := zhx q1; have q2 := zhx q2; omega) | (have q1 := zhx q1; have q2 := zhx q2; have q3 := zhx q3; have q4 := zhx q4; omega))))
    have e9 : (Z 43 0 a1 3) = v7 := Eq.symm g6
    subst e9
    replace hM := zE_n hM (by first | (have q1 := zhx q1; have q2 := zhx q2; have q3 := zhx q3; have q4 := zhx q4; omega) | (simp only [zhx q1, zhx q2, zhx q3, zhx q4] at h5 ⊢ <;> omega))
    replace hM := zE_n hM (by first | (have q1 := zhx q1; have q2 := zhx q2; have q3 := zhx q3; have q4 := zhx q4; omega) | (simp only [zhx q1, zhx q2, zhx q3, zhx q4] at h5 ⊢ <;> omega))
    obtain ⟨Ym9, hYm9, hM⟩ := zl_x hM
    have hR10 : zRx [] 0 Z Ym9 := zRx_o hRb hYm9 rfl
    have hV11 : zV Ym9 := zV_o hV hYm9 rfl
    have hG12 := yFr_o hG hYm9 rfl (.inr rfl) rfl
    replace hM := zE_n hM (by first | (have q1 := zhx q1; have q2 := zhx q2; have q3 := zhx q3; have q4 := zhx q4; omega) | (simp only [zhx q1, zhx q2, zhx q3, zhx q4] at h5 ⊢ <;> omega))
    replace hM := zE_n hM (by first | (have q1 := zhx q1; have q2 := zhx q2; have q3 := zhx q3; have q4 := zhx q4; omega) | (simp only [zhx q1, zhx q2, zhx q3, zhx q4] at h5 ⊢ <;> omega))
    obtain ⟨Ym13, hYm13, hM⟩ := zl_x hM
    have hR14 : zRx [] 0 Z Ym13 := zRx_o hR10 hYm13 rfl
    have hV15 : zV Ym13 := zV_o hV11 hYm13 rfl
    have hG16 := yFr_o hG12 hYm13 rfl (.inr rfl) rfl
    obtain ⟨v18, g17, hM⟩ := zl_x hM
    replace g17 : zE _ _ := g17
    unfold zf_475 at g17
    replace g17 := zE_p g17 (by first | (have q1 := zhx q1; have q2 := zhx q2; have q3 := zhx q3; have q4 := zhx q4; omega) | (simp only [zhx q1, zhx q2, zhx q3, zhx q4] at h5 ⊢ <;> omega))
    have q19 := zhd (congrArg (Ym13 2 0 0) (show (1210 + 12 * a1 + 3) = 1213 + 12 * a1 from (by first | (have q1 := zhx q1; have q2 := zhx q2; omega) | (have q1 := zhx q1; have q2 := zhx q2; have q3 := zhx q3; have q4 := zhx q4; omega))))
    have q20 := zhd (((zu_ne (k' := 2) (b' := 0) (i' := 0) (j' := 1213 + 12 * a1) hYm13 (fun q => absurd q.1 (by decide))).trans (zu_ne (k' := 2) (b' := 0) (i' := 0) (j' := 1213 + 12 * a1) hYm9 (fun q => absurd q.1 (by decide)))))
    have e9 : (Ym13 2 0 0 (1210 + 12 * a1 + 3)) = v18 := Eq.symm g17
    subst e9
    have th9 := (zu_at hYm13)
    obtain rfl : C = _ := hC
    obtain rfl : M = _ := hM
    exact ⟨zRx_1 hR14, hV15, ⟨Z, _, .inl ⟨rfl, yFr_w hG16 (by decide)⟩, zFc_r, yFr_r⟩, zThr_a th9 (by first | rfl | (have q1 := zhx q1; have q2 := zhx q2; have q3 := zhx q3; have q4 := zhx q4; have q8 := zhx q8; have q19 := zhx q19; have q20 := zhx q20; omega) | (simp only [zhx q1, zhx q2, zhx q3, zhx q4, zhx q8, zhx q19, zhx q20] <;> omega) | (have q1 := zhx q1; have q2 := zhx q2; have q3 := zhx q3; have q4 := zhx q4; have q8 := zhx q8; have q19 := zhx q19; have q20 := zhx q20; refine w3z ?_ ?_ ?_ <;> omega) | (have q1 := zhx q1; have q2 := zhx q2; have q3 := zhx q3; have q4 := zhx q4; have q8 := zhx q8; have q19 := zhx q19; have q20 := zhx q20; refine w3y ?_ ?_ ?_ <;> omega) | (have q1 := zhx q1; have q2 := zhx q2; have q3 := zhx q3; have q4 := zhx q4; have q8 := zhx q8; have q19 := zhx q19; have q20 := zhx q20; refine z2o ?_ ?_ ?_ <;> omega))⟩
  · rcases zE_c hM with ⟨h21, hM⟩ | ⟨h21, hM⟩
    · obtain ⟨Ym22, hYm22, hM⟩ := zl_x hM
      have hR23 : zRx [] 0 Z Ym22 := zRx_o hRb hYm22 rfl
      have hV24 : zV Ym22 := zV_o hV hYm22 rfl
      have hG25 := yFr_o hG hYm22 rfl (.inr rfl) rfl
      have th9 := (zu_at hYm22)
      obtain rfl : C = _ := hC
      obtain rfl : M = _ := hM
      exact ⟨zRx_1 hR23, hV24, ⟨Z, _, .inl ⟨rfl, yFr_w hG25 (by decide)⟩, zFc_r, yFr_r⟩, zThr_e th9 (by decide)⟩
    · rcases zE_c hM with ⟨h26, hM⟩ | ⟨h26, hM⟩
      · obtain ⟨Ym27, hYm27, hM⟩ := zl_x hM
        have hR28 : zRx [] 0 Z Ym27 := zRx_o hRb hYm27 rfl
        have hV29 : zV Ym27 := zV_o hV hYm27 rfl
        have hG30 := yFr_o hG hYm27 rfl (.inr rfl) rfl
        have th9 := (zu_at hYm27)
        obtain rfl : C = _ := hC
        obtain rfl : M = _ := hM
        exact ⟨zRx_1 hR28, hV29, ⟨Z, _, .inl ⟨rfl, yFr_w hG30 (by decide)⟩, zFc_r, yFr_r⟩, zThr_e th9 (by decide)⟩
      · obtain ⟨Ym31, hYm31, hM⟩ := zl_x hM
        have hR32 : zRx [] 0 Z Ym31 := zRx_o hRb hYm31 rfl
        have hV33 : zV Ym31 := zV_o hV hYm31 rfl
        have hG34 := yFr_o hG hYm31 rfl (.inr rfl) rfl
        replace hM := zE_n hM (by first | (have q1 := zhx q1; have q2 := zhx q2; have q3 := zhx q3; have q4 := zhx q4; omega) | (simp only [zhx q1, zhx q2, zhx q3, zhx q4] at h5 h21 h26 ⊢ <;> omega))
        replace hM := zE_n hM (by first | (have q1 := zhx q1; have q2 := zhx q2; have q3 := zhx q3; have q4 := zhx q4; omega) | (simp only [zhx q1, zhx q2, zhx q3, zhx q4] at h5 h21 h26 ⊢ <;> omega))
        obtain ⟨Ym35, hYm35, hM⟩ := zl_x hM
        have hR36 : zRx [] 0 Z Ym35 := zRx_o hR32 hYm35 rfl
        have hV37 : zV Ym35 := zV_o hV33 hYm35 rfl
        have hG38 := yFr_o hG34 hYm35 rfl (.inr rfl) rfl
        obtain ⟨v40, g39, hM⟩ := zl_x hM
        replace g39 : zE _ _ := g39
        unfold zf_475 at g39
        replace g39 := zE_p g39 (by first | (have q1 := zhx q1; have q2 := zhx q2; have q3 := zhx q3; have q4 := zhx q4; omega) | (simp only [zhx q1, zhx q2, zhx q3, zhx q4] at h5 h21 h26 ⊢ <;> omega))
        have q41 := zhd (congrArg (Ym35 2 0 0) (show (1210 + 12 * a1 + 3) = 1213 + 12 * a1 from (by first | (have q1 := zhx q1; have q2 := zhx q2; omega) | (have q1 := zhx q1; have q2 := zhx q2; have q3 := zhx q3; have q4 := zhx q4; omega))))
        have q42 := zhd (((zu_ne (k' := 2) (b' := 0) (i' := 0) (j' := 1213 + 12 * a1) hYm35 (fun q => absurd q.1 (by decide))).trans (zu_ne (k' := 2) (b' := 0) (i' := 0) (j' := 1213 + 12 * a1) hYm31 (fun q => absurd q.1 (by decide)))))
        have e9 : (Ym35 2 0 0 (1210 + 12 * a1 + 3)) = v40 := Eq.symm g39
        subst e9
        exact False.elim (by have q1 := zhx q1; have q2 := zhx q2; have q3 := zhx q3; have q4 := zhx q4; first | omega | grind)

/- face kept_4 -/
theorem rf_kept_4 {Z Y : qz_Z} {dm : qz_Z → Int → Int → Int → Int → Int → Int → Int → qz_Z} {a1 : Int} (hRa : zR 0 Z Y) (hV : zV Y) (hI : zI none Z) (hd : zDf dm) (hD1 : zD1 0 Z Y) (hD4 : zD4 0 Z Y) (hN1 : zN1 Y) (hN4 : zN4 Y) (hDs : zDs 0 Z Y) (hDw : zDw 0 Z Y) (hDl : zDl 0 Z Y)  {C : qz_Z × Int × Int} {M : qz_Z × Int} (hC : zE C (zx_214 Z a1 4)) (hM : zE M (zy_425 Y a1 4)) : zR 0 C.1 M.1 ∧ zV M.1 ∧ zDd [] [99999] Z Y dm C.1 M.1 ∧ zThr [(24, 1), (13, 2)] C.2 (M.1 1 0 0 2) M.2 := by
  have hRb := zRx_0 hRa
  have hF : zFc [] 0 Z Z := zFc_r
  have hG : yFr [99999] Y Y := yFr_r
  unfold zx_214 at hC
  unfold zy_425 at hM
  have q1 := zhd ((fun a b => hDs a1 a b : 0 ≤ a1 → a1 < 6 → _))
  have q2 := zhd (zVr_11_13 (a := 0) hV rfl)
  have q3 := zhd (zVr_11_2 (a := 1200) hV (by omega))
  have q4 := zhd ((zRl_11_2 (a := 1200) hRa (by omega)))
  rcases zE_c hC with ⟨h5, hC⟩ | ⟨h5, hC⟩
  · replace hC := zE_p hC (by first | (have q1 := zhx q1; have q2 := zhx q2; have q3 := zhx q3; have q4 := zhx q4; omega) | (simp only [zhx q1, zhx q2, zhx q3, zhx q4] at h5 ⊢ <;> omega))
    obtain ⟨v7, g6, hC⟩ := zl_x hC
    replace g6 : zE _ _ := g6
    unfold zf_183 at g6
    replace g6 := zE_p g6 (by first | (have q1 := zhx q1; have q2 := zhx q2; have q3 := zhx q3; have q4 := zhx q4; omega) | (simp only [zhx q1, zhx q2, zhx q3, zhx q4] at h5 ⊢ <;> omega))
    replace g6 := zE_p g6 (by first | (have q1 := zhx q1; have q2 := zhx q2; have q3 := zhx q3; have q4 := zhx q4; omega) | (simp only [zhx q1, zhx q2, zhx q3, zhx q4] at h5 ⊢ <;> omega))
    have q8 := zhd (zVr_43_4 (x := a1) (a := 1214 + 12 * a1) hV (by first | (have q1 := zhx q1; have q2 := zhx q2; omega) | (have q1 := zhx q1; have q2 := zhx q2; have q3 := zhx q3; have q4 := zhx q4; omega)) (by first | (have q1 := zhx q1; have q2 := zhx q2; omega) | (have q1 := zhx q1; have q2 := zhx q2; have q3 := zhx q3; have q4 := zhx q4; omega)) (by first | (have q1 := zhx q1; have q2 := zhx q2; omega) | (have q1 := zhx q1; have q2 := zhx q2; have q3 := zhx q3; have q4 := zhx q4; omega)))
    have q9 := zhd ((zRl_43_4 (x := a1) (a := 1214 + 12 * a1) hRa (by first | (have q1 := zhx q1; have q2 := zhx q2; omega) | (have q1 := zhx q1; have q2 := zhx q2; have q3 := zhx q3; have q4 := zhx q4; omega)) (by first | (have q1 := zhx q1; have q2 := zhx q2; omega) | (have q1 := zhx q1; have q2 := zhx q2; have q3 := zhx q3; have q4 := zhx q4; omega)) (by first | (have q1 := zhx q1; have q2 := zhx q2; omega) | (have q1 := zhx q1; have q2 := zhx q2; have q3 := zhx q3; have q4 := zhx q4; omega))))
    have e9 : (Z 43 0 a1 4) = v7 := Eq.symm g6
    subst e9
    replace hM := zE_n hM (by first | (have q1 := zhx q1; have q2 := zhx q2; have q3 := zhx q3; have q4 := zhx q4; omega) | (simp only [zhx q1, zhx q2, zhx q3, zhx q4] at h5 ⊢ <;> omega))
    replace hM := zE_n hM (by first | (have q1 := zhx q1; have q2 := zhx q2; have q3 := zhx q3; have q4 := zhx q4; omega) | (simp only [zhx q1, zhx q2, zhx q3, zhx q4] at h5 ⊢ <;> omega))
    obtain ⟨Ym10, hYm10, hM⟩ := zl_x hM
    have hR11 : zRx [] 0 Z Ym10 := zRx_o hRb hYm10 rfl
    have hV12 : zV Ym10 := zV_o hV hYm10 rfl
    have hG13 := yFr_o hG hYm10 rfl (.inr rfl) rfl
    replace hM := zE_n hM (by first | (have q1 := zhx q1; have q2 := zhx q2; have q3 := zhx q3; have q4 := zhx q4; omega) | (simp only [zhx q1, zhx q2, zhx q3, zhx q4] at h5 ⊢ <;> omega))
    replace hM := zE_n hM (by first | (have q1 := zhx q1; have q2 := zhx q2; have q3 := zhx q3; have q4 := zhx q4; omega) | (simp only [zhx q1, zhx q2, zhx q3, zhx q4] at h5 ⊢ <;> omega))
    obtain ⟨Ym14, hYm14, hM⟩ := zl_x hM
    have hR15 : zRx [] 0 Z Ym14 := zRx_o hR11 hYm14 rfl
    have hV16 : zV Ym14 := zV_o hV12 hYm14 rfl
    have hG17 := yFr_o hG13 hYm14 rfl (.inr rfl) rfl
    obtain ⟨v19, g18, hM⟩ := zl_x hM
    replace g18 : zE _ _ := g18
    unfold zf_475 at g18
    replace g18 := zE_p g18 (by first | (have q1 := zhx q1; have q2 := zhx q2; have q3 := zhx q3; have q4 := zhx q4; omega) | (simp only [zhx q1, zhx q2, zhx q3, zhx q4] at h5 ⊢ <;> omega))
    have q20 := zhd (congrArg (Ym14 2 0 0) (show (1210 + 12 * a1 + 4) = 1214 + 12 * a1 from (by first | (have q1 := zhx q1; have q2 := zhx q2; omega) | (have q1 := zhx q1; have q2 := zhx q2; have q3 := zhx q3; have q4 := zhx q4; omega))))
    have q21 := zhd (((zu_ne (k' := 2) (b' := 0) (i' := 0) (j' := 1214 + 12 * a1) hYm14 (fun q => absurd q.1 (by decide))).trans (zu_ne (k' := 2) (b' := 0) (i' := 0) (j' := 1214 + 12 * a1) hYm10 (fun q => absurd q.1 (by decide)))))
    have e9 : (Ym14 2 0 0 (1210 + 12 * a1 + 4)) = v19 := Eq.symm g18
    subst e9
    have th9 := (zu_at hYm14)
    obtain rfl : C = _ := hC
    obtain rfl : M = _ := hM
    exact ⟨zRx_1 hR15, hV16, ⟨Z, _, .inl ⟨rfl, yFr_w hG17 (by decide)⟩, zFc_r, yFr_r⟩, zThr_a th9 (by first | rfl | (have q1 := zhx q1; have q2 := zhx q2; have q3 := zhx q3; have q4 := zhx q4; have q8 := zhx q8; have q9 := zhx q9; have q20 := zhx q20; have q21 := zhx q21; omega) | (simp only [zhx q1, zhx q2, zhx q3, zhx q4, zhx q8, zhx q9, zhx q20, zhx q21] <;> omega) | (have q1 := zhx q1; have q2 := zhx q2; have q3 := zhx q3; have q4 := zhx q4; have q8 := zhx q8; have q9 := zhx q9; have q20 := zhx q20; have q21 := zhx q21; refine w3z ?_ ?_ ?_ <;> omega) | (have q1 := zhx q1; have q2 := zhx q2; have q3 := zhx q3; have q4 := zhx q4; have q8 := zhx q8; have q9 := zhx q9; have q20 := zhx q20; have q21 := zhx q21; refine w3y ?_ ?_ ?_ <;> omega) | (have q1 := zhx q1; have q2 := zhx q2; have q3 := zhx q3; have q4 := zhx q4; have q8 := zhx q8; have q9 := zhx q9; have q20 := zhx q20; have q21 := zhx q21; refine z2o ?_ ?_ ?_ <;> omega))⟩
  · rcases zE_c hM with ⟨h22, hM⟩ | ⟨h22, hM⟩
    · obtain ⟨Ym23, hYm23, hM⟩ := zl_x hM
      have hR24 : zRx [] 0 Z Ym23 := zRx_o hRb hYm23 rfl
      have hV25 : zV Ym23 := zV_o hV hYm23 rfl
      have hG26 := yFr_o hG hYm23 rfl (.inr rfl) rfl
      have th9 := (zu_at hYm23)
      obtain rfl : C = _ := hC
      obtain rfl : M = _ := hM
      exact ⟨zRx_1 hR24, hV25, ⟨Z, _, .inl ⟨rfl, yFr_w hG26 (by decide)⟩, zFc_r, yFr_r⟩, zThr_e th9 (by decide)⟩
    · rcases zE_c hM with ⟨h27, hM⟩ | ⟨h27, hM⟩
      · obtain ⟨Ym28, hYm28, hM⟩ := zl_x hM
        have hR29 : zRx [] 0 Z Ym28 := zRx_o hRb hYm28 rfl
        have hV30 : zV Ym28 := zV_o hV hYm28 rfl
        have hG31 := yFr_o hG hYm28 rfl (.inr rfl) rfl
        have th9 := (zu_at hYm28)
        obtain rfl : C = _ := hC
        obtain rfl : M = _ := hM
        exact ⟨zRx_1 hR29, hV30, ⟨Z, _, .inl ⟨rfl, yFr_w hG31 (by decide)⟩, zFc_r, yFr_r⟩, zThr_e th9 (by decide)⟩
      · obtain ⟨Ym32, hYm32, hM⟩ := zl_x hM
        have hR33 : zRx [] 0 Z Ym32 := zRx_o hRb hYm32 rfl
        have hV34 : zV Ym32 := zV_o hV hYm32 rfl
        have hG35 := yFr_o hG hYm32 rfl (.inr rfl) rfl
        replace hM := zE_n hM (by first | (have q1 := zhx q1; have q2 := zhx q2; have q3 := zhx q3; have q4 := zhx q4; omega) | (simp only [zhx q1, zhx q2, zhx q3, zhx q4] at h5 h22 h27 ⊢ <;> omega))
        replace hM := zE_n hM (by first | (have q1 := zhx q1; have q2 := zhx q2; have q3 := zhx q3; have q4 := zhx q4; omega) | (simp only [zhx q1, zhx q2, zhx q3, zhx q4] at h5 h22 h27 ⊢ <;> omega))
        obtain ⟨Ym36, hYm36, hM⟩ := zl_x hM
        have hR37 : zRx [] 0 Z Ym36 := zRx_o hR33 hYm36 rfl
        have hV38 : zV Ym36 := zV_o hV34 hYm36 rfl
        have hG39 := yFr_o hG35 hYm36 rfl (.inr rfl) rfl
        obtain ⟨v41, g40, hM⟩ := zl_x hM
        replace g40 : zE _ _ := g40
        unfold zf_475 at g40
        replace g40 := zE_p g40 (by first | (have q1 := zhx q1; have q2 := zhx q2; have q3 := zhx q3; have q4 := zhx q4; omega) | (simp only [zhx q1, zhx q2, zhx q3, zhx q4] at h5 h22 h27 ⊢ <;> omega))
        have q42 := zhd (zVr_43_4 (x := a1) (a := 1214 + 12 * a1) hV (by first | (have q1 := zhx q1; have q2 := zhx q2; omega) | (have q1 := zhx q1; have q2 := zhx q2; have q3 := zhx q3; have q4 := zhx q4; omega)) (by first | (have q1 := zhx q1; have q2 := zhx q2; omega) | (have q1 := zhx q1; have q2 := zhx q2; have q3 := zhx q3; have q4 := zhx q4; omega)) (by first | (have q1 := zhx q1; have q2 := zhx q2; omega) | (have q1 := zhx q1; have q2 := zhx q2; have q3 := zhx q3; have q4 := zhx q4; omega)))
        have q43 := zhd (congrArg (Ym36 2 0 0) (show (1210 + 12 * a1 + 4) = 1214 + 12 * a1 from (by first | (have q1 := zhx q1; have q2 := zhx q2; omega) | (have q1 := zhx q1; have q2 := zhx q2; have q3 := zhx q3; have q4 := zhx q4; omega))))
        have q44 := zhd (((zu_ne (k' := 2) (b' := 0) (i' := 0) (j' := 1214 + 12 * a1) hYm36 (fun q => absurd q.1 (by decide))).trans (zu_ne (k' := 2) (b' := 0) (i' := 0) (j' := 1214 + 12 * a1) hYm32 (fun q => absurd q.1 (by decide)))))
        have e9 : (Ym36 2 0 0 (1210 + 12 * a1 + 4)) = v41 := Eq.symm g40
        subst e9
        exact False.elim (by have q1 := zhx q1; have q2 := zhx q2; have q3 := zhx q3; have q4 := zhx q4; first | omega | grind)

/- face kept_5 -/
theorem rf_kept_5 {Z Y : qz_Z} {dm : qz_Z → Int → Int → Int → Int → Int → Int → Int → qz_Z} {a1 : Int} (hRa : zR 0 Z Y) (hV : zV Y) (hI : zI none Z) (hd : zDf dm) (hD1 : zD1 0 Z Y) (hD4 : zD4 0 Z Y) (hN1 : zN1 Y) (hN4 : zN4 Y) (hDs : zDs 0 Z Y) (hDw : zDw 0 Z Y) (hDl : zDl 0 Z Y)  {C : qz_Z × Int × Int} {M : qz_Z × Int} (hC : zE C (zx_214 Z a1 5)) (hM : zE M (zy_425 Y a1 5)) : zR 0 C.1 M.1 ∧ zV M.1 ∧ zDd [] [99999] Z Y dm C.1 M.1 ∧ zThr [(24, 1), (13, 2)] C.2 (M.1 1 0 0 2) M.2 := by
  have hRb := zRx_0 hRa
  have hF : zFc [] 0 Z Z := zFc_r
  have hG : yFr [99999] Y Y := yFr_r
  unfold zx_214 at hC
  unfold zy_425 at hM
  have q1 := zhd ((fun a b => hDs a1 a b : 0 ≤ a1 → a1 < 6 → _))
  have q2 := zhd (zVr_11_13 (a := 0) hV rfl)
  have q3 := zhd (zVr_11_2 (a := 1200) hV (by omega))
  have q4 := zhd ((zRl_11_2 (a := 1200) hRa (by omega)))
  rcases zE_c hC with ⟨h5, hC⟩ | ⟨h5, hC⟩
  · replace hC := zE_p hC (by first | (have q1 := zhx q1; have q2 := zhx q2; have q3 := zhx q3; have q4 := zhx q4; omega) | (simp only [zhx q1, zhx q2, zhx q3, zhx q4] at h5 ⊢ <;> omega))
    obtain ⟨v7, g6, hC⟩ := zl_x hC
    replace g6 : zE _ _ := g6
    unfold zf_183 at g6
    replace g6 := zE_p g6 (by first | (have q1 := zhx q1; have q2 := zhx q2; have q3 := zhx q3; have q4 := zhx q4; omega) | (simp only [zhx q1, zhx q2, zhx q3, zhx q4] at h5 ⊢ <;> omega))
    replace g6 := zE_p g6 (by first | (have q1 := zhx q1; have q2 := zhx q2; have q3 := zhx q3; have q4 := zhx q4; omega) | (simp only [zhx q1, zhx q2, zhx q3, zhx q4] at h5 ⊢ <;> omega))
    have q8 := zhd ((zRl_43_5 (x := a1) (a := 1215 + 12 * a1) hRa (by first | (have q1 := zhx q1; have q2 := zhx q2; omega) | (have q1 := zhx q1; have q2 := zhx q2; have q3 := zhx q3; have q4 := zhx q4; omega)) (by first | (have q1 := zhx q1; have q2 := zhx q2; omega) | (have q1 := zhx q1; have q2 := zhx q2; have q3 := zhx q3; have q4 := zhx q4; omega)) (by first | (have q1 := zhx q1; have q2 := zhx q2; omega) | (have q1 := zhx q1; have q2 := zhx q2; have q3 := zhx q3; have q4 := zhx q4; omega))))
    have e9 : (Z 43 0 a1 5) = v7 := Eq.symm g6
    subst e9
    replace hM := zE_n hM (by first | (have q1 := zhx q1; have q2 := zhx q2; have q3 := zhx q3; have q4 := zhx q4; omega) | (simp only [zhx q1, zhx q2, zhx q3, zhx q4] at h5 ⊢ <;> omega))
    replace hM := zE_n hM (by first | (have q1 := zhx q1; have q2 := zhx q2; have q3 := zhx q3; have q4 := zhx q4; omega) | (simp only [zhx q1, zhx q2, zhx q3, zhx q4] at h5 ⊢ <;> omega))
    obtain ⟨Ym9, hYm9, hM⟩ := zl_x hM
    have hR10 : zRx [] 0 Z Ym9 := zRx_o hRb hYm9 rfl
    have hV11 : zV Ym9 := zV_o hV hYm9 rfl
    have hG12 := yFr_o hG hYm9 rfl (.inr rfl) rfl
    replace hM := zE_n hM (by first | (have q1 := zhx q1; have q2 := zhx q2; have q3 := zhx q3; have q4 := zhx q4; omega) | (simp only [zhx q1, zhx q2, zhx q3, zhx q4] at h5 ⊢ <;> omega))
    replace hM := zE_n hM (by first | (have q1 := zhx q1; have q2 := zhx q2; have q3 := zhx q3; have q4 := zhx q4; omega) | (simp only [zhx q1, zhx q2, zhx q3, zhx q4] at h5 ⊢ <;> omega))
    obtain ⟨Ym13, hYm13, hM⟩ := zl_x hM
    have hR14 : zRx [] 0 Z Ym13 := zRx_o hR10 hYm13 rfl
    have hV15 : zV Ym13 := zV_o hV11 hYm13 rfl
    have hG16 := yFr_o hG12 hYm13 rfl (.inr rfl) rfl
    obtain ⟨v18, g17, hM⟩ := zl_x hM
    replace g17 : zE _ _ := g17
    unfold zf_475 at g17
    replace g17 := zE_p g17 (by first | (have q1 := zhx q1; have q2 := zhx q2; have q3 := zhx q3; have q4 := zhx q4; omega) | (simp only [zhx q1, zhx q2, zhx q3, zhx q4] at h5 ⊢ <;> omega))
    have q19 := zhd (congrArg (Ym13 2 0 0) (show (1210 + 12 * a1 + 5) = 1215 + 12 * a1 from (by first | (have q1 := zhx q1; have q2 := zhx q2; omega) | (have q1 := zhx q1; have q2 := zhx q2; have q3 := zhx q3; have q4 := zhx q4; omega))))
    have q20 := zhd (((zu_ne (k' := 2) (b' := 0) (i' := 0) (j' := 1215 + 12 * a1) hYm13 (fun q => absurd q.1 (by decide))).trans (zu_ne (k' := 2) (b' := 0) (i' := 0) (j' := 1215 + 12 * a1) hYm9 (fun q => absurd q.1 (by decide)))))
    have e9 : (Ym13 2 0 0 (1210 + 12 * a1 + 5)) = v18 := Eq.symm g17
    subst e9
    have th9 := (zu_at hYm13)
    obtain rfl : C = _ := hC
    obtain rfl : M = _ := hM
    exact ⟨zRx_1 hR14, hV15, ⟨Z, _, .inl ⟨rfl, yFr_w hG16 (by decide)⟩, zFc_r, yFr_r⟩, zThr_a th9 (by first | rfl | (have q1 := zhx q1; have q2 := zhx q2; have q3 := zhx q3; have q4 := zhx q4; have q8 := zhx q8; have q19 := zhx q19; have q20 := zhx q20; omega) | (simp only [zhx q1, zhx q2, zhx q3, zhx q4, zhx q8, zhx q19, zhx q20] <;> omega) | (have q1 := zhx q1; have q2 := zhx q2; have q3 := zhx q3; have q4 := zhx q4; have q8 := zhx q8; have q19 := zhx q19; have q20 := zhx q20; refine w3z ?_ ?_ ?_ <;> omega) | (have q1 := zhx q1; have q2 := zhx q2; have q3 := zhx q3; have q4 := zhx q4; have q8 := zhx q8; have q19 := zhx q19; have q20 := zhx q20; refine w3y ?_ ?_ ?_ <;> omega) | (have q1 := zhx q1; have q2 := zhx q2; have q3 := zhx q3; have q4 := zhx q4; have q8 := zhx q8; have q19 := zhx q19; have q20 := zhx q20; refine z2o ?_ ?_ ?_ <;> omega))⟩
  · rcases zE_c hM with ⟨h21, hM⟩ | ⟨h21, hM⟩
    · obtain ⟨Ym22, hYm22, hM⟩ := zl_x hM
      have hR23 : zRx [] 0 Z Ym22 := zRx_o hRb hYm22 rfl
      have hV24 : zV Ym22 := zV_o hV hYm22 rfl
      have hG25 := yFr_o hG hYm22 rfl (.inr rfl) rfl
      have th9 := (zu_at hYm22)
      obtain rfl : C = _ := hC
      obtain rfl : M = _ := hM
      exact ⟨zRx_1 hR23, hV24, ⟨Z, _, .inl ⟨rfl, yFr_w hG25 (by decide)⟩, zFc_r, yFr_r⟩, zThr_e th9 (by decide)⟩
    · rcases zE_c hM with ⟨h26, hM⟩ | ⟨h26, hM⟩
      · obtain ⟨Ym27, hYm27, hM⟩ := zl_x hM
        have hR28 : zRx [] 0 Z Ym27 := zRx_o hRb hYm27 rfl
        have hV29 : zV Ym27 := zV_o hV hYm27 rfl
        have hG30 := yFr_o hG hYm27 rfl (.inr rfl) rfl
        have th9 := (zu_at hYm27)
        obtain rfl : C = _ := hC
        obtain rfl : M = _ := hM
        exact ⟨zRx_1 hR28, hV29, ⟨Z, _, .inl ⟨rfl, yFr_w hG30 (by decide)⟩, zFc_r, yFr_r⟩, zThr_e th9 (by decide)⟩
      · obtain ⟨Ym31, hYm31, hM⟩ := zl_x hM
        have hR32 : zRx [] 0 Z Ym31 := zRx_o hRb hYm31 rfl
        have hV33 : zV Ym31 := zV_o hV hYm31 rfl
        have hG34 := yFr_o hG hYm31 rfl (.inr rfl) rfl
        replace hM := zE_n hM (by first | (have q1 := zhx q1; have q2 := zhx q2; have q3 := zhx q3; have q4 := zhx q4; omega) | (simp only [zhx q1, zhx q2, zhx q3, zhx q4] at h5 h21 h26 ⊢ <;> omega))
        replace hM := zE_n hM (by first | (have q1 := zhx q1; have q2 := zhx q2; have q3 := zhx q3; have q4 := zhx q4; omega) | (simp only [zhx q1, zhx q2, zhx q3, zhx q4] at h5 h21 h26 ⊢ <;> omega))
        obtain ⟨Ym35, hYm35, hM⟩ := zl_x hM
        have hR36 : zRx [] 0 Z Ym35 := zRx_o hR32 hYm35 rfl
        have hV37 : zV Ym35 := zV_o hV33 hYm35 rfl
        have hG38 := yFr_o hG34 hYm35 rfl (.inr rfl) rfl
        obtain ⟨v40, g39, hM⟩ := zl_x hM
        replace g39 : zE _ _ := g39
        unfold zf_475 at g39
        replace g39 := zE_p g39 (by first | (have q1 := zhx q1; have q2 := zhx q2; have q3 := zhx q3; have q4 := zhx q4; omega) | (simp only [zhx q1, zhx q2, zhx q3, zhx q4] at h5 h21 h26 ⊢ <;> omega))
        have q41 := zhd (congrArg (Ym35 2 0 0) (show (1210 + 12 * a1 + 5) = 1215 + 12 * a1 from (by first | (have q1 := zhx q1; have q2 := zhx q2; omega) | (have q1 := zhx q1; have q2 := zhx q2; have q3 := zhx q3; have q4 := zhx q4; omega))))
        have q42 := zhd (((zu_ne (k' := 2) (b' := 0) (i' := 0) (j' := 1215 + 12 * a1) hYm35 (fun q => absurd q.1 (by decide))).trans (zu_ne (k' := 2) (b' := 0) (i' := 0) (j' := 1215 + 12 * a1) hYm31 (fun q => absurd q.1 (by decide)))))
        have e9 : (Ym35 2 0 0 (1210 + 12 * a1 + 5)) = v40 := Eq.symm g39
        subst e9
        exact False.elim (by have q1 := zhx q1; have q2 := zhx q2; have q3 := zhx q3; have q4 := zhx q4; first | omega | grind)

/- face kept_6 -/
theorem rf_kept_6 {Z Y : qz_Z} {dm : qz_Z → Int → Int → Int → Int → Int → Int → Int → qz_Z} {a1 : Int} (hRa : zR 0 Z Y) (hV : zV Y) (hI : zI none Z) (hd : zDf dm) (hD1 : zD1 0 Z Y) (hD4 : zD4 0 Z Y) (hN1 : zN1 Y) (hN4 : zN4 Y) (hDs : zDs 0 Z Y) (hDw : zDw 0 Z Y) (hDl : zDl 0 Z Y)  {C : qz_Z × Int × Int} {M : qz_Z × Int} (hC : zE C (zx_214 Z a1 6)) (hM : zE M (zy_425 Y a1 6)) : zR 0 C.1 M.1 ∧ zV M.1 ∧ zDd [] [99999] Z Y dm C.1 M.1 ∧ zThr [(24, 1), (13, 2)] C.2 (M.1 1 0 0 2) M.2 := by
  have hRb := zRx_0 hRa
  have hF : zFc [] 0 Z Z := zFc_r
  have hG : yFr [99999] Y Y := yFr_r
  unfold zx_214 at hC
  unfold zy_425 at hM
  have q1 := zhd ((fun a b => hDs a1 a b : 0 ≤ a1 → a1 < 6 → _))
  have q2 := zhd (zVr_11_13 (a := 0) hV rfl)
  have q3 := zhd (zVr_11_2 (a := 1200) hV (by omega))
  have q4 := zhd ((zRl_11_2 (a := 1200) hRa (by omega)))
  rcases zE_c hC with ⟨h5, hC⟩ | ⟨h5, hC⟩
  · replace hC := zE_p hC (by first | (have q1 := zhx q1; have q2 := zhx q2; have q3 := zhx q3; have q4 := zhx q4; omega) | (simp only [zhx q1, zhx q2, zhx q3, zhx q4] at h5 ⊢ <;> omega))
    obtain ⟨v7, g6, hC⟩ := zl_x hC
    replace g6 : zE _ _ := g6
    unfold zf_183 at g6
    replace g6 := zE_n g6 (by first | (have q1 := zhx q1; have q2 := zhx q2; have q3 := zhx q3; have q4 := zhx q4; omega) | (simp only [zhx q1, zhx q2, zhx q3, zhx q4] at h5 ⊢ <;> omega))
    obtain ⟨v8, hv8, g6⟩ := zl_x g6
    have q9 := zhd (show v8 = (zf_488 Y a1) from hv8.trans (rr_182 hRa hV hN1 (by first | (have q1 := zhx q1; have q2 := zhx q2; omega) | (have q1 := zhx q1; have q2 := zhx q2; have q3 := zhx q3; have q4 := zhx q4; omega)) rfl rfl))
    have e9 : v8 = v7 := Eq.symm g6
    subst e9
    replace hM := zE_n hM (by first | (have q1 := zhx q1; have q2 := zhx q2; have q3 := zhx q3; have q4 := zhx q4; omega) | (simp only [zhx q1, zhx q2, zhx q3, zhx q4] at h5 ⊢ <;> omega))
    replace hM := zE_n hM (by first | (have q1 := zhx q1; have q2 := zhx q2; have q3 := zhx q3; have q4 := zhx q4; omega) | (simp only [zhx q1, zhx q2, zhx q3, zhx q4] at h5 ⊢ <;> omega))
    obtain ⟨Ym10, hYm10, hM⟩ := zl_x hM
    have hR11 : zRx [] 0 Z Ym10 := zRx_o hRb hYm10 rfl
    have hV12 : zV Ym10 := zV_o hV hYm10 rfl
    have hG13 := yFr_o hG hYm10 rfl (.inr rfl) rfl
    replace hM := zE_n hM (by first | (have q1 := zhx q1; have q2 := zhx q2; have q3 := zhx q3; have q4 := zhx q4; omega) | (simp only [zhx q1, zhx q2, zhx q3, zhx q4] at h5 ⊢ <;> omega))
    replace hM := zE_n hM (by first | (have q1 := zhx q1; have q2 := zhx q2; have q3 := zhx q3; have q4 := zhx q4; omega) | (simp only [zhx q1, zhx q2, zhx q3, zhx q4] at h5 ⊢ <;> omega))
    obtain ⟨Ym14, hYm14, hM⟩ := zl_x hM
    have hR15 : zRx [] 0 Z Ym14 := zRx_o hR11 hYm14 rfl
    have hV16 : zV Ym14 := zV_o hV12 hYm14 rfl
    have hG17 := yFr_o hG13 hYm14 rfl (.inr rfl) rfl
    obtain ⟨v19, g18, hM⟩ := zl_x hM
    replace g18 : zE _ _ := g18
    unfold zf_475 at g18
    replace g18 := zE_n g18 (by first | (have q1 := zhx q1; have q2 := zhx q2; have q3 := zhx q3; have q4 := zhx q4; omega) | (simp only [zhx q1, zhx q2, zhx q3, zhx q4] at h5 ⊢ <;> omega))
    replace g18 := zE_p g18 (by first | (have q1 := zhx q1; have q2 := zhx q2; have q3 := zhx q3; have q4 := zhx q4; omega) | (simp only [zhx q1, zhx q2, zhx q3, zhx q4] at h5 ⊢ <;> omega))
    obtain ⟨v20, hv20, g18⟩ := zl_x g18
    have q21 := zhd (show v8 = (zf_488 Ym14 a1) from hv8.trans (rr_182 (zRx_1 hR15) hV16 (zN1_f hN1 hG17.1 ⟨rfl, rfl, rfl, rfl⟩) (by first | (have q1 := zhx q1; have q2 := zhx q2; omega) | (have q1 := zhx q1; have q2 := zhx q2; have q3 := zhx q3; have q4 := zhx q4; omega)) rfl rfl))
    have q22 := zhd (hv20)
    have e9 : v20 = v19 := Eq.symm g18
    subst e9
    have th9 := (zu_at hYm14)
    obtain rfl : C = _ := hC
    obtain rfl : M = _ := hM
    exact ⟨zRx_1 hR15, hV16, ⟨Z, _, .inl ⟨rfl, yFr_w hG17 (by decide)⟩, zFc_r, yFr_r⟩, zThr_a th9 (by first | rfl | (have q1 := zhx q1; have q2 := zhx q2; have q3 := zhx q3; have q4 := zhx q4; have q9 := zhx q9; have q21 := zhx q21; have q22 := zhx q22; omega) | (simp only [zhx q1, zhx q2, zhx q3, zhx q4, zhx q9, zhx q21, zhx q22] <;> omega) | (have q1 := zhx q1; have q2 := zhx q2; have q3 := zhx q3; have q4 := zhx q4; have q9 := zhx q9; have q21 := zhx q21; have q22 := zhx q22; refine w3z ?_ ?_ ?_ <;> omega) | (have q1 := zhx q1; have q2 := zhx q2; have q3 := zhx q3; have q4 := zhx q4; have q9 := zhx q9; have q21 := zhx q21; have q22 := zhx q22; refine w3y ?_ ?_ ?_ <;> omega) | (have q1 := zhx q1; have q2 := zhx q2; have q3 := zhx q3; have q4 := zhx q4; have q9 := zhx q9; have q21 := zhx q21; have q22 := zhx q22; refine z2o ?_ ?_ ?_ <;> omega))⟩
  · rcases zE_c hM with ⟨h23, hM⟩ | ⟨h23, hM⟩
    · obtain ⟨Ym24, hYm24, hM⟩ := zl_x hM
      have hR25 : zRx [] 0 Z Ym24 := zRx_o hRb hYm24 rfl
      have hV26 : zV Ym24 := zV_o hV hYm24 rfl
      have hG27 := yFr_o hG hYm24 rfl (.inr rfl) rfl
      have th9 := (zu_at hYm24)
      obtain rfl : C = _ := hC
      obtain rfl : M = _ := hM
      exact ⟨zRx_1 hR25, hV26, ⟨Z, _, .inl ⟨rfl, yFr_w hG27 (by decide)⟩, zFc_r, yFr_r⟩, zThr_e th9 (by decide)⟩
    · rcases zE_c hM with ⟨h28, hM⟩ | ⟨h28, hM⟩
      · obtain ⟨Ym29, hYm29, hM⟩ := zl_x hM
        have hR30 : zRx [] 0 Z Ym29 := zRx_o hRb hYm29 rfl
        have hV31 : zV Ym29 := zV_o hV hYm29 rfl
        have hG32 := yFr_o hG hYm29 rfl (.inr rfl) rfl
        have th9 := (zu_at hYm29)
        obtain rfl : C = _ := hC
        obtain rfl : M = _ := hM
        exact ⟨zRx_1 hR30, hV31, ⟨Z, _, .inl ⟨rfl, yFr_w hG32 (by decide)⟩, zFc_r, yFr_r⟩, zThr_e th9 (by decide)⟩
      · obtain ⟨Ym33, hYm33, hM⟩ := zl_x hM
        have hR34 : zRx [] 0 Z Ym33 := zRx_o hRb hYm33 rfl
        have hV35 : zV Ym33 := zV_o hV hYm33 rfl
        have hG36 := yFr_o hG hYm33 rfl (.inr rfl) rfl
        replace hM := zE_n hM (by first | (have q1 := zhx q1; have q2 := zhx q2; have q3 := zhx q3; have q4 := zhx q4; omega) | (simp only [zhx q1, zhx q2, zhx q3, zhx q4] at h5 h23 h28 ⊢ <;> omega))
        replace hM := zE_n hM (by first | (have q1 := zhx q1; have q2 := zhx q2; have q3 := zhx q3; have q4 := zhx q4; omega) | (simp only [zhx q1, zhx q2, zhx q3, zhx q4] at h5 h23 h28 ⊢ <;> omega))
        obtain ⟨Ym37, hYm37, hM⟩ := zl_x hM
        have hR38 : zRx [] 0 Z Ym37 := zRx_o hR34 hYm37 rfl
        have hV39 : zV Ym37 := zV_o hV35 hYm37 rfl
        have hG40 := yFr_o hG36 hYm37 rfl (.inr rfl) rfl
        obtain ⟨v42, g41, hM⟩ := zl_x hM
        replace g41 : zE _ _ := g41
        unfold zf_475 at g41
        replace g41 := zE_n g41 (by first | (have q1 := zhx q1; have q2 := zhx q2; have q3 := zhx q3; have q4 := zhx q4; omega) | (simp only [zhx q1, zhx q2, zhx q3, zhx q4] at h5 h23 h28 ⊢ <;> omega))
        replace g41 := zE_p g41 (by first | (have q1 := zhx q1; have q2 := zhx q2; have q3 := zhx q3; have q4 := zhx q4; omega) | (simp only [zhx q1, zhx q2, zhx q3, zhx q4] at h5 h23 h28 ⊢ <;> omega))
        obtain ⟨v43, hv43, g41⟩ := zl_x g41
        have e9 : v43 = v42 := Eq.symm g41
        subst e9
        exact False.elim (by have q1 := zhx q1; have q2 := zhx q2; have q3 := zhx q3; have q4 := zhx q4; first | omega | grind)

/- face kept_7 -/
theorem rf_kept_7 {Z Y : qz_Z} {dm : qz_Z → Int → Int → Int → Int → Int → Int → Int → qz_Z} {a1 : Int} (hRa : zR 0 Z Y) (hV : zV Y) (hI : zI none Z) (hd : zDf dm) (hD1 : zD1 0 Z Y) (hD4 : zD4 0 Z Y) (hN1 : zN1 Y) (hN4 : zN4 Y) (hDs : zDs 0 Z Y) (hDw : zDw 0 Z Y) (hDl : zDl 0 Z Y)  {C : qz_Z × Int × Int} {M : qz_Z × Int} (hC : zE C (zx_214 Z a1 7)) (hM : zE M (zy_425 Y a1 7)) : zR 0 C.1 M.1 ∧ zV M.1 ∧ zDd [] [99999] Z Y dm C.1 M.1 ∧ zThr [(24, 1), (13, 2)] C.2 (M.1 1 0 0 2) M.2 := by
  have hRb := zRx_0 hRa
  have hF : zFc [] 0 Z Z := zFc_r
  have hG : yFr [99999] Y Y := yFr_r
  unfold zx_214 at hC
  unfold zy_425 at hM
  have q1 := zhd ((fun a b => hDs a1 a b : 0 ≤ a1 → a1 < 6 → _))
  have q2 := zhd (zVr_11_13 (a := 0) hV rfl)
  have q3 := zhd (zVr_11_2 (a := 1200) hV (by omega))
  have q4 := zhd ((zRl_11_2 (a := 1200) hRa (by omega)))
  rcases zE_c hC with ⟨h5, hC⟩ | ⟨h5, hC⟩
  · replace hC := zE_p hC (by first | (have q1 := zhx q1; have q2 := zhx q2; have q3 := zhx q3; have q4 := zhx q4; omega) | (simp only [zhx q1, zhx q2, zhx q3, zhx q4] at h5 ⊢ <;> omega))
    obtain ⟨v7, g6, hC⟩ := zl_x hC
    replace g6 : zE _ _ := g6
    unfold zf_183 at g6
    replace g6 := zE_p g6 (by first | (have q1 := zhx q1; have q2 := zhx q2; have q3 := zhx q3; have q4 := zhx q4; omega) | (simp only [zhx q1, zhx q2, zhx q3, zhx q4] at h5 ⊢ <;> omega))
    replace g6 := zE_p g6 (by first | (have q1 := zhx q1; have q2 := zhx q2; have q3 := zhx q3; have q4 := zhx q4; omega) | (simp only [zhx q1, zhx q2, zhx q3, zhx q4] at h5 ⊢ <;> omega))
    have q8 := zhd ((zRl_43_7 (x := a1) (a := 1216 + 12 * a1) hRa (by first | (have q1 := zhx q1; have q2 := zhx q2; omega) | (have q1 := zhx q1; have q2 := zhx q2; have q3 := zhx q3; have q4 := zhx q4; omega)) (by first | (have q1 := zhx q1; have q2 := zhx q2; omega) | (have q1 := zhx q1; have q2 := zhx q2; have q3 := zhx q3; have q4 := zhx q4; omega)) (by first | (have q1 := zhx q1; have q2 := zhx q2; omega) | (have q1 := zhx q1; have q2 := zhx q2; have q3 := zhx q3; have q4 := zhx q4; omega))))
    have e9 : (Z 43 0 a1 7) = v7 := Eq.symm g6
    subst e9
    replace hM := zE_n hM (by first | (have q1 := zhx q1; have q2 := zhx q2; have q3 := zhx q3; have q4 := zhx q4; omega) | (simp only [zhx q1, zhx q2, zhx q3, zhx q4] at h5 ⊢ <;> omega))
    replace hM := zE_n hM (by first | (have q1 := zhx q1; have q2 := zhx q2; have q3 := zhx q3; have q4 := zhx q4; omega) | (simp only [zhx q1, zhx q2, zhx q3, zhx q4] at h5 ⊢ <;> omega))
    obtain ⟨Ym9, hYm9, hM⟩ := zl_x hM
    have hR10 : zRx [] 0 Z Ym9 := zRx_o hRb hYm9 rfl
    have hV11 : zV Ym9 := zV_o hV hYm9 rfl
    have hG12 := yFr_o hG hYm9 rfl (.inr rfl) rfl
    replace hM := zE_n hM (by first | (have q1 := zhx q1; have q2 := zhx q2; have q3 := zhx q3; have q4 := zhx q4; omega) | (simp only [zhx q1, zhx q2, zhx q3, zhx q4] at h5 ⊢ <;> omega))
    replace hM := zE_n hM (by first | (have q1 := zhx q1; have q2 := zhx q2; have q3 := zhx q3; have q4 := zhx q4; omega) | (simp only [zhx q1, zhx q2, zhx q3, zhx q4] at h5 ⊢ <;> omega))
    obtain ⟨Ym13, hYm13, hM⟩ := zl_x hM
    have hR14 : zRx [] 0 Z Ym13 := zRx_o hR10 hYm13 rfl
    have hV15 : zV Ym13 := zV_o hV11 hYm13 rfl
    have hG16 := yFr_o hG12 hYm13 rfl (.inr rfl) rfl
    obtain ⟨v18, g17, hM⟩ := zl_x hM
    replace g17 : zE _ _ := g17
    unfold zf_475 at g17
    replace g17 := zE_n g17 (by first | (have q1 := zhx q1; have q2 := zhx q2; have q3 := zhx q3; have q4 := zhx q4; omega) | (simp only [zhx q1, zhx q2, zhx q3, zhx q4] at h5 ⊢ <;> omega))
    replace g17 := zE_n g17 (by first | (have q1 := zhx q1; have q2 := zhx q2; have q3 := zhx q3; have q4 := zhx q4; omega) | (simp only [zhx q1, zhx q2, zhx q3, zhx q4] at h5 ⊢ <;> omega))
    replace g17 := zE_p g17 (by first | (have q1 := zhx q1; have q2 := zhx q2; have q3 := zhx q3; have q4 := zhx q4; omega) | (simp only [zhx q1, zhx q2, zhx q3, zhx q4] at h5 ⊢ <;> omega))
    have q19 := zhd (((zu_ne (k' := 2) (b' := 0) (i' := 0) (j' := 1216 + 12 * a1) hYm13 (fun q => absurd q.1 (by decide))).trans (zu_ne (k' := 2) (b' := 0) (i' := 0) (j' := 1216 + 12 * a1) hYm9 (fun q => absurd q.1 (by decide)))))
    have e9 : (Ym13 2 0 0 (1216 + 12 * a1)) = v18 := Eq.symm g17
    subst e9
    have th9 := (zu_at hYm13)
    obtain rfl : C = _ := hC
    obtain rfl : M = _ := hM
    exact ⟨zRx_1 hR14, hV15, ⟨Z, _, .inl ⟨rfl, yFr_w hG16 (by decide)⟩, zFc_r, yFr_r⟩, zThr_a th9 (by first | rfl | (have q1 := zhx q1; have q2 := zhx q2; have q3 := zhx q3; have q4 := zhx q4; have q8 := zhx q8; have q19 := zhx q19; omega) | (simp only [zhx q1, zhx q2, zhx q3, zhx q4, zhx q8, zhx q19] <;> omega) | (have q1 := zhx q1; have q2 := zhx q2; have q3 := zhx q3; have q4 := zhx q4; have q8 := zhx q8; have q19 := zhx q19; refine w3z ?_ ?_ ?_ <;> omega) | (have q1 := zhx q1; have q2 := zhx q2; have q3 := zhx q3; have q4 := zhx q4; have q8 := zhx q8; have q19 := zhx q19; refine w3y ?_ ?_ ?_ <;> omega) | (have q1 := zhx q1; have q2 := zhx q2; have q3 := zhx q3; have q4 := zhx q4; have q8 := zhx q8; have q19 := zhx q19; refine z2o ?_ ?_ ?_ <;> omega))⟩
  · rcases zE_c hM with ⟨h20, hM⟩ | ⟨h20, hM⟩
    · obtain ⟨Ym21, hYm21, hM⟩ := zl_x hM
      have hR22 : zRx [] 0 Z Ym21 := zRx_o hRb hYm21 rfl
      have hV23 : zV Ym21 := zV_o hV hYm21 rfl
      have hG24 := yFr_o hG hYm21 rfl (.inr rfl) rfl
      have th9 := (zu_at hYm21)
      obtain rfl : C = _ := hC
      obtain rfl : M = _ := hM
      exact ⟨zRx_1 hR22, hV23, ⟨Z, _, .inl ⟨rfl, yFr_w hG24 (by decide)⟩, zFc_r, yFr_r⟩, zThr_e th9 (by decide)⟩
    · rcases zE_c hM with ⟨h25, hM⟩ | ⟨h25, hM⟩
      · obtain ⟨Ym26, hYm26, hM⟩ := zl_x hM
        have hR27 : zRx [] 0 Z Ym26 := zRx_o hRb hYm26 rfl
        have hV28 : zV Ym26 := zV_o hV hYm26 rfl
        have hG29 := yFr_o hG hYm26 rfl (.inr rfl) rfl
        have th9 := (zu_at hYm26)
        obtain rfl : C = _ := hC
        obtain rfl : M = _ := hM
        exact ⟨zRx_1 hR27, hV28, ⟨Z, _, .inl ⟨rfl, yFr_w hG29 (by decide)⟩, zFc_r, yFr_r⟩, zThr_e th9 (by decide)⟩
      · obtain ⟨Ym30, hYm30, hM⟩ := zl_x hM
        have hR31 : zRx [] 0 Z Ym30 := zRx_o hRb hYm30 rfl
        have hV32 : zV Ym30 := zV_o hV hYm30 rfl
        have hG33 := yFr_o hG hYm30 rfl (.inr rfl) rfl
        replace hM := zE_n hM (by first | (have q1 := zhx q1; have q2 := zhx q2; have q3 := zhx q3; have q4 := zhx q4; omega) | (simp only [zhx q1, zhx q2, zhx q3, zhx q4] at h5 h20 h25 ⊢ <;> omega))
        replace hM := zE_n hM (by first | (have q1 := zhx q1; have q2 := zhx q2; have q3 := zhx q3; have q4 := zhx q4; omega) | (simp only [zhx q1, zhx q2, zhx q3, zhx q4] at h5 h20 h25 ⊢ <;> omega))
        obtain ⟨Ym34, hYm34, hM⟩ := zl_x hM
        have hR35 : zRx [] 0 Z Ym34 := zRx_o hR31 hYm34 rfl
        have hV36 : zV Ym34 := zV_o hV32 hYm34 rfl
        have hG37 := yFr_o hG33 hYm34 rfl (.inr rfl) rfl
        obtain ⟨v39, g38, hM⟩ := zl_x hM
        replace g38 : zE _ _ := g38
        unfold zf_475 at g38
        replace g38 := zE_n g38 (by first | (have q1 := zhx q1; have q2 := zhx q2; have q3 := zhx q3; have q4 := zhx q4; omega) | (simp only [zhx q1, zhx q2, zhx q3, zhx q4] at h5 h20 h25 ⊢ <;> omega))
        replace g38 := zE_n g38 (by first | (have q1 := zhx q1; have q2 := zhx q2; have q3 := zhx q3; have q4 := zhx q4; omega) | (simp only [zhx q1, zhx q2, zhx q3, zhx q4] at h5 h20 h25 ⊢ <;> omega))
        replace g38 := zE_p g38 (by first | (have q1 := zhx q1; have q2 := zhx q2; have q3 := zhx q3; have q4 := zhx q4; omega) | (simp only [zhx q1, zhx q2, zhx q3, zhx q4] at h5 h20 h25 ⊢ <;> omega))
        have q40 := zhd (((zu_ne (k' := 2) (b' := 0) (i' := 0) (j' := 1216 + 12 * a1) hYm34 (fun q => absurd q.1 (by decide))).trans (zu_ne (k' := 2) (b' := 0) (i' := 0) (j' := 1216 + 12 * a1) hYm30 (fun q => absurd q.1 (by decide)))))
        have e9 : (Ym34 2 0 0 (1216 + 12 * a1)) = v39 := Eq.symm g38
        subst e9
        exact False.elim (by have q1 := zhx q1; have q2 := zhx q2; have q3 := zhx q3; have q4 := zhx q4; first | omega | grind)

/- face kept_8 -/
theorem rf_kept_8 {Z Y : qz_Z} {dm : qz_Z → Int → Int → Int → Int → Int → Int → Int → qz_Z} {a1 : Int} (hRa : zR 0 Z Y) (hV : zV Y) (hI : zI none Z) (hd : zDf dm) (hD1 : zD1 0 Z Y) (hD4 : zD4 0 Z Y) (hN1 : zN1 Y) (hN4 : zN4 Y) (hDs : zDs 0 Z Y) (hDw : zDw 0 Z Y) (hDl : zDl 0 Z Y)  {C : qz_Z × Int × Int} {M : qz_Z × Int} (hC : zE C (zx_214 Z a1 8)) (hM : zE M (zy_425 Y a1 8)) : zR 0 C.1 M.1 ∧ zV M.1 ∧ zDd [] [99999] Z Y dm C.1 M.1 ∧ zThr [(24, 1), (13, 2)] C.2 (M.1 1 0 0 2) M.2 := by
  have hRb := zRx_0 hRa
  have hF : zFc [] 0 Z Z := zFc_r
  have hG : yFr [99999] Y Y := yFr_r
  unfold zx_214 at hC
  unfold zy_425 at hM
  have q1 := zhd ((fun a b => hDs a1 a b : 0 ≤ a1 → a1 < 6 → _))
  have q2 := zhd (zVr_11_13 (a := 0) hV rfl)
  have q3 := zhd (zVr_11_2 (a := 1200) hV (by omega))
  have q4 := zhd ((zRl_11_2 (a := 1200) hRa (by omega)))
  rcases zE_c hC with ⟨h5, hC⟩ | ⟨h5, hC⟩
  · replace hC := zE_p hC (by first | (have q1 := zhx q1; have q2 := zhx q2; have q3 := zhx q3; have q4 := zhx q4; omega) | (simp only [zhx q1, zhx q2, zhx q3, zhx q4] at h5 ⊢ <;> omega))
    obtain ⟨v7, g6, hC⟩ := zl_x hC
    replace g6 : zE _ _ := g6
    unfold zf_183 at g6
    replace g6 := zE_p g6 (by first | (have q1 := zhx q1; have q2 := zhx q2; have q3 := zhx q3; have q4 := zhx q4; omega) | (simp only [zhx q1, zhx q2, zhx q3, zhx q4] at h5 ⊢ <;> omega))
    replace g6 := zE_p g6 (by first | (have q1 := zhx q1; have q2 := zhx q2; have q3 := zhx q3; have q4 := zhx q4; omega) | (simp only [zhx q1, zhx q2, zhx q3, zhx q4] at h5 ⊢ <;> omega))
    have q8 := zhd ((zRl_43_8 (x := a1) (a := 1217 + 12 * a1) hRa (by first | (have q1 := zhx q1; have q2 := zhx q2; omega) | (have q1 := zhx q1; have q2 := zhx q2; have q3 := zhx q3; have q4 := zhx q4; omega)) (by first | (have q1 := zhx q1; have q2 := zhx q2; omega) | (have q1 := zhx q1; have q2 := zhx q2; have q3 := zhx q3; have q4 := zhx q4; omega)) (by first | (have q1 := zhx q1; have q2 := zhx q2; omega) | (have q1 := zhx q1; have q2 := zhx q2; have q3 := zhx q3; have q4 := zhx q4; omega))))
    have e9 : (Z 43 0 a1 8) = v7 := Eq.symm g6
    subst e9
    replace hM := zE_n hM (by first | (have q1 := zhx q1; have q2 := zhx q2; have q3 := zhx q3; have q4 := zhx q4; omega) | (simp only [zhx q1, zhx q2, zhx q3, zhx q4] at h5 ⊢ <;> omega))
    replace hM := zE_n hM (by first | (have q1 := zhx q1; have q2 := zhx q2; have q3 := zhx q3; have q4 := zhx q4; omega) | (simp only [zhx q1, zhx q2, zhx q3, zhx q4] at h5 ⊢ <;> omega))
    obtain ⟨Ym9, hYm9, hM⟩ := zl_x hM
    have hR10 : zRx [] 0 Z Ym9 := zRx_o hRb hYm9 rfl
    have hV11 : zV Ym9 := zV_o hV hYm9 rfl
    have hG12 := yFr_o hG hYm9 rfl (.inr rfl) rfl
    replace hM := zE_n hM (by first | (have q1 := zhx q1; have q2 := zhx q2; have q3 := zhx q3; have q4 := zhx q4; omega) | (simp only [zhx q1, zhx q2, zhx q3, zhx q4] at h5 ⊢ <;> omega))
    replace hM := zE_n hM (by first | (have q1 := zhx q1; have q2 := zhx q2; have q3 := zhx q3; have q4 := zhx q4; omega) | (simp only [zhx q1, zhx q2, zhx q3, zhx q4] at h5 ⊢ <;> omega))
    obtain ⟨Ym13, hYm13, hM⟩ := zl_x hM
    have hR14 : zRx [] 0 Z Ym13 := zRx_o hR10 hYm13 rfl
    have hV15 : zV Ym13 := zV_o hV11 hYm13 rfl
    have hG16 := yFr_o hG12 hYm13 rfl (.inr rfl) rfl
    obtain ⟨v18, g17, hM⟩ := zl_x hM
    replace g17 : zE _ _ := g17
    unfold zf_475 at g17
    replace g17 := zE_n g17 (by first | (have q1 := zhx q1; have q2 := zhx q2; have q3 := zhx q3; have q4 := zhx q4; omega) | (simp only [zhx q1, zhx q2, zhx q3, zhx q4] at h5 ⊢ <;> omega))
    replace g17 := zE_n g17 (by first | (have q1 := zhx q1; have q2 := zhx q2; have q3 := zhx q3; have q4 := zhx q4; omega) | (simp only [zhx q1, zhx q2, zhx q3, zhx q4] at h5 ⊢ <;> omega))
    replace g17 := zE_n g17 (by first | (have q1 := zhx q1; have q2 := zhx q2; have q3 := zhx q3; have q4 := zhx q4; omega) | (simp only [zhx q1, zhx q2, zhx q3, zhx q4] at h5 ⊢ <;> omega))
    replace g17 := zE_p g17 (by first | (have q1 := zhx q1; have q2 := zhx q2; have q3 := zhx q3; have q4 := zhx q4; omega) | (simp only [zhx q1, zhx q2, zhx q3, zhx q4] at h5 ⊢ <;> omega))
    have q19 := zhd (((zu_ne (k' := 2) (b' := 0) (i' := 0) (j' := 1217 + 12 * a1) hYm13 (fun q => absurd q.1 (by decide))).trans (zu_ne (k' := 2) (b' := 0) (i' := 0) (j' := 1217 + 12 * a1) hYm9 (fun q => absurd q.1 (by decide)))))
    have e9 : (Ym13 2 0 0 (1217 + 12 * a1)) = v18 := Eq.symm g17
    subst e9
    have th9 := (zu_at hYm13)
    obtain rfl : C = _ := hC
    obtain rfl : M = _ := hM
    exact ⟨zRx_1 hR14, hV15, ⟨Z, _, .inl ⟨rfl, yFr_w hG16 (by decide)⟩, zFc_r, yFr_r⟩, zThr_a th9 (by first | rfl | (have q1 := zhx q1; have q2 := zhx q2; have q3 := zhx q3; have q4 := zhx q4; have q8 := zhx q8; have q19 := zhx q19; omega) | (simp only [zhx q1, zhx q2, zhx q3, zhx q4, zhx q8, zhx q19] <;> omega) | (have q1 := zhx q1; have q2 := zhx q2; have q3 := zhx q3; have q4 := zhx q4; have q8 := zhx q8; have q19 := zhx q19; refine w3z ?_ ?_ ?_ <;> omega) | (have q1 := zhx q1; have q2 := zhx q2; have q3 := zhx q3; have q4 := zhx q4; have q8 := zhx q8; have q19 := zhx q19; refine w3y ?_ ?_ ?_ <;> omega) | (have q1 := zhx q1; have q2 := zhx q2; have q3 := zhx q3; have q4 := zhx q4; have q8 := zhx q8; have q19 := zhx q19; refine z2o ?_ ?_ ?_ <;> omega))⟩
  · rcases zE_c hM with ⟨h20, hM⟩ | ⟨h20, hM⟩
    · obtain ⟨Ym21, hYm21, hM⟩ := zl_x hM
      have hR22 : zRx [] 0 Z Ym21 := zRx_o hRb hYm21 rfl
      have hV23 : zV Ym21 := zV_o hV hYm21 rfl
      have hG24 := yFr_o hG hYm21 rfl (.inr rfl) rfl
      have th9 := (zu_at hYm21)
      obtain rfl : C = _ := hC
      obtain rfl : M = _ := hM
      exact ⟨zRx_1 hR22, hV23, ⟨Z, _, .inl ⟨rfl, yFr_w hG24 (by decide)⟩, zFc_r, yFr_r⟩, zThr_e th9 (by decide)⟩
    · rcases zE_c hM with ⟨h25, hM⟩ | ⟨h25, hM⟩
      · obtain ⟨Ym26, hYm26, hM⟩ := zl_x hM
        have hR27 : zRx [] 0 Z Ym26 := zRx_o hRb hYm26 rfl
        have hV28 : zV Ym26 := zV_o hV hYm26 rfl
        have hG29 := yFr_o hG hYm26 rfl (.inr rfl) rfl
        have th9 := (zu_at hYm26)
        obtain rfl : C = _ := hC
        obtain rfl : M = _ := hM
        exact ⟨zRx_1 hR27, hV28, ⟨Z, _, .inl ⟨rfl, yFr_w hG29 (by decide)⟩, zFc_r, yFr_r⟩, zThr_e th9 (by decide)⟩
      · obtain ⟨Ym30, hYm30, hM⟩ := zl_x hM
        have hR31 : zRx [] 0 Z Ym30 := zRx_o hRb hYm30 rfl
        have hV32 : zV Ym30 := zV_o hV hYm30 rfl
        have hG33 := yFr_o hG hYm30 rfl (.inr rfl) rfl
        replace hM := zE_n hM (by first | (have q1 := zhx q1; have q2 := zhx q2; have q3 := zhx q3; have q4 := zhx q4; omega) | (simp only [zhx q1, zhx q2, zhx q3, zhx q4] at h5 h20 h25 ⊢ <;> omega))
        replace hM := zE_n hM (by first | (have q1 := zhx q1; have q2 := zhx q2; have q3 := zhx q3; have q4 := zhx q4; omega) | (simp only [zhx q1, zhx q2, zhx q3, zhx q4] at h5 h20 h25 ⊢ <;> omega))
        obtain ⟨Ym34, hYm34, hM⟩ := zl_x hM
        have hR35 : zRx [] 0 Z Ym34 := zRx_o hR31 hYm34 rfl
        have hV36 : zV Ym34 := zV_o hV32 hYm34 rfl
        have hG37 := yFr_o hG33 hYm34 rfl (.inr rfl) rfl
        obtain ⟨v39, g38, hM⟩ := zl_x hM
        replace g38 : zE _ _ := g38
        unfold zf_475 at g38
        replace g38 := zE_n g38 (by first | (have q1 := zhx q1; have q2 := zhx q2; have q3 := zhx q3; have q4 := zhx q4; omega) | (simp only [zhx q1, zhx q2, zhx q3, zhx q4] at h5 h20 h25 ⊢ <;> omega))
        replace g38 := zE_n g38 (by first | (have q1 := zhx q1; have q2 := zhx q2; have q3 := zhx q3; have q4 := zhx q4; omega) | (simp only [zhx q1, zhx q2, zhx q3, zhx q4] at h5 h20 h25 ⊢ <;> omega))
        replace g38 := zE_n g38 (by first | (have q1 := zhx q1; have q2 := zhx q2; have q3 := zhx q3; have q4 := zhx q4; omega) | (simp only [zhx q1, zhx q2, zhx q3, zhx q4] at h5 h20 h25 ⊢ <;> omega))
        replace g38 := zE_p g38 (by first | (have q1 := zhx q1; have q2 := zhx q2; have q3 := zhx q3; have q4 := zhx q4; omega) | (simp only [zhx q1, zhx q2, zhx q3, zhx q4] at h5 h20 h25 ⊢ <;> omega))
        have q40 := zhd (((zu_ne (k' := 2) (b' := 0) (i' := 0) (j' := 1217 + 12 * a1) hYm34 (fun q => absurd q.1 (by decide))).trans (zu_ne (k' := 2) (b' := 0) (i' := 0) (j' := 1217 + 12 * a1) hYm30 (fun q => absurd q.1 (by decide)))))
        have e9 : (Ym34 2 0 0 (1217 + 12 * a1)) = v39 := Eq.symm g38
        subst e9
        exact False.elim (by have q1 := zhx q1; have q2 := zhx q2; have q3 := zhx q3; have q4 := zhx q4; first | omega | grind)

/- face kept_9 -/
theorem rf_kept_9 {Z Y : qz_Z} {dm : qz_Z → Int → Int → Int → Int → Int → Int → Int → qz_Z} {a1 : Int} (hRa : zR 0 Z Y) (hV : zV Y) (hI : zI none Z) (hd : zDf dm) (hD1 : zD1 0 Z Y) (hD4 : zD4 0 Z Y) (hN1 : zN1 Y) (hN4 : zN4 Y) (hDs : zDs 0 Z Y) (hDw : zDw 0 Z Y) (hDl : zDl 0 Z Y)  {C : qz_Z × Int × Int} {M : qz_Z × Int} (hC : zE C (zx_214 Z a1 9)) (hM : zE M (zy_425 Y a1 9)) : zR 0 C.1 M.1 ∧ zV M.1 ∧ zDd [] [99999] Z Y dm C.1 M.1 ∧ zThr [(24, 1), (13, 2)] C.2 (M.1 1 0 0 2) M.2 := by
  have hRb := zRx_0 hRa
  have hF : zFc [] 0 Z Z := zFc_r
  have hG : yFr [99999] Y Y := yFr_r
  unfold zx_214 at hC
  unfold zy_425 at hM
  have q1 := zhd ((fun a b => hDs a1 a b : 0 ≤ a1 → a1 < 6 → _))
  have q2 := zhd (zVr_11_13 (a := 0) hV rfl)
  have q3 := zhd (zVr_11_2 (a := 1200) hV (by omega))
  have q4 := zhd ((zRl_11_2 (a := 1200) hRa (by omega)))
  rcases zE_c hC with ⟨h5, hC⟩ | ⟨h5, hC⟩
  · replace hC := zE_p hC (by first | (have q1 := zhx q1; have q2 := zhx q2; have q3 := zhx q3; have q4 := zhx q4; omega) | (simp only [zhx q1, zhx q2, zhx q3, zhx q4] at h5 ⊢ <;> omega))
    obtain ⟨v7, g6, hC⟩ := zl_x hC
    replace g6 : zE _ _ := g6
    unfold zf_183 at g6
    replace g6 := zE_p g6 (by first | (have q1 := zhx q1; have q2 := zhx q2; have q3 := zhx q3; have q4 := zhx q4; omega) | (simp only [zhx q1, zhx q2, zhx q3, zhx q4] at h5 ⊢ <;> omega))
    replace g6 := zE_p g6 (by first | (have q1 := zhx q1; have q2 := zhx q2; have q3 := zhx q3; have q4 := zhx q4; omega) | (simp only [zhx q1, zhx q2, zhx q3, zhx q4] at h5 ⊢ <;> omega))
    have q8 := zhd ((zRl_43_9 (x := a1) (a := 1218 + 12 * a1) hRa (by first | (have q1 := zhx q1; have q2 := zhx q2; omega) | (have q1 := zhx q1; have q2 := zhx q2; have q3 := zhx q3; have q4 := zhx q4; omega)) (by first | (have q1 := zhx q1; have q2 := zhx q2; omega) | (have q1 := zhx q1; have q2 := zhx q2; have q3 := zhx q3; have q4 := zhx q4; omega)) (by first | (have q1 := zhx q1; have q2 := zhx q2; omega) | (have q1 := zhx q1; have q2 := zhx q2; have q3 := zhx q3; have q4 := zhx q4; omega))))
    have e9 : (Z 43 0 a1 9) = v7 := Eq.symm g6
    subst e9
    replace hM := zE_n hM (by first | (have q1 := zhx q1; have q2 := zhx q2; have q3 := zhx q3; have q4 := zhx q4; omega) | (simp only [zhx q1, zhx q2, zhx q3, zhx q4] at h5 ⊢ <;> omega))
    replace hM := zE_n hM (by first | (have q1 := zhx q1; have q2 := zhx q2; have q3 := zhx q3; have q4 := zhx q4; omega) | (simp only [zhx q1, zhx q2, zhx q3, zhx q4] at h5 ⊢ <;> omega))
    obtain ⟨Ym9, hYm9, hM⟩ := zl_x hM
    have hR10 : zRx [] 0 Z Ym9 := zRx_o hRb hYm9 rfl
    have hV11 : zV Ym9 := zV_o hV hYm9 rfl
    have hG12 := yFr_o hG hYm9 rfl (.inr rfl) rfl
    replace hM := zE_n hM (by first | (have q1 := zhx q1; have q2 := zhx q2; have q3 := zhx q3; have q4 := zhx q4; omega) | (simp only [zhx q1, zhx q2, zhx q3, zhx q4] at h5 ⊢ <;> omega))
    replace hM := zE_n hM (by first | (have q1 := zhx q1; have q2 := zhx q2; have q3 := zhx q3; have q4 := zhx q4; omega) | (simp only [zhx q1, zhx q2, zhx q3, zhx q4] at h5 ⊢ <;> omega))
    obtain ⟨Ym13, hYm13, hM⟩ := zl_x hM
    have hR14 : zRx [] 0 Z Ym13 := zRx_o hR10 hYm13 rfl
    have hV15 : zV Ym13 := zV_o hV11 hYm13 rfl
    have hG16 := yFr_o hG12 hYm13 rfl (.inr rfl) rfl
    obtain ⟨v18, g17, hM⟩ := zl_x hM
    replace g17 : zE _ _ := g17
    unfold zf_475 at g17
    replace g17 := zE_n g17 (by first | (have q1 := zhx q1; have q2 := zhx q2; have q3 := zhx q3; have q4 := zhx q4; omega) | (simp only [zhx q1, zhx q2, zhx q3, zhx q4] at h5 ⊢ <;> omega))
    replace g17 := zE_n g17 (by first | (have q1 := zhx q1; have q2 := zhx q2; have q3 := zhx q3; have q4 := zhx q4; omega) | (simp only [zhx q1, zhx q2, zhx q3, zhx q4] at h5 ⊢ <;> omega))
    replace g17 := zE_n g17 (by first | (have q1 := zhx q1; have q2 := zhx q2; have q3 := zhx q3; have q4 := zhx q4; omega) | (simp only [zhx q1, zhx q2, zhx q3, zhx q4] at h5 ⊢ <;> omega))
    replace g17 := zE_n g17 (by first | (have q1 := zhx q1; have q2 := zhx q2; have q3 := zhx q3; have q4 := zhx q4; omega) | (simp only [zhx q1, zhx q2, zhx q3, zhx q4] at h5 ⊢ <;> omega))
    replace g17 := zE_p g17 (by first | (have q1 := zhx q1; have q2 := zhx q2; have q3 := zhx q3; have q4 := zhx q4; omega) | (simp only [zhx q1, zhx q2, zhx q3, zhx q4] at h5 ⊢ <;> omega))
    have q19 := zhd (((zu_ne (k' := 2) (b' := 0) (i' := 0) (j' := 1218 + 12 * a1) hYm13 (fun q => absurd q.1 (by decide))).trans (zu_ne (k' := 2) (b' := 0) (i' := 0) (j' := 1218 + 12 * a1) hYm9 (fun q => absurd q.1 (by decide)))))
    have e9 : (Ym13 2 0 0 (1218 + 12 * a1)) = v18 := Eq.symm g17
    subst e9
    have th9 := (zu_at hYm13)
    obtain rfl : C = _ := hC
    obtain rfl : M = _ := hM
    exact ⟨zRx_1 hR14, hV15, ⟨Z, _, .inl ⟨rfl, yFr_w hG16 (by decide)⟩, zFc_r, yFr_r⟩, zThr_a th9 (by first | rfl | (have q1 := zhx q1; have q2 := zhx q2; have q3 := zhx q3; have q4 := zhx q4; have q8 := zhx q8; have q19 := zhx q19; omega) | (simp only [zhx q1, zhx q2, zhx q3, zhx q4, zhx q8, zhx q19] <;> omega) | (have q1 := zhx q1; have q2 := zhx q2; have q3 := zhx q3; have q4 := zhx q4; have q8 := zhx q8; have q19 := zhx q19; refine w3z ?_ ?_ ?_ <;> omega) | (have q1 := zhx q1; have q2 := zhx q2; have q3 := zhx q3; have q4 := zhx q4; have q8 := zhx q8; have q19 := zhx q19; refine w3y ?_ ?_ ?_ <;> omega) | (have q1 := zhx q1; have q2 := zhx q2; have q3 := zhx q3; have q4 := zhx q4; have q8 := zhx q8; have q19 := zhx q19; refine z2o ?_ ?_ ?_ <;> omega))⟩
  · rcases zE_c hM with ⟨h20, hM⟩ | ⟨h20, hM⟩
    · obtain ⟨Ym21, hYm21, hM⟩ := zl_x hM
      have hR22 : zRx [] 0 Z Ym21 := zRx_o hRb hYm21 rfl
      have hV23 : zV Ym21 := zV_o hV hYm21 rfl
      have hG24 := yFr_o hG hYm21 rfl (.inr rfl) rfl
      have th9 := (zu_at hYm21)
      obtain rfl : C = _ := hC
      obtain rfl : M = _ := hM
      exact ⟨zRx_1 hR22, hV23, ⟨Z, _, .inl ⟨rfl, yFr_w hG24 (by decide)⟩, zFc_r, yFr_r⟩, zThr_e th9 (by decide)⟩
    · rcases zE_c hM with ⟨h25, hM⟩ | ⟨h25, hM⟩
      · obtain ⟨Ym26, hYm26, hM⟩ := zl_x hM
        have hR27 : zRx [] 0 Z Ym26 := zRx_o hRb hYm26 rfl
        have hV28 : zV Ym26 := zV_o hV hYm26 rfl
        have hG29 := yFr_o hG hYm26 rfl (.inr rfl) rfl
        have th9 := (zu_at hYm26)
        obtain rfl : C = _ := hC
        obtain rfl : M = _ := hM
        exact ⟨zRx_1 hR27, hV28, ⟨Z, _, .inl ⟨rfl, yFr_w hG29 (by decide)⟩, zFc_r, yFr_r⟩, zThr_e th9 (by decide)⟩
      · obtain ⟨Ym30, hYm30, hM⟩ := zl_x hM
        have hR31 : zRx [] 0 Z Ym30 := zRx_o hRb hYm30 rfl
        have hV32 : zV Ym30 := zV_o hV hYm30 rfl
        have hG33 := yFr_o hG hYm30 rfl (.inr rfl) rfl
        replace hM := zE_n hM (by first | (have q1 := zhx q1; have q2 := zhx q2; have q3 := zhx q3; have q4 := zhx q4; omega) | (simp only [zhx q1, zhx q2, zhx q3, zhx q4] at h5 h20 h25 ⊢ <;> omega))
        replace hM := zE_n hM (by first | (have q1 := zhx q1; have q2 := zhx q2; have q3 := zhx q3; have q4 := zhx q4; omega) | (simp only [zhx q1, zhx q2, zhx q3, zhx q4] at h5 h20 h25 ⊢ <;> omega))
        obtain ⟨Ym34, hYm34, hM⟩ := zl_x hM
        have hR35 : zRx [] 0 Z Ym34 := zRx_o hR31 hYm34 rfl
        have hV36 : zV Ym34 := zV_o hV32 hYm34 rfl
        have hG37 := yFr_o hG33 hYm34 rfl (.inr rfl) rfl
        obtain ⟨v39, g38, hM⟩ := zl_x hM
        replace g38 : zE _ _ := g38
        unfold zf_475 at g38
        replace g38 := zE_n g38 (by first | (have q1 := zhx q1; have q2 := zhx q2; have q3 := zhx q3; have q4 := zhx q4; omega) | (simp only [zhx q1, zhx q2, zhx q3, zhx q4] at h5 h20 h25 ⊢ <;> omega))
        replace g38 := zE_n g38 (by first | (have q1 := zhx q1; have q2 := zhx q2; have q3 := zhx q3; have q4 := zhx q4; omega) | (simp only [zhx q1, zhx q2, zhx q3, zhx q4] at h5 h20 h25 ⊢ <;> omega))
        replace g38 := zE_n g38 (by first | (have q1 := zhx q1; have q2 := zhx q2; have q3 := zhx q3; have q4 := zhx q4; omega) | (simp only [zhx q1, zhx q2, zhx q3, zhx q4] at h5 h20 h25 ⊢ <;> omega))
        replace g38 := zE_n g38 (by first | (have q1 := zhx q1; have q2 := zhx q2; have q3 := zhx q3; have q4 := zhx q4; omega) | (simp only [zhx q1, zhx q2, zhx q3, zhx q4] at h5 h20 h25 ⊢ <;> omega))
        replace g38 := zE_p g38 (by first | (have q1 := zhx q1; have q2 := zhx q2; have q3 := zhx q3; have q4 := zhx q4; omega) | (simp only [zhx q1, zhx q2, zhx q3, zhx q4] at h5 h20 h25 ⊢ <;> omega))
        have q40 := zhd (((zu_ne (k' := 2) (b' := 0) (i' := 0) (j' := 1218 + 12 * a1) hYm34 (fun q => absurd q.1 (by decide))).trans (zu_ne (k' := 2) (b' := 0) (i' := 0) (j' := 1218 + 12 * a1) hYm30 (fun q => absurd q.1 (by decide)))))
        have e9 : (Ym34 2 0 0 (1218 + 12 * a1)) = v39 := Eq.symm g38
        subst e9
        exact False.elim (by have q1 := zhx q1; have q2 := zhx q2; have q3 := zhx q3; have q4 := zhx q4; first | omega | grind)

/- face kept_10 -/
theorem rf_kept_10 {Z Y : qz_Z} {dm : qz_Z → Int → Int → Int → Int → Int → Int → Int → qz_Z} {a1 : Int} (hRa : zR 0 Z Y) (hV : zV Y) (hI : zI none Z) (hd : zDf dm) (hD1 : zD1 0 Z Y) (hD4 : zD4 0 Z Y) (hN1 : zN1 Y) (hN4 : zN4 Y) (hDs : zDs 0 Z Y) (hDw : zDw 0 Z Y) (hDl : zDl 0 Z Y)  {C : qz_Z × Int × Int} {M : qz_Z × Int} (hC : zE C (zx_214 Z a1 10)) (hM : zE M (zy_425 Y a1 10)) : zR 0 C.1 M.1 ∧ zV M.1 ∧ zDd [] [99999] Z Y dm C.1 M.1 ∧ zThr [(24, 1), (13, 2)] C.2 (M.1 1 0 0 2) M.2 := by
  have hRb := zRx_0 hRa
  have hF : zFc [] 0 Z Z := zFc_r
  have hG : yFr [99999] Y Y := yFr_r
  unfold zx_214 at hC
  unfold zy_425 at hM
  have q1 := zhd ((fun a b => hDs a1 a b : 0 ≤ a1 → a1 < 6 → _))
  have q2 := zhd (zVr_11_13 (a := 0) hV rfl)
  have q3 := zhd (zVr_11_2 (a := 1200) hV (by omega))
  have q4 := zhd ((zRl_11_2 (a := 1200) hRa (by omega)))
  rcases zE_c hC with ⟨h5, hC⟩ | ⟨h5, hC⟩
  · replace hC := zE_p hC (by first | (have q1 := zhx q1; have q2 := zhx q2; have q3 := zhx q3; have q4 := zhx q4; omega) | (simp only [zhx q1, zhx q2, zhx q3, zhx q4] at h5 ⊢ <;> omega))
    obtain ⟨v7, g6, hC⟩ := zl_x hC
    replace g6 : zE _ _ := g6
    unfold zf_183 at g6
    replace g6 := zE_p g6 (by first | (have q1 := zhx q1; have q2 := zhx q2; have q3 := zhx q3; have q4 := zhx q4; omega) | (simp only [zhx q1, zhx q2, zhx q3, zhx q4] at h5 ⊢ <;> omega))
    replace g6 := zE_n g6 (by first | (have q1 := zhx q1; have q2 := zhx q2; have q3 := zhx q3; have q4 := zhx q4; omega) | (simp only [zhx q1, zhx q2, zhx q3, zhx q4] at h5 ⊢ <;> omega))
    replace g6 := zE_n g6 (by first | (have q1 := zhx q1; have q2 := zhx q2; have q3 := zhx q3; have q4 := zhx q4; omega) | (simp only [zhx q1, zhx q2, zhx q3, zhx q4] at h5 ⊢ <;> omega))
    have q8 := zhd (zVr_11_13 (a := 0) hV (by omega))
    have q9 := zhd ((zRl_11_13 (a := 0) hRa (by omega)))
    rcases zE_c g6 with ⟨h10, g6⟩ | ⟨h10, g6⟩
    · have e9 : (-1) = v7 := Eq.symm g6
      subst e9
      replace hM := zE_n hM (by first | (have q1 := zhx q1; have q2 := zhx q2; have q3 := zhx q3; have q4 := zhx q4; have q8 := zhx q8; have q9 := zhx q9; omega) | (simp only [zhx q1, zhx q2, zhx q3, zhx q4, zhx q8, zhx q9] at h5 h10 ⊢ <;> omega))
      replace hM := zE_n hM (by first | (have q1 := zhx q1; have q2 := zhx q2; have q3 := zhx q3; have q4 := zhx q4; have q8 := zhx q8; have q9 := zhx q9; omega) | (simp only [zhx q1, zhx q2, zhx q3, zhx q4, zhx q8, zhx q9] at h5 h10 ⊢ <;> omega))
      obtain ⟨Ym11, hYm11, hM⟩ := zl_x hM
      have hR12 : zRx [] 0 Z Ym11 := zRx_o hRb hYm11 rfl
      have hV13 : zV Ym11 := zV_o hV hYm11 rfl
      have hG14 := yFr_o hG hYm11 rfl (.inr rfl) rfl
      replace hM := zE_n hM (by first | (have q1 := zhx q1; have q2 := zhx q2; have q3 := zhx q3; have q4 := zhx q4; have q8 := zhx q8; have q9 := zhx q9; omega) | (simp only [zhx q1, zhx q2, zhx q3, zhx q4, zhx q8, zhx q9] at h5 h10 ⊢ <;> omega))
      replace hM := zE_n hM (by first | (have q1 := zhx q1; have q2 := zhx q2; have q3 := zhx q3; have q4 := zhx q4; have q8 := zhx q8; have q9 := zhx q9; omega) | (simp only [zhx q1, zhx q2, zhx q3, zhx q4, zhx q8, zhx q9] at h5 h10 ⊢ <;> omega))
      obtain ⟨Ym15, hYm15, hM⟩ := zl_x hM
      have hR16 : zRx [] 0 Z Ym15 := zRx_o hR12 hYm15 rfl
      have hV17 : zV Ym15 := zV_o hV13 hYm15 rfl
      have hG18 := yFr_o hG14 hYm15 rfl (.inr rfl) rfl
      obtain ⟨v20, g19, hM⟩ := zl_x hM
      replace g19 : zE _ _ := g19
      unfold zf_475 at g19
      replace g19 := zE_n g19 (by first | (have q1 := zhx q1; have q2 := zhx q2; have q3 := zhx q3; have q4 := zhx q4; have q8 := zhx q8; have q9 := zhx q9; omega) | (simp only [zhx q1, zhx q2, zhx q3, zhx q4, zhx q8, zhx q9] at h5 h10 ⊢ <;> omega))
      replace g19 := zE_n g19 (by first | (have q1 := zhx q1; have q2 := zhx q2; have q3 := zhx q3; have q4 := zhx q4; have q8 := zhx q8; have q9 := zhx q9; omega) | (simp only [zhx q1, zhx q2, zhx q3, zhx q4, zhx q8, zhx q9] at h5 h10 ⊢ <;> omega))
      replace g19 := zE_n g19 (by first | (have q1 := zhx q1; have q2 := zhx q2; have q3 := zhx q3; have q4 := zhx q4; have q8 := zhx q8; have q9 := zhx q9; omega) | (simp only [zhx q1, zhx q2, zhx q3, zhx q4, zhx q8, zhx q9] at h5 h10 ⊢ <;> omega))
      replace g19 := zE_n g19 (by first | (have q1 := zhx q1; have q2 := zhx q2; have q3 := zhx q3; have q4 := zhx q4; have q8 := zhx q8; have q9 := zhx q9; omega) | (simp only [zhx q1, zhx q2, zhx q3, zhx q4, zhx q8, zhx q9] at h5 h10 ⊢ <;> omega))
      replace g19 := zE_n g19 (by first | (have q1 := zhx q1; have q2 := zhx q2; have q3 := zhx q3; have q4 := zhx q4; have q8 := zhx q8; have q9 := zhx q9; omega) | (simp only [zhx q1, zhx q2, zhx q3, zhx q4, zhx q8, zhx q9] at h5 h10 ⊢ <;> omega))
      obtain ⟨v22, g21, g19⟩ := zl_x g19
      replace g21 : zE _ _ := g21
      unfold zf_390 at g21
      replace g21 := zE_n g21 (by first | (have q1 := zhx q1; have q2 := zhx q2; have q3 := zhx q3; have q4 := zhx q4; have q8 := zhx q8; have q9 := zhx q9; omega) | (simp only [zhx q1, zhx q2, zhx q3, zhx q4, zhx q8, zhx q9] at h5 h10 ⊢ <;> omega))
      rcases zE_c g21 with ⟨h23, g21⟩ | ⟨h23, g21⟩
      · have e9 : 0 = v22 := Eq.symm g21
        subst e9
        replace g19 := zE_p g19 (by first | (have q1 := zhx q1; have q2 := zhx q2; have q3 := zhx q3; have q4 := zhx q4; have q8 := zhx q8; have q9 := zhx q9; omega) | (simp only [zhx q1, zhx q2, zhx q3, zhx q4, zhx q8, zhx q9] at h5 h10 h23 ⊢ <;> omega))
        have e9 : (-1) = v20 := Eq.symm g19
        subst e9
        have th9 := (zu_at hYm15)
        obtain rfl : C = _ := hC
        obtain rfl : M = _ := hM
        exact ⟨zRx_1 hR16, hV17, ⟨Z, _, .inl ⟨rfl, yFr_w hG18 (by decide)⟩, zFc_r, yFr_r⟩, zThr_a th9 (by first | rfl | (have q1 := zhx q1; have q2 := zhx q2; have q3 := zhx q3; have q4 := zhx q4; have q8 := zhx q8; have q9 := zhx q9; omega) | (simp only [zhx q1, zhx q2, zhx q3, zhx q4, zhx q8, zhx q9] <;> omega) | (have q1 := zhx q1; have q2 := zhx q2; have q3 := zhx q3; have q4 := zhx q4; have q8 := zhx q8; have q9 := zhx q9; refine w3z ?_ ?_ ?_ <;> omega) | (have q1 := zhx q1; have q2 := zhx q2; have q3 := zhx q3; have q4 := zhx q4; have q8 := zhx q8; have q9 := zhx q9; refine w3y ?_ ?_ ?_ <;> omega) | (have q1 := zhx q1; have q2 := zhx q2; have q3 := zhx q3; have q4 := zhx q4; have q8 := zhx q8; have q9 := zhx q9; refine z2o ?_ ?_ ?_ <;> omega))⟩
      · have q24 := zhd (((zu_ne (k' := 2) (b' := 0) (i' := 0) (j' := 3510 + a1) hYm15 (fun q => absurd q.1 (by decide))).trans (zu_ne (k' := 2) (b' := 0) (i' := 0) (j' := 3510 + a1) hYm11 (fun q => absurd q.1 (by decide)))))
        have q25 := zhd (((zu_ne (k' := 2) (b' := 0) (i' := 0) (j' := 0) hYm15 (fun q => absurd q.1 (by decide))).trans (zu_ne (k' := 2) (b' := 0) (i' := 0) (j' := 0) hYm11 (fun q => absurd q.1 (by decide)))))
        rcases zE_c g21 with ⟨h26, g21⟩ | ⟨h26, g21⟩
        · have e9 : 0 = v22 := Eq.symm g21
          subst e9
          replace g19 := zE_p g19 (by first | (have q1 := zhx q1; have q2 := zhx q2; have q3 := zhx q3; have q4 := zhx q4; have q8 := zhx q8; have q9 := zhx q9; have q24 := zhx q24; have q25 := zhx q25; omega) | (simp only [zhx q1, zhx q2, zhx q3, zhx q4, zhx q8, zhx q9, zhx q24, zhx q25] at h5 h10 h23 h26 ⊢ <;> omega))
          have e9 : (-1) = v20 := Eq.symm g19
          subst e9
          have th9 := (zu_at hYm15)
          obtain rfl : C = _ := hC
          obtain rfl : M = _ := hM
          exact ⟨zRx_1 hR16, hV17, ⟨Z, _, .inl ⟨rfl, yFr_w hG18 (by decide)⟩, zFc_r, yFr_r⟩, zThr_a th9 (by first | rfl | (have q1 := zhx q1; have q2 := zhx q2; have q3 := zhx q3; have q4 := zhx q4; have q8 := zhx q8; have q9 := zhx q9; have q24 := zhx q24; have q25 := zhx q25; omega) | (simp only [zhx q1, zhx q2, zhx q3, zhx q4, zhx q8, zhx q9, zhx q24, zhx q25] <;> omega) | (have q1 := zhx q1; have q2 := zhx q2; have q3 := zhx q3; have q4 := zhx q4; have q8 := zhx q8; have q9 := zhx q9; have q24 := zhx q24; have q25 := zhx q25; refine w3z ?_ ?_ ?_ <;> omega) | (have q1 := zhx q1; have q2 := zhx q2; have q3 := zhx q3; have q4 := zhx q4; have q8 := zhx q8; have q9 := zhx q9; have q24 := zhx q24; have q25 := zhx q25; refine w3y ?_ ?_ ?_ <;> omega) | (have q1 := zhx q1; have q2 := zhx q2; have q3 := zhx q3; have q4 := zhx q4; have q8 := zhx q8; have q9 := zhx q9; have q24 := zhx q24; have q25 := zhx q25; refine z2o ?_ ?_ ?_ <;> omega))⟩
        · have e9 : 1 = v22 := Eq.symm g21
          subst e9
          replace g19 := zE_n g19 (by first | (have q1 := zhx q1; have q2 := zhx q2; have q3 := zhx q3; have q4 := zhx q4; have q8 := zhx q8; have q9 := zhx q9; have q24 := zhx q24; have q25 := zhx q25; omega) | (simp only [zhx q1, zhx q2, zhx q3, zhx q4, zhx q8, zhx q9, zhx q24, zhx q25] at h5 h10 h23 h26 ⊢ <;> omega))
          have e9 : (Ym15 2 0 0 (3510 + a1)) = v20 := Eq.symm g19
          subst e9
          have th9 := (zu_at hYm15)
          obtain rfl : C = _ := hC
          obtain rfl : M = _ := hM
          exact ⟨zRx_1 hR16, hV17, ⟨Z, _, .inl ⟨rfl, yFr_w hG18 (by decide)⟩, zFc_r, yFr_r⟩, zThr_a th9 (by first | rfl | (have q1 := zhx q1; have q2 := zhx q2; have q3 := zhx q3; have q4 := zhx q4; have q8 := zhx q8; have q9 := zhx q9; have q24 := zhx q24; have q25 := zhx q25; omega) | (simp only [zhx q1, zhx q2, zhx q3, zhx q4, zhx q8, zhx q9, zhx q24, zhx q25] <;> omega) | (have q1 := zhx q1; have q2 := zhx q2; have q3 := zhx q3; have q4 := zhx q4; have q8 := zhx q8; have q9 := zhx q9; have q24 := zhx q24; have q25 := zhx q25; refine w3z ?_ ?_ ?_ <;> omega) | (have q1 := zhx q1; have q2 := zhx q2; have q3 := zhx q3; have q4 := zhx q4; have q8 := zhx q8; have q9 := zhx q9; have q24 := zhx q24; have q25 := zhx q25; refine w3y ?_ ?_ ?_ <;> omega) | (have q1 := zhx q1; have q2 := zhx q2; have q3 := zhx q3; have q4 := zhx q4; have q8 := zhx q8; have q9 := zhx q9; have q24 := zhx q24; have q25 := zhx q25; refine z2o ?_ ?_ ?_ <;> omega))⟩
    · have e9 : (Z 43 0 a1 10) = v7 := Eq.symm g6
      subst e9
      replace hM := zE_n hM (by first | (have q1 := zhx q1; have q2 := zhx q2; have q3 := zhx q3; have q4 := zhx q4; have q8 := zhx q8; have q9 := zhx q9; omega) | (simp only [zhx q1, zhx q2, zhx q3, zhx q4, zhx q8, zhx q9] at h5 h10 ⊢ <;> omega))
      replace hM := zE_n hM (by first | (have q1 := zhx q1; have q2 := zhx q2; have q3 := zhx q3; have q4 := zhx q4; have q8 := zhx q8; have q9 := zhx q9; omega) | (simp only [zhx q1, zhx q2, zhx q3, zhx q4, zhx q8, zhx q9] at h5 h10 ⊢ <;> omega))
      obtain ⟨Ym27, hYm27, hM⟩ := zl_x hM
      have hR28 : zRx [] 0 Z Ym27 := zRx_o hRb hYm27 rfl
      have hV29 : zV Ym27 := zV_o hV hYm27 rfl
      have hG30 := yFr_o hG hYm27 rfl (.inr rfl) rfl
      replace hM := zE_n hM (by first | (have q1 := zhx q1; have q2 := zhx q2; have q3 := zhx q3; have q4 := zhx q4; have q8 := zhx q8; have q9 := zhx q9; omega) | (simp only [zhx q1, zhx q2, zhx q3, zhx q4, zhx q8, zhx q9] at h5 h10 ⊢ <;> omega))
      replace hM := zE_n hM (by first | (have q1 := zhx q1; have q2 := zhx q2; have q3 := zhx q3; have q4 := zhx q4; have q8 := zhx q8; have q9 := zhx q9; omega) | (simp only [zhx q1, zhx q2, zhx q3, zhx q4, zhx q8, zhx q9] at h5 h10 ⊢ <;> omega))
      obtain ⟨Ym31, hYm31, hM⟩ := zl_x hM
      have hR32 : zRx [] 0 Z Ym31 := zRx_o hR28 hYm31 rfl
      have hV33 : zV Ym31 := zV_o hV29 hYm31 rfl
      have hG34 := yFr_o hG30 hYm31 rfl (.inr rfl) rfl
      obtain ⟨v36, g35, hM⟩ := zl_x hM
      replace g35 : zE _ _ := g35
      unfold zf_475 at g35
      replace g35 := zE_n g35 (by first | (have q1 := zhx q1; have q2 := zhx q2; have q3 := zhx q3; have q4 := zhx q4; have q8 := zhx q8; have q9 := zhx q9; omega) | (simp only [zhx q1, zhx q2, zhx q3, zhx q4, zhx q8, zhx q9] at h5 h10 ⊢ <;> omega))
      replace g35 := zE_n g35 (by first | (have q1 := zhx q1; have q2 := zhx q2; have q3 := zhx q3; have q4 := zhx q4; have q8 := zhx q8; have q9 := zhx q9; omega) | (simp only [zhx q1, zhx q2, zhx q3, zhx q4, zhx q8, zhx q9] at h5 h10 ⊢ <;> omega))
      replace g35 := zE_n g35 (by first | (have q1 := zhx q1; have q2 := zhx q2; have q3 := zhx q3; have q4 := zhx q4; have q8 := zhx q8; have q9 := zhx q9; omega) | (simp only [zhx q1, zhx q2, zhx q3, zhx q4, zhx q8, zhx q9] at h5 h10 ⊢ <;> omega))
      replace g35 := zE_n g35 (by first | (have q1 := zhx q1; have q2 := zhx q2; have q3 := zhx q3; have q4 := zhx q4; have q8 := zhx q8; have q9 := zhx q9; omega) | (simp only [zhx q1, zhx q2, zhx q3, zhx q4, zhx q8, zhx q9] at h5 h10 ⊢ <;> omega))
      replace g35 := zE_n g35 (by first | (have q1 := zhx q1; have q2 := zhx q2; have q3 := zhx q3; have q4 := zhx q4; have q8 := zhx q8; have q9 := zhx q9; omega) | (simp only [zhx q1, zhx q2, zhx q3, zhx q4, zhx q8, zhx q9] at h5 h10 ⊢ <;> omega))
      obtain ⟨v38, g37, g35⟩ := zl_x g35
      replace g37 : zE _ _ := g37
      unfold zf_390 at g37
      replace g37 := zE_n g37 (by first | (have q1 := zhx q1; have q2 := zhx q2; have q3 := zhx q3; have q4 := zhx q4; have q8 := zhx q8; have q9 := zhx q9; omega) | (simp only [zhx q1, zhx q2, zhx q3, zhx q4, zhx q8, zhx q9] at h5 h10 ⊢ <;> omega))
      rcases zE_c g37 with ⟨h39, g37⟩ | ⟨h39, g37⟩
      · have e9 : 0 = v38 := Eq.symm g37
        subst e9
        replace g35 := zE_p g35 (by first | (have q1 := zhx q1; have q2 := zhx q2; have q3 := zhx q3; have q4 := zhx q4; have q8 := zhx q8; have q9 := zhx q9; omega) | (simp only [zhx q1, zhx q2, zhx q3, zhx q4, zhx q8, zhx q9] at h5 h10 h39 ⊢ <;> omega))
        have e9 : (-1) = v36 := Eq.symm g35
        subst e9
        have th9 := (zu_at hYm31)
        obtain rfl : C = _ := hC
        obtain rfl : M = _ := hM
        exact ⟨zRx_1 hR32, hV33, ⟨Z, _, .inl ⟨rfl, yFr_w hG34 (by decide)⟩, zFc_r, yFr_r⟩, zThr_a th9 (by first | rfl | (have q1 := zhx q1; have q2 := zhx q2; have q3 := zhx q3; have q4 := zhx q4; have q8 := zhx q8; have q9 := zhx q9; omega) | (simp only [zhx q1, zhx q2, zhx q3, zhx q4, zhx q8, zhx q9] <;> omega) | (have q1 := zhx q1; have q2 := zhx q2; have q3 := zhx q3; have q4 := zhx q4; have q8 := zhx q8; have q9 := zhx q9; refine w3z ?_ ?_ ?_ <;> omega) | (have q1 := zhx q1; have q2 := zhx q2; have q3 := zhx q3; have q4 := zhx q4; have q8 := zhx q8; have q9 := zhx q9; refine w3y ?_ ?_ ?_ <;> omega) | (have q1 := zhx q1; have q2 := zhx q2; have q3 := zhx q3; have q4 := zhx q4; have q8 := zhx q8; have q9 := zhx q9; refine z2o ?_ ?_ ?_ <;> omega))⟩
      · have q40 := zhd (((zu_ne (k' := 2) (b' := 0) (i' := 0) (j' := 3510 + a1) hYm31 (fun q => absurd q.1 (by decide))).trans (zu_ne (k' := 2) (b' := 0) (i' := 0) (j' := 3510 + a1) hYm27 (fun q => absurd q.1 (by decide)))))
        have q41 := zhd (((zu_ne (k' := 2) (b' := 0) (i' := 0) (j' := 0) hYm31 (fun q => absurd q.1 (by decide))).trans (zu_ne (k' := 2) (b' := 0) (i' := 0) (j' := 0) hYm27 (fun q => absurd q.1 (by decide)))))
        rcases zE_c g37 with ⟨h42, g37⟩ | ⟨h42, g37⟩
        · have e9 : 0 = v38 := Eq.symm g37
          subst e9
          replace g35 := zE_p g35 (by first | (have q1 := zhx q1; have q2 := zhx q2; have q3 := zhx q3; have q4 := zhx q4; have q8 := zhx q8; have q9 := zhx q9; have q40 := zhx q40; have q41 := zhx q41; omega) | (simp only [zhx q1, zhx q2, zhx q3, zhx q4, zhx q8, zhx q9, zhx q40, zhx q41] at h5 h10 h39 h42 ⊢ <;> omega))
          have e9 : (-1) = v36 := Eq.symm g35
          subst e9
          have th9 := (zu_at hYm31)
          obtain rfl : C = _ := hC
          obtain rfl : M = _ := hM
          exact ⟨zRx_1 hR32, hV33, ⟨Z, _, .inl ⟨rfl, yFr_w hG34 (by decide)⟩, zFc_r, yFr_r⟩, zThr_a th9 (by first | rfl | (have q1 := zhx q1; have q2 := zhx q2; have q3 := zhx q3; have q4 := zhx q4; have q8 := zhx q8; have q9 := zhx q9; have q40 := zhx q40; have q41 := zhx q41; omega) | (simp only [zhx q1, zhx q2, zhx q3, zhx q4, zhx q8, zhx q9, zhx q40, zhx q41] <;> omega) | (have q1 := zhx q1; have q2 := zhx q2; have q3 := zhx q3; have q4 := zhx q4; have q8 := zhx q8; have q9 := zhx q9; have q40 := zhx q40; have q41 := zhx q41; refine w3z ?_ ?_ ?_ <;> omega) | (have q1 := zhx q1; have q2 := zhx q2; have q3 := zhx q3; have q4 := zhx q4; have q8 := zhx q8; have q9 := zhx q9; have q40 := zhx q40; have q41 := zhx q41; refine w3y ?_ ?_ ?_ <;> omega) | (have q1 := zhx q1; have q2 := zhx q2; have q3 := zhx q3; have q4 := zhx q4; have q8 := zhx q8; have q9 := zhx q9; have q40 := zhx q40; have q41 := zhx q41; refine z2o ?_ ?_ ?_ <;> omega))⟩
        · have e9 : 1 = v38 := Eq.symm g37
          subst e9
          replace g35 := zE_n g35 (by first | (have q1 := zhx q1; have q2 := zhx q2; have q3 := zhx q3; have q4 := zhx q4; have q8 := zhx q8; have q9 := zhx q9; have q40 := zhx q40; have q41 := zhx q41; omega) | (simp only [zhx q1, zhx q2, zhx q3, zhx q4, zhx q8, zhx q9, zhx q40, zhx q41] at h5 h10 h39 h42 ⊢ <;> omega))
          have e9 : (Ym31 2 0 0 (3510 + a1)) = v36 := Eq.symm g35
          subst e9
          have th9 := (zu_at hYm31)
          obtain rfl : C = _ := hC
          obtain rfl : M = _ := hM
          exact ⟨zRx_1 hR32, hV33, ⟨Z, _, .inl ⟨rfl, yFr_w hG34 (by decide)⟩, zFc_r, yFr_r⟩, zThr_a th9 (by first | rfl | (have q1 := zhx q1; have q2 := zhx q2; have q3 := zhx q3; have q4 := zhx q4; have q8 := zhx q8; have q9 := zhx q9; have q40 := zhx q40; have q41 := zhx q41; omega) | (simp only [zhx q1, zhx q2, zhx q3, zhx q4, zhx q8, zhx q9, zhx q40, zhx q41] <;> omega) | (have q1 := zhx q1; have q2 := zhx q2; have q3 := zhx q3; have q4 := zhx q4; have q8 := zhx q8; have q9 := zhx q9; have q40 := zhx q40; have q41 := zhx q41; refine w3z ?_ ?_ ?_ <;> omega) | (have q1 := zhx q1; have q2 := zhx q2; have q3 := zhx q3; have q4 := zhx q4; have q8 := zhx q8; have q9 := zhx q9; have q40 := zhx q40; have q41 := zhx q41; refine w3y ?_ ?_ ?_ <;> omega) | (have q1 := zhx q1; have q2 := zhx q2; have q3 := zhx q3; have q4 := zhx q4; have q8 := zhx q8; have q9 := zhx q9; have q40 := zhx q40; have q41 := zhx q41; refine z2o ?_ ?_ ?_ <;> omega))⟩
  · rcases zE_c hM with ⟨h43, hM⟩ | ⟨h43, hM⟩
    · obtain ⟨Ym44, hYm44, hM⟩ := zl_x hM
      have hR45 : zRx [] 0 Z Ym44 := zRx_o hRb hYm44 rfl
      have hV46 : zV Ym44 := zV_o hV hYm44 rfl
      have hG47 := yFr_o hG hYm44 rfl (.inr rfl) rfl
      have th9 := (zu_at hYm44)
      obtain rfl : C = _ := hC
      obtain rfl : M = _ := hM
      exact ⟨zRx_1 hR45, hV46, ⟨Z, _, .inl ⟨rfl, yFr_w hG47 (by decide)⟩, zFc_r, yFr_r⟩, zThr_e th9 (by decide)⟩
    · rcases zE_c hM with ⟨h48, hM⟩ | ⟨h48, hM⟩
      · obtain ⟨Ym49, hYm49, hM⟩ := zl_x hM
        have hR50 : zRx [] 0 Z Ym49 := zRx_o hRb hYm49 rfl
        have hV51 : zV Ym49 := zV_o hV hYm49 rfl
        have hG52 := yFr_o hG hYm49 rfl (.inr rfl) rfl
        have th9 := (zu_at hYm49)
        obtain rfl : C = _ := hC
        obtain rfl : M = _ := hM
        exact ⟨zRx_1 hR50, hV51, ⟨Z, _, .inl ⟨rfl, yFr_w hG52 (by decide)⟩, zFc_r, yFr_r⟩, zThr_e th9 (by decide)⟩
      · obtain ⟨Ym53, hYm53, hM⟩ := zl_x hM
        have hR54 : zRx [] 0 Z Ym53 := zRx_o hRb hYm53 rfl
        have hV55 : zV Ym53 := zV_o hV hYm53 rfl
        have hG56 := yFr_o hG hYm53 rfl (.inr rfl) rfl
        replace hM := zE_n hM (by first | (have q1 := zhx q1; have q2 := zhx q2; have q3 := zhx q3; have q4 := zhx q4; omega) | (simp only [zhx q1, zhx q2, zhx q3, zhx q4] at h5 h43 h48 ⊢ <;> omega))
        replace hM := zE_n hM (by first | (have q1 := zhx q1; have q2 := zhx q2; have q3 := zhx q3; have q4 := zhx q4; omega) | (simp only [zhx q1, zhx q2, zhx q3, zhx q4] at h5 h43 h48 ⊢ <;> omega))
        obtain ⟨Ym57, hYm57, hM⟩ := zl_x hM
        have hR58 : zRx [] 0 Z Ym57 := zRx_o hR54 hYm57 rfl
        have hV59 : zV Ym57 := zV_o hV55 hYm57 rfl
        have hG60 := yFr_o hG56 hYm57 rfl (.inr rfl) rfl
        obtain ⟨v62, g61, hM⟩ := zl_x hM
        replace g61 : zE _ _ := g61
        unfold zf_475 at g61
        replace g61 := zE_n g61 (by first | (have q1 := zhx q1; have q2 := zhx q2; have q3 := zhx q3; have q4 := zhx q4; omega) | (simp only [zhx q1, zhx q2, zhx q3, zhx q4] at h5 h43 h48 ⊢ <;> omega))
        replace g61 := zE_n g61 (by first | (have q1 := zhx q1; have q2 := zhx q2; have q3 := zhx q3; have q4 := zhx q4; omega) | (simp only [zhx q1, zhx q2, zhx q3, zhx q4] at h5 h43 h48 ⊢ <;> omega))
        replace g61 := zE_n g61 (by first | (have q1 := zhx q1; have q2 := zhx q2; have q3 := zhx q3; have q4 := zhx q4; omega) | (simp only [zhx q1, zhx q2, zhx q3, zhx q4] at h5 h43 h48 ⊢ <;> omega))
        replace g61 := zE_n g61 (by first | (have q1 := zhx q1; have q2 := zhx q2; have q3 := zhx q3; have q4 := zhx q4; omega) | (simp only [zhx q1, zhx q2, zhx q3, zhx q4] at h5 h43 h48 ⊢ <;> omega))
        replace g61 := zE_n g61 (by first | (have q1 := zhx q1; have q2 := zhx q2; have q3 := zhx q3; have q4 := zhx q4; omega) | (simp only [zhx q1, zhx q2, zhx q3, zhx q4] at h5 h43 h48 ⊢ <;> omega))
        obtain ⟨v64, g63, g61⟩ := zl_x g61
        replace g63 : zE _ _ := g63
        unfold zf_390 at g63
        replace g63 := zE_n g63 (by first | (have q1 := zhx q1; have q2 := zhx q2; have q3 := zhx q3; have q4 := zhx q4; omega) | (simp only [zhx q1, zhx q2, zhx q3, zhx q4] at h5 h43 h48 ⊢ <;> omega))
        rcases zE_c g63 with ⟨h65, g63⟩ | ⟨h65, g63⟩
        · have e9 : 0 = v64 := Eq.symm g63
          subst e9
          replace g61 := zE_p g61 (by first | (have q1 := zhx q1; have q2 := zhx q2; have q3 := zhx q3; have q4 := zhx q4; omega) | (simp only [zhx q1, zhx q2, zhx q3, zhx q4] at h5 h43 h48 h65 ⊢ <;> omega))
          have e9 : (-1) = v62 := Eq.symm g61
          subst e9
          exact False.elim (by have q1 := zhx q1; have q2 := zhx q2; have q3 := zhx q3; have q4 := zhx q4; first | omega | grind)
        · have q66 := zhd (((zu_ne (k' := 2) (b' := 0) (i' := 0) (j' := 3510 + a1) hYm57 (fun q => absurd q.1 (by decide))).trans (zu_ne (k' := 2) (b' := 0) (i' := 0) (j' := 3510 + a1) hYm53 (fun q => absurd q.1 (by decide)))))
          have q67 := zhd (zVr_11_13 (a := 0) hV (by omega))
          have q68 := zhd (((zu_ne (k' := 2) (b' := 0) (i' := 0) (j' := 0) hYm57 (fun q => absurd q.1 (by decide))).trans (zu_ne (k' := 2) (b' := 0) (i' := 0) (j' := 0) hYm53 (fun q => absurd q.1 (by decide)))))
          rcases zE_c g63 with ⟨h69, g63⟩ | ⟨h69, g63⟩
          · have e9 : 0 = v64 := Eq.symm g63
            subst e9
            replace g61 := zE_p g61 (by first | (have q1 := zhx q1; have q2 := zhx q2; have q3 := zhx q3; have q4 := zhx q4; have q66 := zhx q66; have q67 := zhx q67; have q68 := zhx q68; omega) | (simp only [zhx q1, zhx q2, zhx q3, zhx q4, zhx q66, zhx q67, zhx q68] at h5 h43 h48 h65 h69 ⊢ <;> omega))
            have e9 : (-1) = v62 := Eq.symm g61
            subst e9
            exact False.elim (by have q1 := zhx q1; have q2 := zhx q2; have q3 := zhx q3; have q4 := zhx q4; have q66 := zhx q66; have q67 := zhx q67; have q68 := zhx q68; first | omega | grind)
          · have e9 : 1 = v64 := Eq.symm g63
            subst e9
            replace g61 := zE_n g61 (by first | (have q1 := zhx q1; have q2 := zhx q2; have q3 := zhx q3; have q4 := zhx q4; have q66 := zhx q66; have q67 := zhx q67; have q68 := zhx q68; omega) | (simp only [zhx q1, zhx q2, zhx q3, zhx q4, zhx q66, zhx q67, zhx q68] at h5 h43 h48 h65 h69 ⊢ <;> omega))
            have e9 : (Ym57 2 0 0 (3510 + a1)) = v62 := Eq.symm g61
            subst e9
            exact False.elim (by have q1 := zhx q1; have q2 := zhx q2; have q3 := zhx q3; have q4 := zhx q4; have q66 := zhx q66; have q67 := zhx q67; have q68 := zhx q68; first | omega | grind)

/- face kept_l -/
theorem rf_kept_l {Z Y : qz_Z} {dm : qz_Z → Int → Int → Int → Int → Int → Int → Int → qz_Z} {a1 a2 : Int} (hRa : zR 0 Z Y) (hV : zV Y) (hI : zI none Z) (hd : zDf dm) (hD1 : zD1 0 Z Y) (hD4 : zD4 0 Z Y) (hN1 : zN1 Y) (hN4 : zN4 Y) (hDs : zDs 0 Z Y) (hDw : zDw 0 Z Y) (hDl : zDl 0 Z Y) (e0 : a2 < 0) {C : qz_Z × Int × Int} {M : qz_Z × Int} (hC : zE C (zx_214 Z a1 a2)) (hM : zE M (zy_425 Y a1 a2)) : zR 0 C.1 M.1 ∧ zV M.1 ∧ zDd [] [99999] Z Y dm C.1 M.1 ∧ zThr [(24, 1), (13, 2)] C.2 (M.1 1 0 0 2) M.2 := by
  have hRb := zRx_0 hRa
  have hF : zFc [] 0 Z Z := zFc_r
  have hG : yFr [99999] Y Y := yFr_r
  unfold zx_214 at hC
  unfold zy_425 at hM
  have q1 := zhd ((fun a b => hDs a1 a b : 0 ≤ a1 → a1 < 6 → _))
  have q2 := zhd (zVr_11_13 (a := 0) hV rfl)
  have q3 := zhd (zVr_11_2 (a := 1200) hV (by omega))
  have q4 := zhd ((zRl_11_2 (a := 1200) hRa (by omega)))
  rcases zE_c hC with ⟨h5, hC⟩ | ⟨h5, hC⟩
  · replace hC := zE_n hC (by first | (have q1 := zhx q1; have q2 := zhx q2; have q3 := zhx q3; have q4 := zhx q4; omega) | (simp only [zhx q1, zhx q2, zhx q3, zhx q4] at h5 ⊢ <;> omega))
    replace hM := zE_n hM (by first | (have q1 := zhx q1; have q2 := zhx q2; have q3 := zhx q3; have q4 := zhx q4; omega) | (simp only [zhx q1, zhx q2, zhx q3, zhx q4] at h5 ⊢ <;> omega))
    replace hM := zE_n hM (by first | (have q1 := zhx q1; have q2 := zhx q2; have q3 := zhx q3; have q4 := zhx q4; omega) | (simp only [zhx q1, zhx q2, zhx q3, zhx q4] at h5 ⊢ <;> omega))
    obtain ⟨Ym6, hYm6, hM⟩ := zl_x hM
    have hR7 : zRx [] 0 Z Ym6 := zRx_o hRb hYm6 rfl
    have hV8 : zV Ym6 := zV_o hV hYm6 rfl
    have hG9 := yFr_o hG hYm6 rfl (.inr rfl) rfl
    replace hM := zE_p hM (by first | (have q1 := zhx q1; have q2 := zhx q2; have q3 := zhx q3; have q4 := zhx q4; omega) | (simp only [zhx q1, zhx q2, zhx q3, zhx q4] at h5 ⊢ <;> omega))
    obtain ⟨Ym10, hYm10, hM⟩ := zl_x hM
    have hR11 : zRx [] 0 Z Ym10 := zRx_o hR7 hYm10 rfl
    have hV12 : zV Ym10 := zV_o hV8 hYm10 rfl
    have hG13 := yFr_o hG9 hYm10 rfl (.inr rfl) rfl
    have th9 := (zu_at hYm10)
    obtain rfl : C = _ := hC
    obtain rfl : M = _ := hM
    exact ⟨zRx_1 hR11, hV12, ⟨Z, _, .inl ⟨rfl, yFr_w hG13 (by decide)⟩, zFc_r, yFr_r⟩, zThr_e th9 (by decide)⟩
  · rcases zE_c hM with ⟨h14, hM⟩ | ⟨h14, hM⟩
    · obtain ⟨Ym15, hYm15, hM⟩ := zl_x hM
      have hR16 : zRx [] 0 Z Ym15 := zRx_o hRb hYm15 rfl
      have hV17 : zV Ym15 := zV_o hV hYm15 rfl
      have hG18 := yFr_o hG hYm15 rfl (.inr rfl) rfl
      have th9 := (zu_at hYm15)
      obtain rfl : C = _ := hC
      obtain rfl : M = _ := hM
      exact ⟨zRx_1 hR16, hV17, ⟨Z, _, .inl ⟨rfl, yFr_w hG18 (by decide)⟩, zFc_r, yFr_r⟩, zThr_e th9 (by decide)⟩
    · rcases zE_c hM with ⟨h19, hM⟩ | ⟨h19, hM⟩
      · obtain ⟨Ym20, hYm20, hM⟩ := zl_x hM
        have hR21 : zRx [] 0 Z Ym20 := zRx_o hRb hYm20 rfl
        have hV22 : zV Ym20 := zV_o hV hYm20 rfl
        have hG23 := yFr_o hG hYm20 rfl (.inr rfl) rfl
        have th9 := (zu_at hYm20)
        obtain rfl : C = _ := hC
        obtain rfl : M = _ := hM
        exact ⟨zRx_1 hR21, hV22, ⟨Z, _, .inl ⟨rfl, yFr_w hG23 (by decide)⟩, zFc_r, yFr_r⟩, zThr_e th9 (by decide)⟩
      · obtain ⟨Ym24, hYm24, hM⟩ := zl_x hM
        have hR25 : zRx [] 0 Z Ym24 := zRx_o hRb hYm24 rfl
        have hV26 : zV Ym24 := zV_o hV hYm24 rfl
        have hG27 := yFr_o hG hYm24 rfl (.inr rfl) rfl
        replace hM := zE_p hM (by first | (have q1 := zhx q1; have q2 := zhx q2; have q3 := zhx q3; have q4 := zhx q4; omega) | (simp only [zhx q1, zhx q2, zhx q3, zhx q4] at h5 h14 h19 ⊢ <;> omega))
        obtain ⟨Ym28, hYm28, hM⟩ := zl_x hM
        have hR29 : zRx [] 0 Z Ym28 := zRx_o hR25 hYm28 rfl
        have hV30 : zV Ym28 := zV_o hV26 hYm28 rfl
        have hG31 := yFr_o hG27 hYm28 rfl (.inr rfl) rfl
        exact False.elim (by have q1 := zhx q1; have q2 := zhx q2; have q3 := zhx q3; have q4 := zhx q4; first | omega | grind)

/- face kept_h -/
theorem rf_kept_h {Z Y : qz_Z} {dm : qz_Z → Int → Int → Int → Int → Int → Int → Int → qz_Z} {a1 a2 : Int} (hRa : zR 0 Z Y) (hV : zV Y) (hI : zI none Z) (hd : zDf dm) (hD1 : zD1 0 Z Y) (hD4 : zD4 0 Z Y) (hN1 : zN1 Y) (hN4 : zN4 Y) (hDs : zDs 0 Z Y) (hDw : zDw 0 Z Y) (hDl : zDl 0 Z Y) (e0 : 10 < a2) {C : qz_Z × Int × Int} {M : qz_Z × Int} (hC : zE C (zx_214 Z a1 a2)) (hM : zE M (zy_425 Y a1 a2)) : zR 0 C.1 M.1 ∧ zV M.1 ∧ zDd [] [99999] Z Y dm C.1 M.1 ∧ zThr [(24, 1), (13, 2)] C.2 (M.1 1 0 0 2) M.2 := by
  have hRb := zRx_0 hRa
  have hF : zFc [] 0 Z Z := zFc_r
  have hG : yFr [99999] Y Y := yFr_r
  unfold zx_214 at hC
  unfold zy_425 at hM
  have q1 := zhd ((fun a b => hDs a1 a b : 0 ≤ a1 → a1 < 6 → _))
  have q2 := zhd (zVr_11_13 (a := 0) hV rfl)
  have q3 := zhd (zVr_11_2 (a := 1200) hV (by omega))
  have q4 := zhd ((zRl_11_2 (a := 1200) hRa (by omega)))
  rcases zE_c hC with ⟨h5, hC⟩ | ⟨h5, hC⟩
  · replace hC := zE_n hC (by first | (have q1 := zhx q1; have q2 := zhx q2; have q3 := zhx q3; have q4 := zhx q4; omega) | (simp only [zhx q1, zhx q2, zhx q3, zhx q4] at h5 ⊢ <;> omega))
    replace hM := zE_n hM (by first | (have q1 := zhx q1; have q2 := zhx q2; have q3 := zhx q3; have q4 := zhx q4; omega) | (simp only [zhx q1, zhx q2, zhx q3, zhx q4] at h5 ⊢ <;> omega))
    replace hM := zE_n hM (by first | (have q1 := zhx q1; have q2 := zhx q2; have q3 := zhx q3; have q4 := zhx q4; omega) | (simp only [zhx q1, zhx q2, zhx q3, zhx q4] at h5 ⊢ <;> omega))
    obtain ⟨Ym6, hYm6, hM⟩ := zl_x hM
    have hR7 : zRx [] 0 Z Ym6 := zRx_o hRb hYm6 rfl
    have hV8 : zV Ym6 := zV_o hV hYm6 rfl
    have hG9 := yFr_o hG hYm6 rfl (.inr rfl) rfl
    replace hM := zE_n hM (by first | (have q1 := zhx q1; have q2 := zhx q2; have q3 := zhx q3; have q4 := zhx q4; omega) | (simp only [zhx q1, zhx q2, zhx q3, zhx q4] at h5 ⊢ <;> omega))
    replace hM := zE_p hM (by first | (have q1 := zhx q1; have q2 := zhx q2; have q3 := zhx q3; have q4 := zhx q4; omega) | (simp only [zhx q1, zhx q2, zhx q3, zhx q4] at h5 ⊢ <;> omega))
    obtain ⟨Ym10, hYm10, hM⟩ := zl_x hM
    have hR11 : zRx [] 0 Z Ym10 := zRx_o hR7 hYm10 rfl
    have hV12 : zV Ym10 := zV_o hV8 hYm10 rfl
    have hG13 := yFr_o hG9 hYm10 rfl (.inr rfl) rfl
    have th9 := (zu_at hYm10)
    obtain rfl : C = _ := hC
    obtain rfl : M = _ := hM
    exact ⟨zRx_1 hR11, hV12, ⟨Z, _, .inl ⟨rfl, yFr_w hG13 (by decide)⟩, zFc_r, yFr_r⟩, zThr_e th9 (by decide)⟩
  · rcases zE_c hM with ⟨h14, hM⟩ | ⟨h14, hM⟩
    · obtain ⟨Ym15, hYm15, hM⟩ := zl_x hM
      have hR16 : zRx [] 0 Z Ym15 := zRx_o hRb hYm15 rfl
      have hV17 : zV Ym15 := zV_o hV hYm15 rfl
      have hG18 := yFr_o hG hYm15 rfl (.inr rfl) rfl
      have th9 := (zu_at hYm15)
      obtain rfl : C = _ := hC
      obtain rfl : M = _ := hM
      exact ⟨zRx_1 hR16, hV17, ⟨Z, _, .inl ⟨rfl, yFr_w hG18 (by decide)⟩, zFc_r, yFr_r⟩, zThr_e th9 (by decide)⟩
    · rcases zE_c hM with ⟨h19, hM⟩ | ⟨h19, hM⟩
      · obtain ⟨Ym20, hYm20, hM⟩ := zl_x hM
        have hR21 : zRx [] 0 Z Ym20 := zRx_o hRb hYm20 rfl
        have hV22 : zV Ym20 := zV_o hV hYm20 rfl
        have hG23 := yFr_o hG hYm20 rfl (.inr rfl) rfl
        have th9 := (zu_at hYm20)
        obtain rfl : C = _ := hC
        obtain rfl : M = _ := hM
        exact ⟨zRx_1 hR21, hV22, ⟨Z, _, .inl ⟨rfl, yFr_w hG23 (by decide)⟩, zFc_r, yFr_r⟩, zThr_e th9 (by decide)⟩
      · obtain ⟨Ym24, hYm24, hM⟩ := zl_x hM
        have hR25 : zRx [] 0 Z Ym24 := zRx_o hRb hYm24 rfl
        have hV26 : zV Ym24 := zV_o hV hYm24 rfl
        have hG27 := yFr_o hG hYm24 rfl (.inr rfl) rfl
        replace hM := zE_n hM (by first | (have q1 := zhx q1; have q2 := zhx q2; have q3 := zhx q3; have q4 := zhx q4; omega) | (simp only [zhx q1, zhx q2, zhx q3, zhx q4] at h5 h14 h19 ⊢ <;> omega))
        replace hM := zE_p hM (by first | (have q1 := zhx q1; have q2 := zhx q2; have q3 := zhx q3; have q4 := zhx q4; omega) | (simp only [zhx q1, zhx q2, zhx q3, zhx q4] at h5 h14 h19 ⊢ <;> omega))
        obtain ⟨Ym28, hYm28, hM⟩ := zl_x hM
        have hR29 : zRx [] 0 Z Ym28 := zRx_o hR25 hYm28 rfl
        have hV30 : zV Ym28 := zV_o hV26 hYm28 rfl
        have hG31 := yFr_o hG27 hYm28 rfl (.inr rfl) rfl
        exact False.elim (by have q1 := zhx q1; have q2 := zhx q2; have q3 := zhx q3; have q4 := zhx q4; first | omega | grind)

/- face kept -/
theorem rf_kept {Z Y : qz_Z} {dm : qz_Z → Int → Int → Int → Int → Int → Int → Int → qz_Z} {a1 a2 : Int} (hRa : zR 0 Z Y) (hV : zV Y) (hI : zI none Z) (hd : zDf dm) (hD1 : zD1 0 Z Y) (hD4 : zD4 0 Z Y) (hN1 : zN1 Y) (hN4 : zN4 Y) (hDs : zDs 0 Z Y) (hDw : zDw 0 Z Y) (hDl : zDl 0 Z Y) {C : qz_Z × Int × Int} {M : qz_Z × Int} (hC : zE C (zx_214 Z a1 a2)) (hM : zE M (zy_425 Y a1 a2)) : zR 0 C.1 M.1 ∧ zV M.1 ∧ zDd [] [99999] Z Y dm C.1 M.1 ∧ zThr [(24, 1), (13, 2)] C.2 (M.1 1 0 0 2) M.2 := by
  by_cases l9 : a2 < 0
  · exact rf_kept_l hRa hV hI hd hD1 hD4 hN1 hN4 hDs hDw hDl l9 hC hM
  by_cases u9 : 10 < a2
  · exact rf_kept_h hRa hV hI hd hD1 hD4 hN1 hN4 hDs hDw hDl u9 hC hM
  have c9 : a2 = 0 ∨ a2 = 1 ∨ a2 = 2 ∨ a2 = 3 ∨ a2 = 4 ∨ a2 = 5 ∨ a2 = 6 ∨ a2 = 7 ∨ a2 = 8 ∨ a2 = 9 ∨ a2 = 10 := by omega
  rcases c9 with rfl | rfl | rfl | rfl | rfl | rfl | rfl | rfl | rfl | rfl | rfl
  · exact rf_kept_0 hRa hV hI hd hD1 hD4 hN1 hN4 hDs hDw hDl hC hM
  · exact rf_kept_1 hRa hV hI hd hD1 hD4 hN1 hN4 hDs hDw hDl hC hM
  · exact rf_kept_2 hRa hV hI hd hD1 hD4 hN1 hN4 hDs hDw hDl hC hM
  · exact rf_kept_3 hRa hV hI hd hD1 hD4 hN1 hN4 hDs hDw hDl hC hM
  · exact rf_kept_4 hRa hV hI hd hD1 hD4 hN1 hN4 hDs hDw hDl hC hM
  · exact rf_kept_5 hRa hV hI hd hD1 hD4 hN1 hN4 hDs hDw hDl hC hM
  · exact rf_kept_6 hRa hV hI hd hD1 hD4 hN1 hN4 hDs hDw hDl hC hM
  · exact rf_kept_7 hRa hV hI hd hD1 hD4 hN1 hN4 hDs hDw hDl hC hM
  · exact rf_kept_8 hRa hV hI hd hD1 hD4 hN1 hN4 hDs hDw hDl hC hM
  · exact rf_kept_9 hRa hV hI hd hD1 hD4 hN1 hN4 hDs hDw hDl hC hM
  · exact rf_kept_10 hRa hV hI hd hD1 hD4 hN1 hN4 hDs hDw hDl hC hM

/- face pallet_0 -/
theorem rf_pallet_0 {Z Y : qz_Z} {dm : qz_Z → Int → Int → Int → Int → Int → Int → Int → qz_Z} {a1 : Int} (hRa : zR 0 Z Y) (hV : zV Y) (hI : zI none Z) (hd : zDf dm) (hD1 : zD1 0 Z Y) (hD4 : zD4 0 Z Y) (hN1 : zN1 Y) (hN4 : zN4 Y) (hDs : zDs 0 Z Y) (hDw : zDw 0 Z Y) (hDl : zDl 0 Z Y)  {C : qz_Z × Int × Int} {M : qz_Z × Int} (hC : zE C (zx_225 Z a1 0)) (hM : zE M (zy_448 Y a1 0)) : zR 0 C.1 M.1 ∧ zV M.1 ∧ zDd [] [99999] Z Y dm C.1 M.1 ∧ zThr [(24, 1), (13, 2)] C.2 (M.1 1 0 0 2) M.2 := by
  have hRb := zRx_0 hRa
  have hF : zFc [] 0 Z Z := zFc_r
  have hG : yFr [99999] Y Y := yFr_r
  unfold zx_225 at hC
  unfold zy_448 at hM
  have q1 := zhd (zVr_11_3 (a := 102) hV (by omega))
  have q2 := zhd ((zRl_11_3 (a := 102) hRa (by omega)))
  rcases zE_c hC with ⟨h3, hC⟩ | ⟨h3, hC⟩
  · replace hC := zE_p hC (by first | (have q1 := zhx q1; have q2 := zhx q2; omega) | (simp only [zhx q1, zhx q2] at h3 ⊢ <;> omega))
    obtain ⟨v5, g4, hC⟩ := zl_x hC
    replace g4 : zE _ _ := g4
    unfold zf_108 at g4
    replace g4 := zE_p g4 (by first | (have q1 := zhx q1; have q2 := zhx q2; omega) | (simp only [zhx q1, zhx q2] at h3 ⊢ <;> omega))
    replace g4 := zE_p g4 (by first | (have q1 := zhx q1; have q2 := zhx q2; omega) | (simp only [zhx q1, zhx q2] at h3 ⊢ <;> omega))
    have q6 := zhd (zVr_44_0 (x := a1) (a := 200 + 20 * a1) hV (by have q1 := zhx q1; have q2 := zhx q2; omega) (by have q1 := zhx q1; have q2 := zhx q2; omega) (by have q1 := zhx q1; have q2 := zhx q2; omega))
    have q7 := zhd ((zRl_44_0 (x := a1) (a := 200 + 20 * a1) hRa (by have q1 := zhx q1; have q2 := zhx q2; omega) (by have q1 := zhx q1; have q2 := zhx q2; omega) (by have q1 := zhx q1; have q2 := zhx q2; omega)))
    have e9 : (Z 44 0 a1 0) = v5 := Eq.symm g4
    subst e9
    replace hM := zE_n hM (by first | (have q1 := zhx q1; have q2 := zhx q2; omega) | (simp only [zhx q1, zhx q2] at h3 ⊢ <;> omega))
    replace hM := zE_n hM (by first | (have q1 := zhx q1; have q2 := zhx q2; omega) | (simp only [zhx q1, zhx q2] at h3 ⊢ <;> omega))
    obtain ⟨Ym8, hYm8, hM⟩ := zl_x hM
    have hR9 : zRx [] 0 Z Ym8 := zRx_o hRb hYm8 rfl
    have hV10 : zV Ym8 := zV_o hV hYm8 rfl
    have hG11 := yFr_o hG hYm8 rfl (.inr rfl) rfl
    replace hM := zE_n hM (by first | (have q1 := zhx q1; have q2 := zhx q2; omega) | (simp only [zhx q1, zhx q2] at h3 ⊢ <;> omega))
    replace hM := zE_n hM (by first | (have q1 := zhx q1; have q2 := zhx q2; omega) | (simp only [zhx q1, zhx q2] at h3 ⊢ <;> omega))
    obtain ⟨Ym12, hYm12, hM⟩ := zl_x hM
    have hR13 : zRx [] 0 Z Ym12 := zRx_o hR9 hYm12 rfl
    have hV14 : zV Ym12 := zV_o hV10 hYm12 rfl
    have hG15 := yFr_o hG11 hYm12 rfl (.inr rfl) rfl
    obtain ⟨v17, g16, hM⟩ := zl_x hM
    replace g16 : zE _ _ := g16
    unfold zf_480 at g16
    replace g16 := zE_p g16 (by first | (have q1 := zhx q1; have q2 := zhx q2; omega) | (simp only [zhx q1, zhx q2] at h3 ⊢ <;> omega))
    have q18 := zhd (congrArg (Ym12 2 0 0) (show (200 + 20 * a1 + 0) = 200 + 20 * a1 from (by have q1 := zhx q1; have q2 := zhx q2; omega)))
    have q19 := zhd (((zu_ne (k' := 2) (b' := 0) (i' := 0) (j' := 200 + 20 * a1) hYm12 (fun q => absurd q.1 (by decide))).trans (zu_ne (k' := 2) (b' := 0) (i' := 0) (j' := 200 + 20 * a1) hYm8 (fun q => absurd q.1 (by decide)))))
    have e9 : (Ym12 2 0 0 (200 + 20 * a1 + 0)) = v17 := Eq.symm g16
    subst e9
    have th9 := (zu_at hYm12)
    obtain rfl : C = _ := hC
    obtain rfl : M = _ := hM
    exact ⟨zRx_1 hR13, hV14, ⟨Z, _, .inl ⟨rfl, yFr_w hG15 (by decide)⟩, zFc_r, yFr_r⟩, zThr_a th9 (by first | rfl | (have q1 := zhx q1; have q2 := zhx q2; have q6 := zhx q6; have q7 := zhx q7; have q18 := zhx q18; have q19 := zhx q19; omega) | (simp only [zhx q1, zhx q2, zhx q6, zhx q7, zhx q18, zhx q19] <;> omega) | (have q1 := zhx q1; have q2 := zhx q2; have q6 := zhx q6; have q7 := zhx q7; have q18 := zhx q18; have q19 := zhx q19; refine w3z ?_ ?_ ?_ <;> omega) | (have q1 := zhx q1; have q2 := zhx q2; have q6 := zhx q6; have q7 := zhx q7; have q18 := zhx q18; have q19 := zhx q19; refine w3y ?_ ?_ ?_ <;> omega) | (have q1 := zhx q1; have q2 := zhx q2; have q6 := zhx q6; have q7 := zhx q7; have q18 := zhx q18; have q19 := zhx q19; refine z2o ?_ ?_ ?_ <;> omega))⟩
  · rcases zE_c hM with ⟨h20, hM⟩ | ⟨h20, hM⟩
    · obtain ⟨Ym21, hYm21, hM⟩ := zl_x hM
      have hR22 : zRx [] 0 Z Ym21 := zRx_o hRb hYm21 rfl
      have hV23 : zV Ym21 := zV_o hV hYm21 rfl
      have hG24 := yFr_o hG hYm21 rfl (.inr rfl) rfl
      have th9 := (zu_at hYm21)
      obtain rfl : C = _ := hC
      obtain rfl : M = _ := hM
      exact ⟨zRx_1 hR22, hV23, ⟨Z, _, .inl ⟨rfl, yFr_w hG24 (by decide)⟩, zFc_r, yFr_r⟩, zThr_e th9 (by decide)⟩
    · rcases zE_c hM with ⟨h25, hM⟩ | ⟨h25, hM⟩
      · obtain ⟨Ym26, hYm26, hM⟩ := zl_x hM
        have hR27 : zRx [] 0 Z Ym26 := zRx_o hRb hYm26 rfl
        have hV28 : zV Ym26 := zV_o hV hYm26 rfl
        have hG29 := yFr_o hG hYm26 rfl (.inr rfl) rfl
        have th9 := (zu_at hYm26)
        obtain rfl : C = _ := hC
        obtain rfl : M = _ := hM
        exact ⟨zRx_1 hR27, hV28, ⟨Z, _, .inl ⟨rfl, yFr_w hG29 (by decide)⟩, zFc_r, yFr_r⟩, zThr_e th9 (by decide)⟩
      · obtain ⟨Ym30, hYm30, hM⟩ := zl_x hM
        have hR31 : zRx [] 0 Z Ym30 := zRx_o hRb hYm30 rfl
        have hV32 : zV Ym30 := zV_o hV hYm30 rfl
        have hG33 := yFr_o hG hYm30 rfl (.inr rfl) rfl
        replace hM := zE_n hM (by first | (have q1 := zhx q1; have q2 := zhx q2; omega) | (simp only [zhx q1, zhx q2] at h3 h20 h25 ⊢ <;> omega))
        replace hM := zE_n hM (by first | (have q1 := zhx q1; have q2 := zhx q2; omega) | (simp only [zhx q1, zhx q2] at h3 h20 h25 ⊢ <;> omega))
        obtain ⟨Ym34, hYm34, hM⟩ := zl_x hM
        have hR35 : zRx [] 0 Z Ym34 := zRx_o hR31 hYm34 rfl
        have hV36 : zV Ym34 := zV_o hV32 hYm34 rfl
        have hG37 := yFr_o hG33 hYm34 rfl (.inr rfl) rfl
        obtain ⟨v39, g38, hM⟩ := zl_x hM
        replace g38 : zE _ _ := g38
        unfold zf_480 at g38
        replace g38 := zE_p g38 (by first | (have q1 := zhx q1; have q2 := zhx q2; omega) | (simp only [zhx q1, zhx q2] at h3 h20 h25 ⊢ <;> omega))
        have q40 := zhd (zVr_44_0 (x := a1) (a := 200 + 20 * a1) hV (by have q1 := zhx q1; have q2 := zhx q2; omega) (by have q1 := zhx q1; have q2 := zhx q2; omega) (by have q1 := zhx q1; have q2 := zhx q2; omega))
        have q41 := zhd (congrArg (Ym34 2 0 0) (show (200 + 20 * a1 + 0) = 200 + 20 * a1 from (by have q1 := zhx q1; have q2 := zhx q2; omega)))
        have q42 := zhd (((zu_ne (k' := 2) (b' := 0) (i' := 0) (j' := 200 + 20 * a1) hYm34 (fun q => absurd q.1 (by decide))).trans (zu_ne (k' := 2) (b' := 0) (i' := 0) (j' := 200 + 20 * a1) hYm30 (fun q => absurd q.1 (by decide)))))
        have e9 : (Ym34 2 0 0 (200 + 20 * a1 + 0)) = v39 := Eq.symm g38
        subst e9
        exact False.elim (by have q1 := zhx q1; have q2 := zhx q2; first | omega | grind)

/- face pallet_1 -/
theorem rf_pallet_1 {Z Y : qz_Z} {dm : qz_Z → Int → Int → Int → Int → Int → Int → Int → qz_Z} {a1 : Int} (hRa : zR 0 Z Y) (hV : zV Y) (hI : zI none Z) (hd : zDf dm) (hD1 : zD1 0 Z Y) (hD4 : zD4 0 Z Y) (hN1 : zN1 Y) (hN4 : zN4 Y) (hDs : zDs 0 Z Y) (hDw : zDw 0 Z Y) (hDl : zDl 0 Z Y)  {C : qz_Z × Int × Int} {M : qz_Z × Int} (hC : zE C (zx_225 Z a1 1)) (hM : zE M (zy_448 Y a1 1)) : zR 0 C.1 M.1 ∧ zV M.1 ∧ zDd [] [99999] Z Y dm C.1 M.1 ∧ zThr [(24, 1), (13, 2)] C.2 (M.1 1 0 0 2) M.2 := by
  have hRb := zRx_0 hRa
  have hF : zFc [] 0 Z Z := zFc_r
  have hG : yFr [99999] Y Y := yFr_r
  unfold zx_225 at hC
  unfold zy_448 at hM
  have q1 := zhd (zVr_11_3 (a := 102) hV (by omega))
  have q2 := zhd ((zRl_11_3 (a := 102) hRa (by omega)))
  rcases zE_c hC with ⟨h3, hC⟩ | ⟨h3, hC⟩
  · replace hC := zE_p hC (by first | (have q1 := zhx q1; have q2 := zhx q2; omega) | (simp only [zhx q1, zhx q2] at h3 ⊢ <;> omega))
    obtain ⟨v5, g4, hC⟩ := zl_x hC
    replace g4 : zE _ _ := g4
    unfold zf_108 at g4
    replace g4 := zE_p g4 (by first | (have q1 := zhx q1; have q2 := zhx q2; omega) | (simp only [zhx q1, zhx q2] at h3 ⊢ <;> omega))
    replace g4 := zE_p g4 (by first | (have q1 := zhx q1; have q2 := zhx q2; omega) | (simp only [zhx q1, zhx q2] at h3 ⊢ <;> omega))
    have q6 := zhd (zVr_44_1 (x := a1) (a := 201 + 20 * a1) hV (by have q1 := zhx q1; have q2 := zhx q2; omega) (by have q1 := zhx q1; have q2 := zhx q2; omega) (by have q1 := zhx q1; have q2 := zhx q2; omega))
    have q7 := zhd ((zRl_44_1 (x := a1) (a := 201 + 20 * a1) hRa (by have q1 := zhx q1; have q2 := zhx q2; omega) (by have q1 := zhx q1; have q2 := zhx q2; omega) (by have q1 := zhx q1; have q2 := zhx q2; omega)))
    have e9 : (Z 44 0 a1 1) = v5 := Eq.symm g4
    subst e9
    replace hM := zE_n hM (by first | (have q1 := zhx q1; have q2 := zhx q2; omega) | (simp only [zhx q1, zhx q2] at h3 ⊢ <;> omega))
    replace hM := zE_n hM (by first | (have q1 := zhx q1; have q2 := zhx q2; omega) | (simp only [zhx q1, zhx q2] at h3 ⊢ <;> omega))
    obtain ⟨Ym8, hYm8, hM⟩ := zl_x hM
    have hR9 : zRx [] 0 Z Ym8 := zRx_o hRb hYm8 rfl
    have hV10 : zV Ym8 := zV_o hV hYm8 rfl
    have hG11 := yFr_o hG hYm8 rfl (.inr rfl) rfl
    replace hM := zE_n hM (by first | (have q1 := zhx q1; have q2 := zhx q2; omega) | (simp only [zhx q1, zhx q2] at h3 ⊢ <;> omega))
    replace hM := zE_n hM (by first | (have q1 := zhx q1; have q2 := zhx q2; omega) | (simp only [zhx q1, zhx q2] at h3 ⊢ <;> omega))
    obtain ⟨Ym12, hYm12, hM⟩ := zl_x hM
    have hR13 : zRx [] 0 Z Ym12 := zRx_o hR9 hYm12 rfl
    have hV14 : zV Ym12 := zV_o hV10 hYm12 rfl
    have hG15 := yFr_o hG11 hYm12 rfl (.inr rfl) rfl
    obtain ⟨v17, g16, hM⟩ := zl_x hM
    replace g16 : zE _ _ := g16
    unfold zf_480 at g16
    replace g16 := zE_p g16 (by first | (have q1 := zhx q1; have q2 := zhx q2; omega) | (simp only [zhx q1, zhx q2] at h3 ⊢ <;> omega))
    have q18 := zhd (congrArg (Ym12 2 0 0) (show (200 + 20 * a1 + 1) = 201 + 20 * a1 from (by have q1 := zhx q1; have q2 := zhx q2; omega)))
    have q19 := zhd (((zu_ne (k' := 2) (b' := 0) (i' := 0) (j' := 201 + 20 * a1) hYm12 (fun q => absurd q.1 (by decide))).trans (zu_ne (k' := 2) (b' := 0) (i' := 0) (j' := 201 + 20 * a1) hYm8 (fun q => absurd q.1 (by decide)))))
    have e9 : (Ym12 2 0 0 (200 + 20 * a1 + 1)) = v17 := Eq.symm g16
    subst e9
    have th9 := (zu_at hYm12)
    obtain rfl : C = _ := hC
    obtain rfl : M = _ := hM
    exact ⟨zRx_1 hR13, hV14, ⟨Z, _, .inl ⟨rfl, yFr_w hG15 (by decide)⟩, zFc_r, yFr_r⟩, zThr_a th9 (by first | rfl | (have q1 := zhx q1; have q2 := zhx q2; have q6 := zhx q6; have q7 := zhx q7; have q18 := zhx q18; have q19 := zhx q19; omega) | (simp only [zhx q1, zhx q2, zhx q6, zhx q7, zhx q18, zhx q19] <;> omega) | (have q1 := zhx q1; have q2 := zhx q2; have q6 := zhx q6; have q7 := zhx q7; have q18 := zhx q18; have q19 := zhx q19; refine w3z ?_ ?_ ?_ <;> omega) | (have q1 := zhx q1; have q2 := zhx q2; have q6 := zhx q6; have q7 := zhx q7; have q18 := zhx q18; have q19 := zhx q19; refine w3y ?_ ?_ ?_ <;> omega) | (have q1 := zhx q1; have q2 := zhx q2; have q6 := zhx q6; have q7 := zhx q7; have q18 := zhx q18; have q19 := zhx q19; refine z2o ?_ ?_ ?_ <;> omega))⟩
  · rcases zE_c hM with ⟨h20, hM⟩ | ⟨h20, hM⟩
    · obtain ⟨Ym21, hYm21, hM⟩ := zl_x hM
      have hR22 : zRx [] 0 Z Ym21 := zRx_o hRb hYm21 rfl
      have hV23 : zV Ym21 := zV_o hV hYm21 rfl
      have hG24 := yFr_o hG hYm21 rfl (.inr rfl) rfl
      have th9 := (zu_at hYm21)
      obtain rfl : C = _ := hC
      obtain rfl : M = _ := hM
      exact ⟨zRx_1 hR22, hV23, ⟨Z, _, .inl ⟨rfl, yFr_w hG24 (by decide)⟩, zFc_r, yFr_r⟩, zThr_e th9 (by decide)⟩
    · rcases zE_c hM with ⟨h25, hM⟩ | ⟨h25, hM⟩
      · obtain ⟨Ym26, hYm26, hM⟩ := zl_x hM
        have hR27 : zRx [] 0 Z Ym26 := zRx_o hRb hYm26 rfl
        have hV28 : zV Ym26 := zV_o hV hYm26 rfl
        have hG29 := yFr_o hG hYm26 rfl (.inr rfl) rfl
        have th9 := (zu_at hYm26)
        obtain rfl : C = _ := hC
        obtain rfl : M = _ := hM
        exact ⟨zRx_1 hR27, hV28, ⟨Z, _, .inl ⟨rfl, yFr_w hG29 (by decide)⟩, zFc_r, yFr_r⟩, zThr_e th9 (by decide)⟩
      · obtain ⟨Ym30, hYm30, hM⟩ := zl_x hM
        have hR31 : zRx [] 0 Z Ym30 := zRx_o hRb hYm30 rfl
        have hV32 : zV Ym30 := zV_o hV hYm30 rfl
        have hG33 := yFr_o hG hYm30 rfl (.inr rfl) rfl
        replace hM := zE_n hM (by first | (have q1 := zhx q1; have q2 := zhx q2; omega) | (simp only [zhx q1, zhx q2] at h3 h20 h25 ⊢ <;> omega))
        replace hM := zE_n hM (by first | (have q1 := zhx q1; have q2 := zhx q2; omega) | (simp only [zhx q1, zhx q2] at h3 h20 h25 ⊢ <;> omega))
        obtain ⟨Ym34, hYm34, hM⟩ := zl_x hM
        have hR35 : zRx [] 0 Z Ym34 := zRx_o hR31 hYm34 rfl
        have hV36 : zV Ym34 := zV_o hV32 hYm34 rfl
        have hG37 := yFr_o hG33 hYm34 rfl (.inr rfl) rfl
        obtain ⟨v39, g38, hM⟩ := zl_x hM
        replace g38 : zE _ _ := g38
        unfold zf_480 at g38
        replace g38 := zE_p g38 (by first | (have q1 := zhx q1; have q2 := zhx q2; omega) | (simp only [zhx q1, zhx q2] at h3 h20 h25 ⊢ <;> omega))
        have q40 := zhd (zVr_44_1 (x := a1) (a := 201 + 20 * a1) hV (by have q1 := zhx q1; have q2 := zhx q2; omega) (by have q1 := zhx q1; have q2 := zhx q2; omega) (by have q1 := zhx q1; have q2 := zhx q2; omega))
        have q41 := zhd (congrArg (Ym34 2 0 0) (show (200 + 20 * a1 + 1) = 201 + 20 * a1 from (by have q1 := zhx q1; have q2 := zhx q2; omega)))
        have q42 := zhd (((zu_ne (k' := 2) (b' := 0) (i' := 0) (j' := 201 + 20 * a1) hYm34 (fun q => absurd q.1 (by decide))).trans (zu_ne (k' := 2) (b' := 0) (i' := 0) (j' := 201 + 20 * a1) hYm30 (fun q => absurd q.1 (by decide)))))
        have e9 : (Ym34 2 0 0 (200 + 20 * a1 + 1)) = v39 := Eq.symm g38
        subst e9
        exact False.elim (by have q1 := zhx q1; have q2 := zhx q2; first | omega | grind)

/- face pallet_2 -/
theorem rf_pallet_2 {Z Y : qz_Z} {dm : qz_Z → Int → Int → Int → Int → Int → Int → Int → qz_Z} {a1 : Int} (hRa : zR 0 Z Y) (hV : zV Y) (hI : zI none Z) (hd : zDf dm) (hD1 : zD1 0 Z Y) (hD4 : zD4 0 Z Y) (hN1 : zN1 Y) (hN4 : zN4 Y) (hDs : zDs 0 Z Y) (hDw : zDw 0 Z Y) (hDl : zDl 0 Z Y)  {C : qz_Z × Int × Int} {M : qz_Z × Int} (hC : zE C (zx_225 Z a1 2)) (hM : zE M (zy_448 Y a1 2)) : zR 0 C.1 M.1 ∧ zV M.1 ∧ zDd [] [99999] Z Y dm C.1 M.1 ∧ zThr [(24, 1), (13, 2)] C.2 (M.1 1 0 0 2) M.2 := by
  have hRb := zRx_0 hRa
  have hF : zFc [] 0 Z Z := zFc_r
  have hG : yFr [99999] Y Y := yFr_r
  unfold zx_225 at hC
  unfold zy_448 at hM
  have q1 := zhd (zVr_11_3 (a := 102) hV (by omega))
  have q2 := zhd ((zRl_11_3 (a := 102) hRa (by omega)))
  rcases zE_c hC with ⟨h3, hC⟩ | ⟨h3, hC⟩
  · replace hC := zE_p hC (by first | (have q1 := zhx q1; have q2 := zhx q2; omega) | (simp only [zhx q1, zhx q2] at h3 ⊢ <;> omega))
    obtain ⟨v5, g4, hC⟩ := zl_x hC
    replace g4 : zE _ _ := g4
    unfold zf_108 at g4
    replace g4 := zE_p g4 (by first | (have q1 := zhx q1; have q2 := zhx q2; omega) | (simp only [zhx q1, zhx q2] at h3 ⊢ <;> omega))
    replace g4 := zE_p g4 (by first | (have q1 := zhx q1; have q2 := zhx q2; omega) | (simp only [zhx q1, zhx q2] at h3 ⊢ <;> omega))
    have q6 := zhd ((zRl_44_2 (x := a1) (a := 202 + 20 * a1) hRa (by have q1 := zhx q1; have q2 := zhx q2; omega) (by have q1 := zhx q1; have q2 := zhx q2; omega) (by have q1 := zhx q1; have q2 := zhx q2; omega)))
    have e9 : (Z 44 0 a1 2) = v5 := Eq.symm g4
    subst e9
    replace hM := zE_n hM (by first | (have q1 := zhx q1; have q2 := zhx q2; omega) | (simp only [zhx q1, zhx q2] at h3 ⊢ <;> omega))
    replace hM := zE_n hM (by first | (have q1 := zhx q1; have q2 := zhx q2; omega) | (simp only [zhx q1, zhx q2] at h3 ⊢ <;> omega))
    obtain ⟨Ym7, hYm7, hM⟩ := zl_x hM
    have hR8 : zRx [] 0 Z Ym7 := zRx_o hRb hYm7 rfl
    have hV9 : zV Ym7 := zV_o hV hYm7 rfl
    have hG10 := yFr_o hG hYm7 rfl (.inr rfl) rfl
    replace hM := zE_n hM (by first | (have q1 := zhx q1; have q2 := zhx q2; omega) | (simp only [zhx q1, zhx q2] at h3 ⊢ <;> omega))
    replace hM := zE_n hM (by first | (have q1 := zhx q1; have q2 := zhx q2; omega) | (simp only [zhx q1, zhx q2] at h3 ⊢ <;> omega))
    obtain ⟨Ym11, hYm11, hM⟩ := zl_x hM
    have hR12 : zRx [] 0 Z Ym11 := zRx_o hR8 hYm11 rfl
    have hV13 : zV Ym11 := zV_o hV9 hYm11 rfl
    have hG14 := yFr_o hG10 hYm11 rfl (.inr rfl) rfl
    obtain ⟨v16, g15, hM⟩ := zl_x hM
    replace g15 : zE _ _ := g15
    unfold zf_480 at g15
    replace g15 := zE_p g15 (by first | (have q1 := zhx q1; have q2 := zhx q2; omega) | (simp only [zhx q1, zhx q2] at h3 ⊢ <;> omega))
    have q17 := zhd (congrArg (Ym11 2 0 0) (show (200 + 20 * a1 + 2) = 202 + 20 * a1 from (by have q1 := zhx q1; have q2 := zhx q2; omega)))
    have q18 := zhd (((zu_ne (k' := 2) (b' := 0) (i' := 0) (j' := 202 + 20 * a1) hYm11 (fun q => absurd q.1 (by decide))).trans (zu_ne (k' := 2) (b' := 0) (i' := 0) (j' := 202 + 20 * a1) hYm7 (fun q => absurd q.1 (by decide)))))
    have e9 : (Ym11 2 0 0 (200 + 20 * a1 + 2)) = v16 := Eq.symm g15
    subst e9
    have th9 := (zu_at hYm11)
    obtain rfl : C = _ := hC
    obtain rfl : M = _ := hM
    exact ⟨zRx_1 hR12, hV13, ⟨Z, _, .inl ⟨rfl, yFr_w hG14 (by decide)⟩, zFc_r, yFr_r⟩, zThr_a th9 (by first | rfl | (have q1 := zhx q1; have q2 := zhx q2; have q6 := zhx q6; have q17 := zhx q17; have q18 := zhx q18; omega) | (simp only [zhx q1, zhx q2, zhx q6, zhx q17, zhx q18] <;> omega) | (have q1 := zhx q1; have q2 := zhx q2; have q6 := zhx q6; have q17 := zhx q17; have q18 := zhx q18; refine w3z ?_ ?_ ?_ <;> omega) | (have q1 := zhx q1; have q2 := zhx q2; have q6 := zhx q6; have q17 := zhx q17; have q18 := zhx q18; refine w3y ?_ ?_ ?_ <;> omega) | (have q1 := zhx q1; have q2 := zhx q2; have q6 := zhx q6; have q17 := zhx q17; have q18 := zhx q18; refine z2o ?_ ?_ ?_ <;> omega))⟩
  · rcases zE_c hM with ⟨h19, hM⟩ | ⟨h19, hM⟩
    · obtain ⟨Ym20, hYm20, hM⟩ := zl_x hM
      have hR21 : zRx [] 0 Z Ym20 := zRx_o hRb hYm20 rfl
      have hV22 : zV Ym20 := zV_o hV hYm20 rfl
      have hG23 := yFr_o hG hYm20 rfl (.inr rfl) rfl
      have th9 := (zu_at hYm20)
      obtain rfl : C = _ := hC
      obtain rfl : M = _ := hM
      exact ⟨zRx_1 hR21, hV22, ⟨Z, _, .inl ⟨rfl, yFr_w hG23 (by decide)⟩, zFc_r, yFr_r⟩, zThr_e th9 (by decide)⟩
    · rcases zE_c hM with ⟨h24, hM⟩ | ⟨h24, hM⟩
      · obtain ⟨Ym25, hYm25, hM⟩ := zl_x hM
        have hR26 : zRx [] 0 Z Ym25 := zRx_o hRb hYm25 rfl
        have hV27 : zV Ym25 := zV_o hV hYm25 rfl
        have hG28 := yFr_o hG hYm25 rfl (.inr rfl) rfl
        have th9 := (zu_at hYm25)
        obtain rfl : C = _ := hC
        obtain rfl : M = _ := hM
        exact ⟨zRx_1 hR26, hV27, ⟨Z, _, .inl ⟨rfl, yFr_w hG28 (by decide)⟩, zFc_r, yFr_r⟩, zThr_e th9 (by decide)⟩
      · obtain ⟨Ym29, hYm29, hM⟩ := zl_x hM
        have hR30 : zRx [] 0 Z Ym29 := zRx_o hRb hYm29 rfl
        have hV31 : zV Ym29 := zV_o hV hYm29 rfl
        have hG32 := yFr_o hG hYm29 rfl (.inr rfl) rfl
        replace hM := zE_n hM (by first | (have q1 := zhx q1; have q2 := zhx q2; omega) | (simp only [zhx q1, zhx q2] at h3 h19 h24 ⊢ <;> omega))
        replace hM := zE_n hM (by first | (have q1 := zhx q1; have q2 := zhx q2; omega) | (simp only [zhx q1, zhx q2] at h3 h19 h24 ⊢ <;> omega))
        obtain ⟨Ym33, hYm33, hM⟩ := zl_x hM
        have hR34 : zRx [] 0 Z Ym33 := zRx_o hR30 hYm33 rfl
        have hV35 : zV Ym33 := zV_o hV31 hYm33 rfl
        have hG36 := yFr_o hG32 hYm33 rfl (.inr rfl) rfl
        obtain ⟨v38, g37, hM⟩ := zl_x hM
        replace g37 : zE _ _ := g37
        unfold zf_480 at g37
        replace g37 := zE_p g37 (by first | (have q1 := zhx q1; have q2 := zhx q2; omega) | (simp only [zhx q1, zhx q2] at h3 h19 h24 ⊢ <;> omega))
        have q39 := zhd (congrArg (Ym33 2 0 0) (show (200 + 20 * a1 + 2) = 202 + 20 * a1 from (by have q1 := zhx q1; have q2 := zhx q2; omega)))
        have q40 := zhd (((zu_ne (k' := 2) (b' := 0) (i' := 0) (j' := 202 + 20 * a1) hYm33 (fun q => absurd q.1 (by decide))).trans (zu_ne (k' := 2) (b' := 0) (i' := 0) (j' := 202 + 20 * a1) hYm29 (fun q => absurd q.1 (by decide)))))
        have e9 : (Ym33 2 0 0 (200 + 20 * a1 + 2)) = v38 := Eq.symm g37
        subst e9
        exact False.elim (by have q1 := zhx q1; have q2 := zhx q2; first | omega | grind)

/- face pallet_3 -/
theorem rf_pallet_3 {Z Y : qz_Z} {dm : qz_Z → Int → Int → Int → Int → Int → Int → Int → qz_Z} {a1 : Int} (hRa : zR 0 Z Y) (hV : zV Y) (hI : zI none Z) (hd : zDf dm) (hD1 : zD1 0 Z Y) (hD4 : zD4 0 Z Y) (hN1 : zN1 Y) (hN4 : zN4 Y) (hDs : zDs 0 Z Y) (hDw : zDw 0 Z Y) (hDl : zDl 0 Z Y)  {C : qz_Z × Int × Int} {M : qz_Z × Int} (hC : zE C (zx_225 Z a1 3)) (hM : zE M (zy_448 Y a1 3)) : zR 0 C.1 M.1 ∧ zV M.1 ∧ zDd [] [99999] Z Y dm C.1 M.1 ∧ zThr [(24, 1), (13, 2)] C.2 (M.1 1 0 0 2) M.2 := by
  have hRb := zRx_0 hRa
  have hF : zFc [] 0 Z Z := zFc_r
  have hG : yFr [99999] Y Y := yFr_r
  unfold zx_225 at hC
  unfold zy_448 at hM
  have q1 := zhd (zVr_11_3 (a := 102) hV (by omega))
  have q2 := zhd ((zRl_11_3 (a := 102) hRa (by omega)))
  rcases zE_c hC with ⟨h3, hC⟩ | ⟨h3, hC⟩
  · replace hC := zE_p hC (by first | (have q1 := zhx q1; have q2 := zhx q2; omega) | (simp only [zhx q1, zhx q2] at h3 ⊢ <;> omega))
    obtain ⟨v5, g4, hC⟩ := zl_x hC
    replace g4 : zE _ _ := g4
    unfold zf_108 at g4
    replace g4 := zE_p g4 (by first | (have q1 := zhx q1; have q2 := zhx q2; omega) | (simp only [zhx q1, zhx q2] at h3 ⊢ <;> omega))
    replace g4 := zE_p g4 (by first | (have q1 := zhx q1; have q2 := zhx q2; omega) | (simp only [zhx q1, zhx q2] at h3 ⊢ <;> omega))
    have q6 := zhd ((zRl_44_3 (x := a1) (a := 203 + 20 * a1) hRa (by have q1 := zhx q1; have q2 := zhx q2; omega) (by have q1 := zhx q1; have q2 := zhx q2; omega) (by have q1 := zhx q1; have q2 := zhx q2; omega)))
    have e9 : (Z 44 0 a1 3) = v5 := Eq.symm g4
    subst e9
    replace hM := zE_n hM (by first | (have q1 := zhx q1; have q2 := zhx q2; omega) | (simp only [zhx q1, zhx q2] at h3 ⊢ <;> omega))
    replace hM := zE_n hM (by first | (have q1 := zhx q1; have q2 := zhx q2; omega) | (simp only [zhx q1, zhx q2] at h3 ⊢ <;> omega))
    obtain ⟨Ym7, hYm7, hM⟩ := zl_x hM
    have hR8 : zRx [] 0 Z Ym7 := zRx_o hRb hYm7 rfl
    have hV9 : zV Ym7 := zV_o hV hYm7 rfl
    have hG10 := yFr_o hG hYm7 rfl (.inr rfl) rfl
    replace hM := zE_n hM (by first | (have q1 := zhx q1; have q2 := zhx q2; omega) | (simp only [zhx q1, zhx q2] at h3 ⊢ <;> omega))
    replace hM := zE_n hM (by first | (have q1 := zhx q1; have q2 := zhx q2; omega) | (simp only [zhx q1, zhx q2] at h3 ⊢ <;> omega))
    obtain ⟨Ym11, hYm11, hM⟩ := zl_x hM
    have hR12 : zRx [] 0 Z Ym11 := zRx_o hR8 hYm11 rfl
    have hV13 : zV Ym11 := zV_o hV9 hYm11 rfl
    have hG14 := yFr_o hG10 hYm11 rfl (.inr rfl) rfl
    obtain ⟨v16, g15, hM⟩ := zl_x hM
    replace g15 : zE _ _ := g15
    unfold zf_480 at g15
    replace g15 := zE_p g15 (by first | (have q1 := zhx q1; have q2 := zhx q2; omega) | (simp only [zhx q1, zhx q2] at h3 ⊢ <;> omega))
    have q17 := zhd (congrArg (Ym11 2 0 0) (show (200 + 20 * a1 + 3) = 203 + 20 * a1 from (by have q1 := zhx q1; have q2 := zhx q2; omega)))
    have q18 := zhd (((zu_ne (k' := 2) (b' := 0) (i' := 0) (j' := 203 + 20 * a1) hYm11 (fun q => absurd q.1 (by decide))).trans (zu_ne (k' := 2) (b' := 0) (i' := 0) (j' := 203 + 20 * a1) hYm7 (fun q => absurd q.1 (by decide)))))
    have e9 : (Ym11 2 0 0 (200 + 20 * a1 + 3)) = v16 := Eq.symm g15
    subst e9
    have th9 := (zu_at hYm11)
    obtain rfl : C = _ := hC
    obtain rfl : M = _ := hM
    exact ⟨zRx_1 hR12, hV13, ⟨Z, _, .inl ⟨rfl, yFr_w hG14 (by decide)⟩, zFc_r, yFr_r⟩, zThr_a th9 (by first | rfl | (have q1 := zhx q1; have q2 := zhx q2; have q6 := zhx q6; have q17 := zhx q17; have q18 := zhx q18; omega) | (simp only [zhx q1, zhx q2, zhx q6, zhx q17, zhx q18] <;> omega) | (have q1 := zhx q1; have q2 := zhx q2; have q6 := zhx q6; have q17 := zhx q17; have q18 := zhx q18; refine w3z ?_ ?_ ?_ <;> omega) | (have q1 := zhx q1; have q2 := zhx q2; have q6 := zhx q6; have q17 := zhx q17; have q18 := zhx q18; refine w3y ?_ ?_ ?_ <;> omega) | (have q1 := zhx q1; have q2 := zhx q2; have q6 := zhx q6; have q17 := zhx q17; have q18 := zhx q18; refine z2o ?_ ?_ ?_ <;> omega))⟩
  · rcases zE_c hM with ⟨h19, hM⟩ | ⟨h19, hM⟩
    · obtain ⟨Ym20, hYm20, hM⟩ := zl_x hM
      have hR21 : zRx [] 0 Z Ym20 := zRx_o hRb hYm20 rfl
      have hV22 : zV Ym20 := zV_o hV hYm20 rfl
      have hG23 := yFr_o hG hYm20 rfl (.inr rfl) rfl
      have th9 := (zu_at hYm20)
      obtain rfl : C = _ := hC
      obtain rfl : M = _ := hM
      exact ⟨zRx_1 hR21, hV22, ⟨Z, _, .inl ⟨rfl, yFr_w hG23 (by decide)⟩, zFc_r, yFr_r⟩, zThr_e th9 (by decide)⟩
    · rcases zE_c hM with ⟨h24, hM⟩ | ⟨h24, hM⟩
      · obtain ⟨Ym25, hYm25, hM⟩ := zl_x hM
        have hR26 : zRx [] 0 Z Ym25 := zRx_o hRb hYm25 rfl
        have hV27 : zV Ym25 := zV_o hV hYm25 rfl
        have hG28 := yFr_o hG hYm25 rfl (.inr rfl) rfl
        have th9 := (zu_at hYm25)
        obtain rfl : C = _ := hC
        obtain rfl : M = _ := hM
        exact ⟨zRx_1 hR26, hV27, ⟨Z, _, .inl ⟨rfl, yFr_w hG28 (by decide)⟩, zFc_r, yFr_r⟩, zThr_e th9 (by decide)⟩
      · obtain ⟨Ym29, hYm29, hM⟩ := zl_x hM
        have hR30 : zRx [] 0 Z Ym29 := zRx_o hRb hYm29 rfl
        have hV31 : zV Ym29 := zV_o hV hYm29 rfl
        have hG32 := yFr_o hG hYm29 rfl (.inr rfl) rfl
        replace hM := zE_n hM (by first | (have q1 := zhx q1; have q2 := zhx q2; omega) | (simp only [zhx q1, zhx q2] at h3 h19 h24 ⊢ <;> omega))
        replace hM := zE_n hM (by first | (have q1 := zhx q1; have q2 := zhx q2; omega) | (simp only [zhx q1, zhx q2] at h3 h19 h24 ⊢ <;> omega))
        obtain ⟨Ym33, hYm33, hM⟩ := zl_x hM
        have hR34 : zRx [] 0 Z Ym33 := zRx_o hR30 hYm33 rfl
        have hV35 : zV Ym33 := zV_o hV31 hYm33 rfl
        have hG36 := yFr_o hG32 hYm33 rfl (.inr rfl) rfl
        obtain ⟨v38, g37, hM⟩ := zl_x hM
        replace g37 : zE _ _ := g37
        unfold zf_480 at g37
        replace g37 := zE_p g37 (by first | (have q1 := zhx q1; have q2 := zhx q2; omega) | (simp only [zhx q1, zhx q2] at h3 h19 h24 ⊢ <;> omega))
        have q39 := zhd (congrArg (Ym33 2 0 0) (show (200 + 20 * a1 + 3) = 203 + 20 * a1 from (by have q1 := zhx q1; have q2 := zhx q2; omega)))
        have q40 := zhd (((zu_ne (k' := 2) (b' := 0) (i' := 0) (j' := 203 + 20 * a1) hYm33 (fun q => absurd q.1 (by decide))).trans (zu_ne (k' := 2) (b' := 0) (i' := 0) (j' := 203 + 20 * a1) hYm29 (fun q => absurd q.1 (by decide)))))
        have e9 : (Ym33 2 0 0 (200 + 20 * a1 + 3)) = v38 := Eq.symm g37
        subst e9
        exact False.elim (by have q1 := zhx q1; have q2 := zhx q2; first | omega | grind)

/- face pallet_4 -/
theorem rf_pallet_4 {Z Y : qz_Z} {dm : qz_Z → Int → Int → Int → Int → Int → Int → Int → qz_Z} {a1 : Int} (hRa : zR 0 Z Y) (hV : zV Y) (hI : zI none Z) (hd : zDf dm) (hD1 : zD1 0 Z Y) (hD4 : zD4 0 Z Y) (hN1 : zN1 Y) (hN4 : zN4 Y) (hDs : zDs 0 Z Y) (hDw : zDw 0 Z Y) (hDl : zDl 0 Z Y)  {C : qz_Z × Int × Int} {M : qz_Z × Int} (hC : zE C (zx_225 Z a1 4)) (hM : zE M (zy_448 Y a1 4)) : zR 0 C.1 M.1 ∧ zV M.1 ∧ zDd [] [99999] Z Y dm C.1 M.1 ∧ zThr [(24, 1), (13, 2)] C.2 (M.1 1 0 0 2) M.2 := by
  have hRb := zRx_0 hRa
  have hF : zFc [] 0 Z Z := zFc_r
  have hG : yFr [99999] Y Y := yFr_r
  unfold zx_225 at hC
  unfold zy_448 at hM
  have q1 := zhd (zVr_11_3 (a := 102) hV (by omega))
  have q2 := zhd ((zRl_11_3 (a := 102) hRa (by omega)))
  rcases zE_c hC with ⟨h3, hC⟩ | ⟨h3, hC⟩
  · replace hC := zE_p hC (by first | (have q1 := zhx q1; have q2 := zhx q2; omega) | (simp only [zhx q1, zhx q2] at h3 ⊢ <;> omega))
    obtain ⟨v5, g4, hC⟩ := zl_x hC
    replace g4 : zE _ _ := g4
    unfold zf_108 at g4
    replace g4 := zE_p g4 (by first | (have q1 := zhx q1; have q2 := zhx q2; omega) | (simp only [zhx q1, zhx q2] at h3 ⊢ <;> omega))
    replace g4 := zE_p g4 (by first | (have q1 := zhx q1; have q2 := zhx q2; omega) | (simp only [zhx q1, zhx q2] at h3 ⊢ <;> omega))
    have q6 := zhd ((zRl_44_4 (x := a1) (a := 204 + 20 * a1) hRa (by have q1 := zhx q1; have q2 := zhx q2; omega) (by have q1 := zhx q1; have q2 := zhx q2; omega) (by have q1 := zhx q1; have q2 := zhx q2; omega)))
    have e9 : (Z 44 0 a1 4) = v5 := Eq.symm g4
    subst e9
    replace hM := zE_n hM (by first | (have q1 := zhx q1; have q2 := zhx q2; omega) | (simp only [zhx q1, zhx q2] at h3 ⊢ <;> omega))
    replace hM := zE_n hM (by first | (have q1 := zhx q1; have q2 := zhx q2; omega) | (simp only [zhx q1, zhx q2] at h3 ⊢ <;> omega))
    obtain ⟨Ym7, hYm7, hM⟩ := zl_x hM
    have hR8 : zRx [] 0 Z Ym7 := zRx_o hRb hYm7 rfl
    have hV9 : zV Ym7 := zV_o hV hYm7 rfl
    have hG10 := yFr_o hG hYm7 rfl (.inr rfl) rfl
    replace hM := zE_n hM (by first | (have q1 := zhx q1; have q2 := zhx q2; omega) | (simp only [zhx q1, zhx q2] at h3 ⊢ <;> omega))
    replace hM := zE_n hM (by first | (have q1 := zhx q1; have q2 := zhx q2; omega) | (simp only [zhx q1, zhx q2] at h3 ⊢ <;> omega))
    obtain ⟨Ym11, hYm11, hM⟩ := zl_x hM
    have hR12 : zRx [] 0 Z Ym11 := zRx_o hR8 hYm11 rfl
    have hV13 : zV Ym11 := zV_o hV9 hYm11 rfl
    have hG14 := yFr_o hG10 hYm11 rfl (.inr rfl) rfl
    obtain ⟨v16, g15, hM⟩ := zl_x hM
    replace g15 : zE _ _ := g15
    unfold zf_480 at g15
    replace g15 := zE_p g15 (by first | (have q1 := zhx q1; have q2 := zhx q2; omega) | (simp only [zhx q1, zhx q2] at h3 ⊢ <;> omega))
    have q17 := zhd (congrArg (Ym11 2 0 0) (show (200 + 20 * a1 + 4) = 204 + 20 * a1 from (by have q1 := zhx q1; have q2 := zhx q2; omega)))
    have q18 := zhd (((zu_ne (k' := 2) (b' := 0) (i' := 0) (j' := 204 + 20 * a1) hYm11 (fun q => absurd q.1 (by decide))).trans (zu_ne (k' := 2) (b' := 0) (i' := 0) (j' := 204 + 20 * a1) hYm7 (fun q => absurd q.1 (by decide)))))
    have e9 : (Ym11 2 0 0 (200 + 20 * a1 + 4)) = v16 := Eq.symm g15
    subst e9
    have th9 := (zu_at hYm11)
    obtain rfl : C = _ := hC
    obtain rfl : M = _ := hM
    exact ⟨zRx_1 hR12, hV13, ⟨Z, _, .inl ⟨rfl, yFr_w hG14 (by decide)⟩, zFc_r, yFr_r⟩, zThr_a th9 (by first | rfl | (have q1 := zhx q1; have q2 := zhx q2; have q6 := zhx q6; have q17 := zhx q17; have q18 := zhx q18; omega) | (simp only [zhx q1, zhx q2, zhx q6, zhx q17, zhx q18] <;> omega) | (have q1 := zhx q1; have q2 := zhx q2; have q6 := zhx q6; have q17 := zhx q17; have q18 := zhx q18; refine w3z ?_ ?_ ?_ <;> omega) | (have q1 := zhx q1; have q2 := zhx q2; have q6 := zhx q6; have q17 := zhx q17; have q18 := zhx q18; refine w3y ?_ ?_ ?_ <;> omega) | (have q1 := zhx q1; have q2 := zhx q2; have q6 := zhx q6; have q17 := zhx q17; have q18 := zhx q18; refine z2o ?_ ?_ ?_ <;> omega))⟩
  · rcases zE_c hM with ⟨h19, hM⟩ | ⟨h19, hM⟩
    · obtain ⟨Ym20, hYm20, hM⟩ := zl_x hM
      have hR21 : zRx [] 0 Z Ym20 := zRx_o hRb hYm20 rfl
      have hV22 : zV Ym20 := zV_o hV hYm20 rfl
      have hG23 := yFr_o hG hYm20 rfl (.inr rfl) rfl
      have th9 := (zu_at hYm20)
      obtain rfl : C = _ := hC
      obtain rfl : M = _ := hM
      exact ⟨zRx_1 hR21, hV22, ⟨Z, _, .inl ⟨rfl, yFr_w hG23 (by decide)⟩, zFc_r, yFr_r⟩, zThr_e th9 (by decide)⟩
    · rcases zE_c hM with ⟨h24, hM⟩ | ⟨h24, hM⟩
      · obtain ⟨Ym25, hYm25, hM⟩ := zl_x hM
        have hR26 : zRx [] 0 Z Ym25 := zRx_o hRb hYm25 rfl
        have hV27 : zV Ym25 := zV_o hV hYm25 rfl
        have hG28 := yFr_o hG hYm25 rfl (.inr rfl) rfl
        have th9 := (zu_at hYm25)
        obtain rfl : C = _ := hC
        obtain rfl : M = _ := hM
        exact ⟨zRx_1 hR26, hV27, ⟨Z, _, .inl ⟨rfl, yFr_w hG28 (by decide)⟩, zFc_r, yFr_r⟩, zThr_e th9 (by decide)⟩
      · obtain ⟨Ym29, hYm29, hM⟩ := zl_x hM
        have hR30 : zRx [] 0 Z Ym29 := zRx_o hRb hYm29 rfl
        have hV31 : zV Ym29 := zV_o hV hYm29 rfl
        have hG32 := yFr_o hG hYm29 rfl (.inr rfl) rfl
        replace hM := zE_n hM (by first | (have q1 := zhx q1; have q2 := zhx q2; omega) | (simp only [zhx q1, zhx q2] at h3 h19 h24 ⊢ <;> omega))
        replace hM := zE_n hM (by first | (have q1 := zhx q1; have q2 := zhx q2; omega) | (simp only [zhx q1, zhx q2] at h3 h19 h24 ⊢ <;> omega))
        obtain ⟨Ym33, hYm33, hM⟩ := zl_x hM
        have hR34 : zRx [] 0 Z Ym33 := zRx_o hR30 hYm33 rfl
        have hV35 : zV Ym33 := zV_o hV31 hYm33 rfl
        have hG36 := yFr_o hG32 hYm33 rfl (.inr rfl) rfl
        obtain ⟨v38, g37, hM⟩ := zl_x hM
        replace g37 : zE _ _ := g37
        unfold zf_480 at g37
        replace g37 := zE_p g37 (by first | (have q1 := zhx q1; have q2 := zhx q2; omega) | (simp only [zhx q1, zhx q2] at h3 h19 h24 ⊢ <;> omega))
        have q39 := zhd (congrArg (Ym33 2 0 0) (show (200 + 20 * a1 + 4) = 204 + 20 * a1 from (by have q1 := zhx q1; have q2 := zhx q2; omega)))
        have q40 := zhd (((zu_ne (k' := 2) (b' := 0) (i' := 0) (j' := 204 + 20 * a1) hYm33 (fun q => absurd q.1 (by decide))).trans (zu_ne (k' := 2) (b' := 0) (i' := 0) (j' := 204 + 20 * a1) hYm29 (fun q => absurd q.1 (by decide)))))
        have e9 : (Ym33 2 0 0 (200 + 20 * a1 + 4)) = v38 := Eq.symm g37
        subst e9
        exact False.elim (by have q1 := zhx q1; have q2 := zhx q2; first | omega | grind)

/- face pallet_5 -/
theorem rf_pallet_5 {Z Y : qz_Z} {dm : qz_Z → Int → Int → Int → Int → Int → Int → Int → qz_Z} {a1 : Int} (hRa : zR 0 Z Y) (hV : zV Y) (hI : zI none Z) (hd : zDf dm) (hD1 : zD1 0 Z Y) (hD4 : zD4 0 Z Y) (hN1 : zN1 Y) (hN4 : zN4 Y) (hDs : zDs 0 Z Y) (hDw : zDw 0 Z Y) (hDl : zDl 0 Z Y)  {C : qz_Z × Int × Int} {M : qz_Z × Int} (hC : zE C (zx_225 Z a1 5)) (hM : zE M (zy_448 Y a1 5)) : zR 0 C.1 M.1 ∧ zV M.1 ∧ zDd [] [99999] Z Y dm C.1 M.1 ∧ zThr [(24, 1), (13, 2)] C.2 (M.1 1 0 0 2) M.2 := by
  have hRb := zRx_0 hRa
  have hF : zFc [] 0 Z Z := zFc_r
  have hG : yFr [99999] Y Y := yFr_r
  unfold zx_225 at hC
  unfold zy_448 at hM
  have q1 := zhd (zVr_11_3 (a := 102) hV (by omega))
  have q2 := zhd ((zRl_11_3 (a := 102) hRa (by omega)))
  rcases zE_c hC with ⟨h3, hC⟩ | ⟨h3, hC⟩
  · replace hC := zE_p hC (by first | (have q1 := zhx q1; have q2 := zhx q2; omega) | (simp only [zhx q1, zhx q2] at h3 ⊢ <;> omega))
    obtain ⟨v5, g4, hC⟩ := zl_x hC
    replace g4 : zE _ _ := g4
    unfold zf_108 at g4
    replace g4 := zE_p g4 (by first | (have q1 := zhx q1; have q2 := zhx q2; omega) | (simp only [zhx q1, zhx q2] at h3 ⊢ <;> omega))
    replace g4 := zE_p g4 (by first | (have q1 := zhx q1; have q2 := zhx q2; omega) | (simp only [zhx q1, zhx q2] at h3 ⊢ <;> omega))
    have q6 := zhd ((zRl_44_5 (x := a1) (a := 205 + 20 * a1) hRa (by have q1 := zhx q1; have q2 := zhx q2; omega) (by have q1 := zhx q1; have q2 := zhx q2; omega) (by have q1 := zhx q1; have q2 := zhx q2; omega)))
    have e9 : (Z 44 0 a1 5) = v5 := Eq.symm g4
    subst e9
    replace hM := zE_n hM (by first | (have q1 := zhx q1; have q2 := zhx q2; omega) | (simp only [zhx q1, zhx q2] at h3 ⊢ <;> omega))
    replace hM := zE_n hM (by first | (have q1 := zhx q1; have q2 := zhx q2; omega) | (simp only [zhx q1, zhx q2] at h3 ⊢ <;> omega))
    obtain ⟨Ym7, hYm7, hM⟩ := zl_x hM
    have hR8 : zRx [] 0 Z Ym7 := zRx_o hRb hYm7 rfl
    have hV9 : zV Ym7 := zV_o hV hYm7 rfl
    have hG10 := yFr_o hG hYm7 rfl (.inr rfl) rfl
    replace hM := zE_n hM (by first | (have q1 := zhx q1; have q2 := zhx q2; omega) | (simp only [zhx q1, zhx q2] at h3 ⊢ <;> omega))
    replace hM := zE_n hM (by first | (have q1 := zhx q1; have q2 := zhx q2; omega) | (simp only [zhx q1, zhx q2] at h3 ⊢ <;> omega))
    obtain ⟨Ym11, hYm11, hM⟩ := zl_x hM
    have hR12 : zRx [] 0 Z Ym11 := zRx_o hR8 hYm11 rfl
    have hV13 : zV Ym11 := zV_o hV9 hYm11 rfl
    have hG14 := yFr_o hG10 hYm11 rfl (.inr rfl) rfl
    obtain ⟨v16, g15, hM⟩ := zl_x hM
    replace g15 : zE _ _ := g15
    unfold zf_480 at g15
    replace g15 := zE_p g15 (by first | (have q1 := zhx q1; have q2 := zhx q2; omega) | (simp only [zhx q1, zhx q2] at h3 ⊢ <;> omega))
    have q17 := zhd (congrArg (Ym11 2 0 0) (show (200 + 20 * a1 + 5) = 205 + 20 * a1 from (by have q1 := zhx q1; have q2 := zhx q2; omega)))
    have q18 := zhd (((zu_ne (k' := 2) (b' := 0) (i' := 0) (j' := 205 + 20 * a1) hYm11 (fun q => absurd q.1 (by decide))).trans (zu_ne (k' := 2) (b' := 0) (i' := 0) (j' := 205 + 20 * a1) hYm7 (fun q => absurd q.1 (by decide)))))
    have e9 : (Ym11 2 0 0 (200 + 20 * a1 + 5)) = v16 := Eq.symm g15
    subst e9
    have th9 := (zu_at hYm11)
    obtain rfl : C = _ := hC
    obtain rfl : M = _ := hM
    exact ⟨zRx_1 hR12, hV13, ⟨Z, _, .inl ⟨rfl, yFr_w hG14 (by decide)⟩, zFc_r, yFr_r⟩, zThr_a th9 (by first | rfl | (have q1 := zhx q1; have q2 := zhx q2; have q6 := zhx q6; have q17 := zhx q17; have q18 := zhx q18; omega) | (simp only [zhx q1, zhx q2, zhx q6, zhx q17, zhx q18] <;> omega) | (have q1 := zhx q1; have q2 := zhx q2; have q6 := zhx q6; have q17 := zhx q17; have q18 := zhx q18; refine w3z ?_ ?_ ?_ <;> omega) | (have q1 := zhx q1; have q2 := zhx q2; have q6 := zhx q6; have q17 := zhx q17; have q18 := zhx q18; refine w3y ?_ ?_ ?_ <;> omega) | (have q1 := zhx q1; have q2 := zhx q2; have q6 := zhx q6; have q17 := zhx q17; have q18 := zhx q18; refine z2o ?_ ?_ ?_ <;> omega))⟩
  · rcases zE_c hM with ⟨h19, hM⟩ | ⟨h19, hM⟩
    · obtain ⟨Ym20, hYm20, hM⟩ := zl_x hM
      have hR21 : zRx [] 0 Z Ym20 := zRx_o hRb hYm20 rfl
      have hV22 : zV Ym20 := zV_o hV hYm20 rfl
      have hG23 := yFr_o hG hYm20 rfl (.inr rfl) rfl
      have th9 := (zu_at hYm20)
      obtain rfl : C = _ := hC
      obtain rfl : M = _ := hM
      exact ⟨zRx_1 hR21, hV22, ⟨Z, _, .inl ⟨rfl, yFr_w hG23 (by decide)⟩, zFc_r, yFr_r⟩, zThr_e th9 (by decide)⟩
    · rcases zE_c hM with ⟨h24, hM⟩ | ⟨h24, hM⟩
      · obtain ⟨Ym25, hYm25, hM⟩ := zl_x hM
        have hR26 : zRx [] 0 Z Ym25 := zRx_o hRb hYm25 rfl
        have hV27 : zV Ym25 := zV_o hV hYm25 rfl
        have hG28 := yFr_o hG hYm25 rfl (.inr rfl) rfl
        have th9 := (zu_at hYm25)
        obtain rfl : C = _ := hC
        obtain rfl : M = _ := hM
        exact ⟨zRx_1 hR26, hV27, ⟨Z, _, .inl ⟨rfl, yFr_w hG28 (by decide)⟩, zFc_r, yFr_r⟩, zThr_e th9 (by decide)⟩
      · obtain ⟨Ym29, hYm29, hM⟩ := zl_x hM
        have hR30 : zRx [] 0 Z Ym29 := zRx_o hRb hYm29 rfl
        have hV31 : zV Ym29 := zV_o hV hYm29 rfl
        have hG32 := yFr_o hG hYm29 rfl (.inr rfl) rfl
        replace hM := zE_n hM (by first | (have q1 := zhx q1; have q2 := zhx q2; omega) | (simp only [zhx q1, zhx q2] at h3 h19 h24 ⊢ <;> omega))
        replace hM := zE_n hM (by first | (have q1 := zhx q1; have q2 := zhx q2; omega) | (simp only [zhx q1, zhx q2] at h3 h19 h24 ⊢ <;> omega))
        obtain ⟨Ym33, hYm33, hM⟩ := zl_x hM
        have hR34 : zRx [] 0 Z Ym33 := zRx_o hR30 hYm33 rfl
        have hV35 : zV Ym33 := zV_o hV31 hYm33 rfl
        have hG36 := yFr_o hG32 hYm33 rfl (.inr rfl) rfl
        obtain ⟨v38, g37, hM⟩ := zl_x hM
        replace g37 : zE _ _ := g37
        unfold zf_480 at g37
        replace g37 := zE_p g37 (by first | (have q1 := zhx q1; have q2 := zhx q2; omega) | (simp only [zhx q1, zhx q2] at h3 h19 h24 ⊢ <;> omega))
        have q39 := zhd (congrArg (Ym33 2 0 0) (show (200 + 20 * a1 + 5) = 205 + 20 * a1 from (by have q1 := zhx q1; have q2 := zhx q2; omega)))
        have q40 := zhd (((zu_ne (k' := 2) (b' := 0) (i' := 0) (j' := 205 + 20 * a1) hYm33 (fun q => absurd q.1 (by decide))).trans (zu_ne (k' := 2) (b' := 0) (i' := 0) (j' := 205 + 20 * a1) hYm29 (fun q => absurd q.1 (by decide)))))
        have e9 : (Ym33 2 0 0 (200 + 20 * a1 + 5)) = v38 := Eq.symm g37
        subst e9
        exact False.elim (by have q1 := zhx q1; have q2 := zhx q2; first | omega | grind)

/- face pallet_6 -/
theorem rf_pallet_6 {Z Y : qz_Z} {dm : qz_Z → Int → Int → Int → Int → Int → Int → Int → qz_Z} {a1 : Int} (hRa : zR 0 Z Y) (hV : zV Y) (hI : zI none Z) (hd : zDf dm) (hD1 : zD1 0 Z Y) (hD4 : zD4 0 Z Y) (hN1 : zN1 Y) (hN4 : zN4 Y) (hDs : zDs 0 Z Y) (hDw : zDw 0 Z Y) (hDl : zDl 0 Z Y)  {C : qz_Z × Int × Int} {M : qz_Z × Int} (hC : zE C (zx_225 Z a1 6)) (hM : zE M (zy_448 Y a1 6)) : zR 0 C.1 M.1 ∧ zV M.1 ∧ zDd [] [99999] Z Y dm C.1 M.1 ∧ zThr [(24, 1), (13, 2)] C.2 (M.1 1 0 0 2) M.2 := by
  have hRb := zRx_0 hRa
  have hF : zFc [] 0 Z Z := zFc_r
  have hG : yFr [99999] Y Y := yFr_r
  unfold zx_225 at hC
  unfold zy_448 at hM
  have q1 := zhd (zVr_11_3 (a := 102) hV (by omega))
  have q2 := zhd ((zRl_11_3 (a := 102) hRa (by omega)))
  rcases zE_c hC with ⟨h3, hC⟩ | ⟨h3, hC⟩
  · replace hC := zE_p hC (by first | (have q1 := zhx q1; have q2 := zhx q2; omega) | (simp only [zhx q1, zhx q2] at h3 ⊢ <;> omega))
    obtain ⟨v5, g4, hC⟩ := zl_x hC
    replace g4 : zE _ _ := g4
    unfold zf_108 at g4
    replace g4 := zE_p g4 (by first | (have q1 := zhx q1; have q2 := zhx q2; omega) | (simp only [zhx q1, zhx q2] at h3 ⊢ <;> omega))
    replace g4 := zE_p g4 (by first | (have q1 := zhx q1; have q2 := zhx q2; omega) | (simp only [zhx q1, zhx q2] at h3 ⊢ <;> omega))
    have q6 := zhd ((zRl_44_6 (x := a1) (a := 206 + 20 * a1) hRa (by have q1 := zhx q1; have q2 := zhx q2; omega) (by have q1 := zhx q1; have q2 := zhx q2; omega) (by have q1 := zhx q1; have q2 := zhx q2; omega)))
    have e9 : (Z 44 0 a1 6) = v5 := Eq.symm g4
    subst e9
    replace hM := zE_n hM (by first | (have q1 := zhx q1; have q2 := zhx q2; omega) | (simp only [zhx q1, zhx q2] at h3 ⊢ <;> omega))
    replace hM := zE_n hM (by first | (have q1 := zhx q1; have q2 := zhx q2; omega) | (simp only [zhx q1, zhx q2] at h3 ⊢ <;> omega))
    obtain ⟨Ym7, hYm7, hM⟩ := zl_x hM
    have hR8 : zRx [] 0 Z Ym7 := zRx_o hRb hYm7 rfl
    have hV9 : zV Ym7 := zV_o hV hYm7 rfl
    have hG10 := yFr_o hG hYm7 rfl (.inr rfl) rfl
    replace hM := zE_n hM (by first | (have q1 := zhx q1; have q2 := zhx q2; omega) | (simp only [zhx q1, zhx q2] at h3 ⊢ <;> omega))
    replace hM := zE_n hM (by first | (have q1 := zhx q1; have q2 := zhx q2; omega) | (simp only [zhx q1, zhx q2] at h3 ⊢ <;> omega))
    obtain ⟨Ym11, hYm11, hM⟩ := zl_x hM
    have hR12 : zRx [] 0 Z Ym11 := zRx_o hR8 hYm11 rfl
    have hV13 : zV Ym11 := zV_o hV9 hYm11 rfl
    have hG14 := yFr_o hG10 hYm11 rfl (.inr rfl) rfl
    obtain ⟨v16, g15, hM⟩ := zl_x hM
    replace g15 : zE _ _ := g15
    unfold zf_480 at g15
    replace g15 := zE_p g15 (by first | (have q1 := zhx q1; have q2 := zhx q2; omega) | (simp only [zhx q1, zhx q2] at h3 ⊢ <;> omega))
    have q17 := zhd (congrArg (Ym11 2 0 0) (show (200 + 20 * a1 + 6) = 206 + 20 * a1 from (by have q1 := zhx q1; have q2 := zhx q2; omega)))
    have q18 := zhd (((zu_ne (k' := 2) (b' := 0) (i' := 0) (j' := 206 + 20 * a1) hYm11 (fun q => absurd q.1 (by decide))).trans (zu_ne (k' := 2) (b' := 0) (i' := 0) (j' := 206 + 20 * a1) hYm7 (fun q => absurd q.1 (by decide)))))
    have e9 : (Ym11 2 0 0 (200 + 20 * a1 + 6)) = v16 := Eq.symm g15
    subst e9
    have th9 := (zu_at hYm11)
    obtain rfl : C = _ := hC
    obtain rfl : M = _ := hM
    exact ⟨zRx_1 hR12, hV13, ⟨Z, _, .inl ⟨rfl, yFr_w hG14 (by decide)⟩, zFc_r, yFr_r⟩, zThr_a th9 (by first | rfl | (have q1 := zhx q1; have q2 := zhx q2; have q6 := zhx q6; have q17 := zhx q17; have q18 := zhx q18; omega) | (simp only [zhx q1, zhx q2, zhx q6, zhx q17, zhx q18] <;> omega) | (have q1 := zhx q1; have q2 := zhx q2; have q6 := zhx q6; have q17 := zhx q17; have q18 := zhx q18; refine w3z ?_ ?_ ?_ <;> omega) | (have q1 := zhx q1; have q2 := zhx q2; have q6 := zhx q6; have q17 := zhx q17; have q18 := zhx q18; refine w3y ?_ ?_ ?_ <;> omega) | (have q1 := zhx q1; have q2 := zhx q2; have q6 := zhx q6; have q17 := zhx q17; have q18 := zhx q18; refine z2o ?_ ?_ ?_ <;> omega))⟩
  · rcases zE_c hM with ⟨h19, hM⟩ | ⟨h19, hM⟩
    · obtain ⟨Ym20, hYm20, hM⟩ := zl_x hM
      have hR21 : zRx [] 0 Z Ym20 := zRx_o hRb hYm20 rfl
      have hV22 : zV Ym20 := zV_o hV hYm20 rfl
      have hG23 := yFr_o hG hYm20 rfl (.inr rfl) rfl
      have th9 := (zu_at hYm20)
      obtain rfl : C = _ := hC
      obtain rfl : M = _ := hM
      exact ⟨zRx_1 hR21, hV22, ⟨Z, _, .inl ⟨rfl, yFr_w hG23 (by decide)⟩, zFc_r, yFr_r⟩, zThr_e th9 (by decide)⟩
    · rcases zE_c hM with ⟨h24, hM⟩ | ⟨h24, hM⟩
      · obtain ⟨Ym25, hYm25, hM⟩ := zl_x hM
        have hR26 : zRx [] 0 Z Ym25 := zRx_o hRb hYm25 rfl
        have hV27 : zV Ym25 := zV_o hV hYm25 rfl
        have hG28 := yFr_o hG hYm25 rfl (.inr rfl) rfl
        have th9 := (zu_at hYm25)
        obtain rfl : C = _ := hC
        obtain rfl : M = _ := hM
        exact ⟨zRx_1 hR26, hV27, ⟨Z, _, .inl ⟨rfl, yFr_w hG28 (by decide)⟩, zFc_r, yFr_r⟩, zThr_e th9 (by decide)⟩
      · obtain ⟨Ym29, hYm29, hM⟩ := zl_x hM
        have hR30 : zRx [] 0 Z Ym29 := zRx_o hRb hYm29 rfl
        have hV31 : zV Ym29 := zV_o hV hYm29 rfl
        have hG32 := yFr_o hG hYm29 rfl (.inr rfl) rfl
        replace hM := zE_n hM (by first | (have q1 := zhx q1; have q2 := zhx q2; omega) | (simp only [zhx q1, zhx q2] at h3 h19 h24 ⊢ <;> omega))
        replace hM := zE_n hM (by first | (have q1 := zhx q1; have q2 := zhx q2; omega) | (simp only [zhx q1, zhx q2] at h3 h19 h24 ⊢ <;> omega))
        obtain ⟨Ym33, hYm33, hM⟩ := zl_x hM
        have hR34 : zRx [] 0 Z Ym33 := zRx_o hR30 hYm33 rfl
        have hV35 : zV Ym33 := zV_o hV31 hYm33 rfl
        have hG36 := yFr_o hG32 hYm33 rfl (.inr rfl) rfl
        obtain ⟨v38, g37, hM⟩ := zl_x hM
        replace g37 : zE _ _ := g37
        unfold zf_480 at g37
        replace g37 := zE_p g37 (by first | (have q1 := zhx q1; have q2 := zhx q2; omega) | (simp only [zhx q1, zhx q2] at h3 h19 h24 ⊢ <;> omega))
        have q39 := zhd (congrArg (Ym33 2 0 0) (show (200 + 20 * a1 + 6) = 206 + 20 * a1 from (by have q1 := zhx q1; have q2 := zhx q2; omega)))
        have q40 := zhd (((zu_ne (k' := 2) (b' := 0) (i' := 0) (j' := 206 + 20 * a1) hYm33 (fun q => absurd q.1 (by decide))).trans (zu_ne (k' := 2) (b' := 0) (i' := 0) (j' := 206 + 20 * a1) hYm29 (fun q => absurd q.1 (by decide)))))
        have e9 : (Ym33 2 0 0 (200 + 20 * a1 + 6)) = v38 := Eq.symm g37
        subst e9
        exact False.elim (by have q1 := zhx q1; have q2 := zhx q2; first | omega | grind)

/- face pallet_7 -/
theorem rf_pallet_7 {Z Y : qz_Z} {dm : qz_Z → Int → Int → Int → Int → Int → Int → Int → qz_Z} {a1 : Int} (hRa : zR 0 Z Y) (hV : zV Y) (hI : zI none Z) (hd : zDf dm) (hD1 : zD1 0 Z Y) (hD4 : zD4 0 Z Y) (hN1 : zN1 Y) (hN4 : zN4 Y) (hDs : zDs 0 Z Y) (hDw : zDw 0 Z Y) (hDl : zDl 0 Z Y)  {C : qz_Z × Int × Int} {M : qz_Z × Int} (hC : zE C (zx_225 Z a1 7)) (hM : zE M (zy_448 Y a1 7)) : zR 0 C.1 M.1 ∧ zV M.1 ∧ zDd [] [99999] Z Y dm C.1 M.1 ∧ zThr [(24, 1), (13, 2)] C.2 (M.1 1 0 0 2) M.2 := by
  have hRb := zRx_0 hRa
  have hF : zFc [] 0 Z Z := zFc_r
  have hG : yFr [99999] Y Y := yFr_r
  unfold zx_225 at hC
  unfold zy_448 at hM
  have q1 := zhd (zVr_11_3 (a := 102) hV (by omega))
  have q2 := zhd ((zRl_11_3 (a := 102) hRa (by omega)))
  rcases zE_c hC with ⟨h3, hC⟩ | ⟨h3, hC⟩
  · replace hC := zE_p hC (by first | (have q1 := zhx q1; have q2 := zhx q2; omega) | (simp only [zhx q1, zhx q2] at h3 ⊢ <;> omega))
    obtain ⟨v5, g4, hC⟩ := zl_x hC
    replace g4 : zE _ _ := g4
    unfold zf_108 at g4
    replace g4 := zE_p g4 (by first | (have q1 := zhx q1; have q2 := zhx q2; omega) | (simp only [zhx q1, zhx q2] at h3 ⊢ <;> omega))
    replace g4 := zE_p g4 (by first | (have q1 := zhx q1; have q2 := zhx q2; omega) | (simp only [zhx q1, zhx q2] at h3 ⊢ <;> omega))
    have q6 := zhd ((zRl_44_7 (x := a1) (a := 207 + 20 * a1) hRa (by have q1 := zhx q1; have q2 := zhx q2; omega) (by have q1 := zhx q1; have q2 := zhx q2; omega) (by have q1 := zhx q1; have q2 := zhx q2; omega)))
    have e9 : (Z 44 0 a1 7) = v5 := Eq.symm g4
    subst e9
    replace hM := zE_n hM (by first | (have q1 := zhx q1; have q2 := zhx q2; omega) | (simp only [zhx q1, zhx q2] at h3 ⊢ <;> omega))
    replace hM := zE_n hM (by first | (have q1 := zhx q1; have q2 := zhx q2; omega) | (simp only [zhx q1, zhx q2] at h3 ⊢ <;> omega))
    obtain ⟨Ym7, hYm7, hM⟩ := zl_x hM
    have hR8 : zRx [] 0 Z Ym7 := zRx_o hRb hYm7 rfl
    have hV9 : zV Ym7 := zV_o hV hYm7 rfl
    have hG10 := yFr_o hG hYm7 rfl (.inr rfl) rfl
    replace hM := zE_n hM (by first | (have q1 := zhx q1; have q2 := zhx q2; omega) | (simp only [zhx q1, zhx q2] at h3 ⊢ <;> omega))
    replace hM := zE_n hM (by first | (have q1 := zhx q1; have q2 := zhx q2; omega) | (simp only [zhx q1, zhx q2] at h3 ⊢ <;> omega))
    obtain ⟨Ym11, hYm11, hM⟩ := zl_x hM
    have hR12 : zRx [] 0 Z Ym11 := zRx_o hR8 hYm11 rfl
    have hV13 : zV Ym11 := zV_o hV9 hYm11 rfl
    have hG14 := yFr_o hG10 hYm11 rfl (.inr rfl) rfl
    obtain ⟨v16, g15, hM⟩ := zl_x hM
    replace g15 : zE _ _ := g15
    unfold zf_480 at g15
    replace g15 := zE_p g15 (by first | (have q1 := zhx q1; have q2 := zhx q2; omega) | (simp only [zhx q1, zhx q2] at h3 ⊢ <;> omega))
    have q17 := zhd (congrArg (Ym11 2 0 0) (show (200 + 20 * a1 + 7) = 207 + 20 * a1 from (by have q1 := zhx q1; have q2 := zhx q2; omega)))
    have q18 := zhd (((zu_ne (k' := 2) (b' := 0) (i' := 0) (j' := 207 + 20 * a1) hYm11 (fun q => absurd q.1 (by decide))).trans (zu_ne (k' := 2) (b' := 0) (i' := 0) (j' := 207 + 20 * a1) hYm7 (fun q => absurd q.1 (by decide)))))
    have e9 : (Ym11 2 0 0 (200 + 20 * a1 + 7)) = v16 := Eq.symm g15
    subst e9
    have th9 := (zu_at hYm11)
    obtain rfl : C = _ := hC
    obtain rfl : M = _ := hM
    exact ⟨zRx_1 hR12, hV13, ⟨Z, _, .inl ⟨rfl, yFr_w hG14 (by decide)⟩, zFc_r, yFr_r⟩, zThr_a th9 (by first | rfl | (have q1 := zhx q1; have q2 := zhx q2; have q6 := zhx q6; have q17 := zhx q17; have q18 := zhx q18; omega) | (simp only [zhx q1, zhx q2, zhx q6, zhx q17, zhx q18] <;> omega) | (have q1 := zhx q1; have q2 := zhx q2; have q6 := zhx q6; have q17 := zhx q17; have q18 := zhx q18; refine w3z ?_ ?_ ?_ <;> omega) | (have q1 := zhx q1; have q2 := zhx q2; have q6 := zhx q6; have q17 := zhx q17; have q18 := zhx q18; refine w3y ?_ ?_ ?_ <;> omega) | (have q1 := zhx q1; have q2 := zhx q2; have q6 := zhx q6; have q17 := zhx q17; have q18 := zhx q18; refine z2o ?_ ?_ ?_ <;> omega))⟩
  · rcases zE_c hM with ⟨h19, hM⟩ | ⟨h19, hM⟩
    · obtain ⟨Ym20, hYm20, hM⟩ := zl_x hM
      have hR21 : zRx [] 0 Z Ym20 := zRx_o hRb hYm20 rfl
      have hV22 : zV Ym20 := zV_o hV hYm20 rfl
      have hG23 := yFr_o hG hYm20 rfl (.inr rfl) rfl
      have th9 := (zu_at hYm20)
      obtain rfl : C = _ := hC
      obtain rfl : M = _ := hM
      exact ⟨zRx_1 hR21, hV22, ⟨Z, _, .inl ⟨rfl, yFr_w hG23 (by decide)⟩, zFc_r, yFr_r⟩, zThr_e th9 (by decide)⟩
    · rcases zE_c hM with ⟨h24, hM⟩ | ⟨h24, hM⟩
      · obtain ⟨Ym25, hYm25, hM⟩ := zl_x hM
        have hR26 : zRx [] 0 Z Ym25 := zRx_o hRb hYm25 rfl
        have hV27 : zV Ym25 := zV_o hV hYm25 rfl
        have hG28 := yFr_o hG hYm25 rfl (.inr rfl) rfl
        have th9 := (zu_at hYm25)
        obtain rfl : C = _ := hC
        obtain rfl : M = _ := hM
        exact ⟨zRx_1 hR26, hV27, ⟨Z, _, .inl ⟨rfl, yFr_w hG28 (by decide)⟩, zFc_r, yFr_r⟩, zThr_e th9 (by decide)⟩
      · obtain ⟨Ym29, hYm29, hM⟩ := zl_x hM
        have hR30 : zRx [] 0 Z Ym29 := zRx_o hRb hYm29 rfl
        have hV31 : zV Ym29 := zV_o hV hYm29 rfl
        have hG32 := yFr_o hG hYm29 rfl (.inr rfl) rfl
        replace hM := zE_n hM (by first | (have q1 := zhx q1; have q2 := zhx q2; omega) | (simp only [zhx q1, zhx q2] at h3 h19 h24 ⊢ <;> omega))
        replace hM := zE_n hM (by first | (have q1 := zhx q1; have q2 := zhx q2; omega) | (simp only [zhx q1, zhx q2] at h3 h19 h24 ⊢ <;> omega))
        obtain ⟨Ym33, hYm33, hM⟩ := zl_x hM
        have hR34 : zRx [] 0 Z Ym33 := zRx_o hR30 hYm33 rfl
        have hV35 : zV Ym33 := zV_o hV31 hYm33 rfl
        have hG36 := yFr_o hG32 hYm33 rfl (.inr rfl) rfl
        obtain ⟨v38, g37, hM⟩ := zl_x hM
        replace g37 : zE _ _ := g37
        unfold zf_480 at g37
        replace g37 := zE_p g37 (by first | (have q1 := zhx q1; have q2 := zhx q2; omega) | (simp only [zhx q1, zhx q2] at h3 h19 h24 ⊢ <;> omega))
        have q39 := zhd (congrArg (Ym33 2 0 0) (show (200 + 20 * a1 + 7) = 207 + 20 * a1 from (by have q1 := zhx q1; have q2 := zhx q2; omega)))
        have q40 := zhd (((zu_ne (k' := 2) (b' := 0) (i' := 0) (j' := 207 + 20 * a1) hYm33 (fun q => absurd q.1 (by decide))).trans (zu_ne (k' := 2) (b' := 0) (i' := 0) (j' := 207 + 20 * a1) hYm29 (fun q => absurd q.1 (by decide)))))
        have e9 : (Ym33 2 0 0 (200 + 20 * a1 + 7)) = v38 := Eq.symm g37
        subst e9
        exact False.elim (by have q1 := zhx q1; have q2 := zhx q2; first | omega | grind)

/- face pallet_8 -/
theorem rf_pallet_8 {Z Y : qz_Z} {dm : qz_Z → Int → Int → Int → Int → Int → Int → Int → qz_Z} {a1 : Int} (hRa : zR 0 Z Y) (hV : zV Y) (hI : zI none Z) (hd : zDf dm) (hD1 : zD1 0 Z Y) (hD4 : zD4 0 Z Y) (hN1 : zN1 Y) (hN4 : zN4 Y) (hDs : zDs 0 Z Y) (hDw : zDw 0 Z Y) (hDl : zDl 0 Z Y)  {C : qz_Z × Int × Int} {M : qz_Z × Int} (hC : zE C (zx_225 Z a1 8)) (hM : zE M (zy_448 Y a1 8)) : zR 0 C.1 M.1 ∧ zV M.1 ∧ zDd [] [99999] Z Y dm C.1 M.1 ∧ zThr [(24, 1), (13, 2)] C.2 (M.1 1 0 0 2) M.2 := by
  have hRb := zRx_0 hRa
  have hF : zFc [] 0 Z Z := zFc_r
  have hG : yFr [99999] Y Y := yFr_r
  unfold zx_225 at hC
  unfold zy_448 at hM
  have q1 := zhd (zVr_11_3 (a := 102) hV (by omega))
  have q2 := zhd ((zRl_11_3 (a := 102) hRa (by omega)))
  rcases zE_c hC with ⟨h3, hC⟩ | ⟨h3, hC⟩
  · replace hC := zE_p hC (by first | (have q1 := zhx q1; have q2 := zhx q2; omega) | (simp only [zhx q1, zhx q2] at h3 ⊢ <;> omega))
    obtain ⟨v5, g4, hC⟩ := zl_x hC
    replace g4 : zE _ _ := g4
    unfold zf_108 at g4
    replace g4 := zE_p g4 (by first | (have q1 := zhx q1; have q2 := zhx q2; omega) | (simp only [zhx q1, zhx q2] at h3 ⊢ <;> omega))
    replace g4 := zE_p g4 (by first | (have q1 := zhx q1; have q2 := zhx q2; omega) | (simp only [zhx q1, zhx q2] at h3 ⊢ <;> omega))
    have q6 := zhd (zVr_44_8 (x := a1) (a := 208 + 20 * a1) hV (by have q1 := zhx q1; have q2 := zhx q2; omega) (by have q1 := zhx q1; have q2 := zhx q2; omega) (by have q1 := zhx q1; have q2 := zhx q2; omega))
    have q7 := zhd ((zRl_44_8 (x := a1) (a := 208 + 20 * a1) hRa (by have q1 := zhx q1; have q2 := zhx q2; omega) (by have q1 := zhx q1; have q2 := zhx q2; omega) (by have q1 := zhx q1; have q2 := zhx q2; omega)))
    have e9 : (Z 44 0 a1 8) = v5 := Eq.symm g4
    subst e9
    replace hM := zE_n hM (by first | (have q1 := zhx q1; have q2 := zhx q2; omega) | (simp only [zhx q1, zhx q2] at h3 ⊢ <;> omega))
    replace hM := zE_n hM (by first | (have q1 := zhx q1; have q2 := zhx q2; omega) | (simp only [zhx q1, zhx q2] at h3 ⊢ <;> omega))
    obtain ⟨Ym8, hYm8, hM⟩ := zl_x hM
    have hR9 : zRx [] 0 Z Ym8 := zRx_o hRb hYm8 rfl
    have hV10 : zV Ym8 := zV_o hV hYm8 rfl
    have hG11 := yFr_o hG hYm8 rfl (.inr rfl) rfl
    replace hM := zE_n hM (by first | (have q1 := zhx q1; have q2 := zhx q2; omega) | (simp only [zhx q1, zhx q2] at h3 ⊢ <;> omega))
    replace hM := zE_n hM (by first | (have q1 := zhx q1; have q2 := zhx q2; omega) | (simp only [zhx q1, zhx q2] at h3 ⊢ <;> omega))
    obtain ⟨Ym12, hYm12, hM⟩ := zl_x hM
    have hR13 : zRx [] 0 Z Ym12 := zRx_o hR9 hYm12 rfl
    have hV14 : zV Ym12 := zV_o hV10 hYm12 rfl
    have hG15 := yFr_o hG11 hYm12 rfl (.inr rfl) rfl
    obtain ⟨v17, g16, hM⟩ := zl_x hM
    replace g16 : zE _ _ := g16
    unfold zf_480 at g16
    replace g16 := zE_p g16 (by first | (have q1 := zhx q1; have q2 := zhx q2; omega) | (simp only [zhx q1, zhx q2] at h3 ⊢ <;> omega))
    have q18 := zhd (congrArg (Ym12 2 0 0) (show (200 + 20 * a1 + 8) = 208 + 20 * a1 from (by have q1 := zhx q1; have q2 := zhx q2; omega)))
    have q19 := zhd (((zu_ne (k' := 2) (b' := 0) (i' := 0) (j' := 208 + 20 * a1) hYm12 (fun q => absurd q.1 (by decide))).trans (zu_ne (k' := 2) (b' := 0) (i' := 0) (j' := 208 + 20 * a1) hYm8 (fun q => absurd q.1 (by decide)))))
    have e9 : (Ym12 2 0 0 (200 + 20 * a1 + 8)) = v17 := Eq.symm g16
    subst e9
    have th9 := (zu_at hYm12)
    obtain rfl : C = _ := hC
    obtain rfl : M = _ := hM
    exact ⟨zRx_1 hR13, hV14, ⟨Z, _, .inl ⟨rfl, yFr_w hG15 (by decide)⟩, zFc_r, yFr_r⟩, zThr_a th9 (by first | rfl | (have q1 := zhx q1; have q2 := zhx q2; have q6 := zhx q6; have q7 := zhx q7; have q18 := zhx q18; have q19 := zhx q19; omega) | (simp only [zhx q1, zhx q2, zhx q6, zhx q7, zhx q18, zhx q19] <;> omega) | (have q1 := zhx q1; have q2 := zhx q2; have q6 := zhx q6; have q7 := zhx q7; have q18 := zhx q18; have q19 := zhx q19; refine w3z ?_ ?_ ?_ <;> omega) | (have q1 := zhx q1; have q2 := zhx q2; have q6 := zhx q6; have q7 := zhx q7; have q18 := zhx q18; have q19 := zhx q19; refine w3y ?_ ?_ ?_ <;> omega) | (have q1 := zhx q1; have q2 := zhx q2; have q6 := zhx q6; have q7 := zhx q7; have q18 := zhx q18; have q19 := zhx q19; refine z2o ?_ ?_ ?_ <;> omega))⟩
  · rcases zE_c hM with ⟨h20, hM⟩ | ⟨h20, hM⟩
    · obtain ⟨Ym21, hYm21, hM⟩ := zl_x hM
      have hR22 : zRx [] 0 Z Ym21 := zRx_o hRb hYm21 rfl
      have hV23 : zV Ym21 := zV_o hV hYm21 rfl
      have hG24 := yFr_o hG hYm21 rfl (.inr rfl) rfl
      have th9 := (zu_at hYm21)
      obtain rfl : C = _ := hC
      obtain rfl : M = _ := hM
      exact ⟨zRx_1 hR22, hV23, ⟨Z, _, .inl ⟨rfl, yFr_w hG24 (by decide)⟩, zFc_r, yFr_r⟩, zThr_e th9 (by decide)⟩
    · rcases zE_c hM with ⟨h25, hM⟩ | ⟨h25, hM⟩
      · obtain ⟨Ym26, hYm26, hM⟩ := zl_x hM
        have hR27 : zRx [] 0 Z Ym26 := zRx_o hRb hYm26 rfl
        have hV28 : zV Ym26 := zV_o hV hYm26 rfl
        have hG29 := yFr_o hG hYm26 rfl (.inr rfl) rfl
        have th9 := (zu_at hYm26)
        obtain rfl : C = _ := hC
        obtain rfl : M = _ := hM
        exact ⟨zRx_1 hR27, hV28, ⟨Z, _, .inl ⟨rfl, yFr_w hG29 (by decide)⟩, zFc_r, yFr_r⟩, zThr_e th9 (by decide)⟩
      · obtain ⟨Ym30, hYm30, hM⟩ := zl_x hM
        have hR31 : zRx [] 0 Z Ym30 := zRx_o hRb hYm30 rfl
        have hV32 : zV Ym30 := zV_o hV hYm30 rfl
        have hG33 := yFr_o hG hYm30 rfl (.inr rfl) rfl
        replace hM := zE_n hM (by first | (have q1 := zhx q1; have q2 := zhx q2; omega) | (simp only [zhx q1, zhx q2] at h3 h20 h25 ⊢ <;> omega))
        replace hM := zE_n hM (by first | (have q1 := zhx q1; have q2 := zhx q2; omega) | (simp only [zhx q1, zhx q2] at h3 h20 h25 ⊢ <;> omega))
        obtain ⟨Ym34, hYm34, hM⟩ := zl_x hM
        have hR35 : zRx [] 0 Z Ym34 := zRx_o hR31 hYm34 rfl
        have hV36 : zV Ym34 := zV_o hV32 hYm34 rfl
        have hG37 := yFr_o hG33 hYm34 rfl (.inr rfl) rfl
        obtain ⟨v39, g38, hM⟩ := zl_x hM
        replace g38 : zE _ _ := g38
        unfold zf_480 at g38
        replace g38 := zE_p g38 (by first | (have q1 := zhx q1; have q2 := zhx q2; omega) | (simp only [zhx q1, zhx q2] at h3 h20 h25 ⊢ <;> omega))
        have q40 := zhd (zVr_44_8 (x := a1) (a := 208 + 20 * a1) hV (by have q1 := zhx q1; have q2 := zhx q2; omega) (by have q1 := zhx q1; have q2 := zhx q2; omega) (by have q1 := zhx q1; have q2 := zhx q2; omega))
        have q41 := zhd (congrArg (Ym34 2 0 0) (show (200 + 20 * a1 + 8) = 208 + 20 * a1 from (by have q1 := zhx q1; have q2 := zhx q2; omega)))
        have q42 := zhd (((zu_ne (k' := 2) (b' := 0) (i' := 0) (j' := 208 + 20 * a1) hYm34 (fun q => absurd q.1 (by decide))).trans (zu_ne (k' := 2) (b' := 0) (i' := 0) (j' := 208 + 20 * a1) hYm30 (fun q => absurd q.1 (by decide)))))
        have e9 : (Ym34 2 0 0 (200 + 20 * a1 + 8)) = v39 := Eq.symm g38
        subst e9
        exact False.elim (by have q1 := zhx q1; have q2 := zhx q2; first | omega | grind)

/- face pallet_9 -/
theorem rf_pallet_9 {Z Y : qz_Z} {dm : qz_Z → Int → Int → Int → Int → Int → Int → Int → qz_Z} {a1 : Int} (hRa : zR 0 Z Y) (hV : zV Y) (hI : zI none Z) (hd : zDf dm) (hD1 : zD1 0 Z Y) (hD4 : zD4 0 Z Y) (hN1 : zN1 Y) (hN4 : zN4 Y) (hDs : zDs 0 Z Y) (hDw : zDw 0 Z Y) (hDl : zDl 0 Z Y)  {C : qz_Z × Int × Int} {M : qz_Z × Int} (hC : zE C (zx_225 Z a1 9)) (hM : zE M (zy_448 Y a1 9)) : zR 0 C.1 M.1 ∧ zV M.1 ∧ zDd [] [99999] Z Y dm C.1 M.1 ∧ zThr [(24, 1), (13, 2)] C.2 (M.1 1 0 0 2) M.2 := by
  have hRb := zRx_0 hRa
  have hF : zFc [] 0 Z Z := zFc_r
  have hG : yFr [99999] Y Y := yFr_r
  unfold zx_225 at hC
  unfold zy_448 at hM
  have q1 := zhd (zVr_11_3 (a := 102) hV (by omega))
  have q2 := zhd ((zRl_11_3 (a := 102) hRa (by omega)))
  rcases zE_c hC with ⟨h3, hC⟩ | ⟨h3, hC⟩
  · replace hC := zE_p hC (by first | (have q1 := zhx q1; have q2 := zhx q2; omega) | (simp only [zhx q1, zhx q2] at h3 ⊢ <;> omega))
    obtain ⟨v5, g4, hC⟩ := zl_x hC
    replace g4 : zE _ _ := g4
    unfold zf_108 at g4
    replace g4 := zE_p g4 (by first | (have q1 := zhx q1; have q2 := zhx q2; omega) | (simp only [zhx q1, zhx q2] at h3 ⊢ <;> omega))
    replace g4 := zE_p g4 (by first | (have q1 := zhx q1; have q2 := zhx q2; omega) | (simp only [zhx q1, zhx q2] at h3 ⊢ <;> omega))
    have q6 := zhd (zVr_44_9 (x := a1) (a := 209 + 20 * a1) hV (by have q1 := zhx q1; have q2 := zhx q2; omega) (by have q1 := zhx q1; have q2 := zhx q2; omega) (by have q1 := zhx q1; have q2 := zhx q2; omega))
    have q7 := zhd ((zRl_44_9 (x := a1) (a := 209 + 20 * a1) hRa (by have q1 := zhx q1; have q2 := zhx q2; omega) (by have q1 := zhx q1; have q2 := zhx q2; omega) (by have q1 := zhx q1; have q2 := zhx q2; omega)))
    have e9 : (Z 44 0 a1 9) = v5 := Eq.symm g4
    subst e9
    replace hM := zE_n hM (by first | (have q1 := zhx q1; have q2 := zhx q2; omega) | (simp only [zhx q1, zhx q2] at h3 ⊢ <;> omega))
    replace hM := zE_n hM (by first | (have q1 := zhx q1; have q2 := zhx q2; omega) | (simp only [zhx q1, zhx q2] at h3 ⊢ <;> omega))
    obtain ⟨Ym8, hYm8, hM⟩ := zl_x hM
    have hR9 : zRx [] 0 Z Ym8 := zRx_o hRb hYm8 rfl
    have hV10 : zV Ym8 := zV_o hV hYm8 rfl
    have hG11 := yFr_o hG hYm8 rfl (.inr rfl) rfl
    replace hM := zE_n hM (by first | (have q1 := zhx q1; have q2 := zhx q2; omega) | (simp only [zhx q1, zhx q2] at h3 ⊢ <;> omega))
    replace hM := zE_n hM (by first | (have q1 := zhx q1; have q2 := zhx q2; omega) | (simp only [zhx q1, zhx q2] at h3 ⊢ <;> omega))
    obtain ⟨Ym12, hYm12, hM⟩ := zl_x hM
    have hR13 : zRx [] 0 Z Ym12 := zRx_o hR9 hYm12 rfl
    have hV14 : zV Ym12 := zV_o hV10 hYm12 rfl
    have hG15 := yFr_o hG11 hYm12 rfl (.inr rfl) rfl
    obtain ⟨v17, g16, hM⟩ := zl_x hM
    replace g16 : zE _ _ := g16
    unfold zf_480 at g16
    replace g16 := zE_p g16 (by first | (have q1 := zhx q1; have q2 := zhx q2; omega) | (simp only [zhx q1, zhx q2] at h3 ⊢ <;> omega))
    have q18 := zhd (congrArg (Ym12 2 0 0) (show (200 + 20 * a1 + 9) = 209 + 20 * a1 from (by have q1 := zhx q1; have q2 := zhx q2; omega)))
    have q19 := zhd (((zu_ne (k' := 2) (b' := 0) (i' := 0) (j' := 209 + 20 * a1) hYm12 (fun q => absurd q.1 (by decide))).trans (zu_ne (k' := 2) (b' := 0) (i' := 0) (j' := 209 + 20 * a1) hYm8 (fun q => absurd q.1 (by decide)))))
    have e9 : (Ym12 2 0 0 (200 + 20 * a1 + 9)) = v17 := Eq.symm g16
    subst e9
    have th9 := (zu_at hYm12)
    obtain rfl : C = _ := hC
    obtain rfl : M = _ := hM
    exact ⟨zRx_1 hR13, hV14, ⟨Z, _, .inl ⟨rfl, yFr_w hG15 (by decide)⟩, zFc_r, yFr_r⟩, zThr_a th9 (by first | rfl | (have q1 := zhx q1; have q2 := zhx q2; have q6 := zhx q6; have q7 := zhx q7; have q18 := zhx q18; have q19 := zhx q19; omega) | (simp only [zhx q1, zhx q2, zhx q6, zhx q7, zhx q18, zhx q19] <;> omega) | (have q1 := zhx q1; have q2 := zhx q2; have q6 := zhx q6; have q7 := zhx q7; have q18 := zhx q18; have q19 := zhx q19; refine w3z ?_ ?_ ?_ <;> omega) | (have q1 := zhx q1; have q2 := zhx q2; have q6 := zhx q6; have q7 := zhx q7; have q18 := zhx q18; have q19 := zhx q19; refine w3y ?_ ?_ ?_ <;> omega) | (have q1 := zhx q1; have q2 := zhx q2; have q6 := zhx q6; have q7 := zhx q7; have q18 := zhx q18; have q19 := zhx q19; refine z2o ?_ ?_ ?_ <;> omega))⟩
  · rcases zE_c hM with ⟨h20, hM⟩ | ⟨h20, hM⟩
    · obtain ⟨Ym21, hYm21, hM⟩ := zl_x hM
      have hR22 : zRx [] 0 Z Ym21 := zRx_o hRb hYm21 rfl
      have hV23 : zV Ym21 := zV_o hV hYm21 rfl
      have hG24 := yFr_o hG hYm21 rfl (.inr rfl) rfl
      have th9 := (zu_at hYm21)
      obtain rfl : C = _ := hC
      obtain rfl : M = _ := hM
      exact ⟨zRx_1 hR22, hV23, ⟨Z, _, .inl ⟨rfl, yFr_w hG24 (by decide)⟩, zFc_r, yFr_r⟩, zThr_e th9 (by decide)⟩
    · rcases zE_c hM with ⟨h25, hM⟩ | ⟨h25, hM⟩
      · obtain ⟨Ym26, hYm26, hM⟩ := zl_x hM
        have hR27 : zRx [] 0 Z Ym26 := zRx_o hRb hYm26 rfl
        have hV28 : zV Ym26 := zV_o hV hYm26 rfl
        have hG29 := yFr_o hG hYm26 rfl (.inr rfl) rfl
        have th9 := (zu_at hYm26)
        obtain rfl : C = _ := hC
        obtain rfl : M = _ := hM
        exact ⟨zRx_1 hR27, hV28, ⟨Z, _, .inl ⟨rfl, yFr_w hG29 (by decide)⟩, zFc_r, yFr_r⟩, zThr_e th9 (by decide)⟩
      · obtain ⟨Ym30, hYm30, hM⟩ := zl_x hM
        have hR31 : zRx [] 0 Z Ym30 := zRx_o hRb hYm30 rfl
        have hV32 : zV Ym30 := zV_o hV hYm30 rfl
        have hG33 := yFr_o hG hYm30 rfl (.inr rfl) rfl
        replace hM := zE_n hM (by first | (have q1 := zhx q1; have q2 := zhx q2; omega) | (simp only [zhx q1, zhx q2] at h3 h20 h25 ⊢ <;> omega))
        replace hM := zE_n hM (by first | (have q1 := zhx q1; have q2 := zhx q2; omega) | (simp only [zhx q1, zhx q2] at h3 h20 h25 ⊢ <;> omega))
        obtain ⟨Ym34, hYm34, hM⟩ := zl_x hM
        have hR35 : zRx [] 0 Z Ym34 := zRx_o hR31 hYm34 rfl
        have hV36 : zV Ym34 := zV_o hV32 hYm34 rfl
        have hG37 := yFr_o hG33 hYm34 rfl (.inr rfl) rfl
        obtain ⟨v39, g38, hM⟩ := zl_x hM
        replace g38 : zE _ _ := g38
        unfold zf_480 at g38
        replace g38 := zE_p g38 (by first | (have q1 := zhx q1; have q2 := zhx q2; omega) | (simp only [zhx q1, zhx q2] at h3 h20 h25 ⊢ <;> omega))
        have q40 := zhd (zVr_44_9 (x := a1) (a := 209 + 20 * a1) hV (by have q1 := zhx q1; have q2 := zhx q2; omega) (by have q1 := zhx q1; have q2 := zhx q2; omega) (by have q1 := zhx q1; have q2 := zhx q2; omega))
        have q41 := zhd (congrArg (Ym34 2 0 0) (show (200 + 20 * a1 + 9) = 209 + 20 * a1 from (by have q1 := zhx q1; have q2 := zhx q2; omega)))
        have q42 := zhd (((zu_ne (k' := 2) (b' := 0) (i' := 0) (j' := 209 + 20 * a1) hYm34 (fun q => absurd q.1 (by decide))).trans (zu_ne (k' := 2) (b' := 0) (i' := 0) (j' := 209 + 20 * a1) hYm30 (fun q => absurd q.1 (by decide)))))
        have e9 : (Ym34 2 0 0 (200 + 20 * a1 + 9)) = v39 := Eq.symm g38
        subst e9
        exact False.elim (by have q1 := zhx q1; have q2 := zhx q2; first | omega | grind)

/- face pallet_10 -/
theorem rf_pallet_10 {Z Y : qz_Z} {dm : qz_Z → Int → Int → Int → Int → Int → Int → Int → qz_Z} {a1 : Int} (hRa : zR 0 Z Y) (hV : zV Y) (hI : zI none Z) (hd : zDf dm) (hD1 : zD1 0 Z Y) (hD4 : zD4 0 Z Y) (hN1 : zN1 Y) (hN4 : zN4 Y) (hDs : zDs 0 Z Y) (hDw : zDw 0 Z Y) (hDl : zDl 0 Z Y)  {C : qz_Z × Int × Int} {M : qz_Z × Int} (hC : zE C (zx_225 Z a1 10)) (hM : zE M (zy_448 Y a1 10)) : zR 0 C.1 M.1 ∧ zV M.1 ∧ zDd [] [99999] Z Y dm C.1 M.1 ∧ zThr [(24, 1), (13, 2)] C.2 (M.1 1 0 0 2) M.2 := by
  have hRb := zRx_0 hRa
  have hF : zFc [] 0 Z Z := zFc_r
  have hG : yFr [99999] Y Y := yFr_r
  unfold zx_225 at hC
  unfold zy_448 at hM
  have q1 := zhd (zVr_11_3 (a := 102) hV (by omega))
  have q2 := zhd ((zRl_11_3 (a := 102) hRa (by omega)))
  rcases zE_c hC with ⟨h3, hC⟩ | ⟨h3, hC⟩
  · replace hC := zE_p hC (by first | (have q1 := zhx q1; have q2 := zhx q2; omega) | (simp only [zhx q1, zhx q2] at h3 ⊢ <;> omega))
    obtain ⟨v5, g4, hC⟩ := zl_x hC
    replace g4 : zE _ _ := g4
    unfold zf_108 at g4
    replace g4 := zE_p g4 (by first | (have q1 := zhx q1; have q2 := zhx q2; omega) | (simp only [zhx q1, zhx q2] at h3 ⊢ <;> omega))
    replace g4 := zE_p g4 (by first | (have q1 := zhx q1; have q2 := zhx q2; omega) | (simp only [zhx q1, zhx q2] at h3 ⊢ <;> omega))
    have q6 := zhd (zVr_44_10 (x := a1) (a := 210 + 20 * a1) hV (by have q1 := zhx q1; have q2 := zhx q2; omega) (by have q1 := zhx q1; have q2 := zhx q2; omega) (by have q1 := zhx q1; have q2 := zhx q2; omega))
    have q7 := zhd ((zRl_44_10 (x := a1) (a := 210 + 20 * a1) hRa (by have q1 := zhx q1; have q2 := zhx q2; omega) (by have q1 := zhx q1; have q2 := zhx q2; omega) (by have q1 := zhx q1; have q2 := zhx q2; omega)))
    have e9 : (Z 44 0 a1 10) = v5 := Eq.symm g4
    subst e9
    replace hM := zE_n hM (by first | (have q1 := zhx q1; have q2 := zhx q2; omega) | (simp only [zhx q1, zhx q2] at h3 ⊢ <;> omega))
    replace hM := zE_n hM (by first | (have q1 := zhx q1; have q2 := zhx q2; omega) | (simp only [zhx q1, zhx q2] at h3 ⊢ <;> omega))
    obtain ⟨Ym8, hYm8, hM⟩ := zl_x hM
    have hR9 : zRx [] 0 Z Ym8 := zRx_o hRb hYm8 rfl
    have hV10 : zV Ym8 := zV_o hV hYm8 rfl
    have hG11 := yFr_o hG hYm8 rfl (.inr rfl) rfl
    replace hM := zE_n hM (by first | (have q1 := zhx q1; have q2 := zhx q2; omega) | (simp only [zhx q1, zhx q2] at h3 ⊢ <;> omega))
    replace hM := zE_n hM (by first | (have q1 := zhx q1; have q2 := zhx q2; omega) | (simp only [zhx q1, zhx q2] at h3 ⊢ <;> omega))
    obtain ⟨Ym12, hYm12, hM⟩ := zl_x hM
    have hR13 : zRx [] 0 Z Ym12 := zRx_o hR9 hYm12 rfl
    have hV14 : zV Ym12 := zV_o hV10 hYm12 rfl
    have hG15 := yFr_o hG11 hYm12 rfl (.inr rfl) rfl
    obtain ⟨v17, g16, hM⟩ := zl_x hM
    replace g16 : zE _ _ := g16
    unfold zf_480 at g16
    replace g16 := zE_p g16 (by first | (have q1 := zhx q1; have q2 := zhx q2; omega) | (simp only [zhx q1, zhx q2] at h3 ⊢ <;> omega))
    have q18 := zhd (congrArg (Ym12 2 0 0) (show (200 + 20 * a1 + 10) = 210 + 20 * a1 from (by have q1 := zhx q1; have q2 := zhx q2; omega)))
    have q19 := zhd (((zu_ne (k' := 2) (b' := 0) (i' := 0) (j' := 210 + 20 * a1) hYm12 (fun q => absurd q.1 (by decide))).trans (zu_ne (k' := 2) (b' := 0) (i' := 0) (j' := 210 + 20 * a1) hYm8 (fun q => absurd q.1 (by decide)))))
    have e9 : (Ym12 2 0 0 (200 + 20 * a1 + 10)) = v17 := Eq.symm g16
    subst e9
    have th9 := (zu_at hYm12)
    obtain rfl : C = _ := hC
    obtain rfl : M = _ := hM
    exact ⟨zRx_1 hR13, hV14, ⟨Z, _, .inl ⟨rfl, yFr_w hG15 (by decide)⟩, zFc_r, yFr_r⟩, zThr_a th9 (by first | rfl | (have q1 := zhx q1; have q2 := zhx q2; have q6 := zhx q6; have q7 := zhx q7; have q18 := zhx q18; have q19 := zhx q19; omega) | (simp only [zhx q1, zhx q2, zhx q6, zhx q7, zhx q18, zhx q19] <;> omega) | (have q1 := zhx q1; have q2 := zhx q2; have q6 := zhx q6; have q7 := zhx q7; have q18 := zhx q18; have q19 := zhx q19; refine w3z ?_ ?_ ?_ <;> omega) | (have q1 := zhx q1; have q2 := zhx q2; have q6 := zhx q6; have q7 := zhx q7; have q18 := zhx q18; have q19 := zhx q19; refine w3y ?_ ?_ ?_ <;> omega) | (have q1 := zhx q1; have q2 := zhx q2; have q6 := zhx q6; have q7 := zhx q7; have q18 := zhx q18; have q19 := zhx q19; refine z2o ?_ ?_ ?_ <;> omega))⟩
  · rcases zE_c hM with ⟨h20, hM⟩ | ⟨h20, hM⟩
    · obtain ⟨Ym21, hYm21, hM⟩ := zl_x hM
      have hR22 : zRx [] 0 Z Ym21 := zRx_o hRb hYm21 rfl
      have hV23 : zV Ym21 := zV_o hV hYm21 rfl
      have hG24 := yFr_o hG hYm21 rfl (.inr rfl) rfl
      have th9 := (zu_at hYm21)
      obtain rfl : C = _ := hC
      obtain rfl : M = _ := hM
      exact ⟨zRx_1 hR22, hV23, ⟨Z, _, .inl ⟨rfl, yFr_w hG24 (by decide)⟩, zFc_r, yFr_r⟩, zThr_e th9 (by decide)⟩
    · rcases zE_c hM with ⟨h25, hM⟩ | ⟨h25, hM⟩
      · obtain ⟨Ym26, hYm26, hM⟩ := zl_x hM
        have hR27 : zRx [] 0 Z Ym26 := zRx_o hRb hYm26 rfl
        have hV28 : zV Ym26 := zV_o hV hYm26 rfl
        have hG29 := yFr_o hG hYm26 rfl (.inr rfl) rfl
        have th9 := (zu_at hYm26)
        obtain rfl : C = _ := hC
        obtain rfl : M = _ := hM
        exact ⟨zRx_1 hR27, hV28, ⟨Z, _, .inl ⟨rfl, yFr_w hG29 (by decide)⟩, zFc_r, yFr_r⟩, zThr_e th9 (by decide)⟩
      · obtain ⟨Ym30, hYm30, hM⟩ := zl_x hM
        have hR31 : zRx [] 0 Z Ym30 := zRx_o hRb hYm30 rfl
        have hV32 : zV Ym30 := zV_o hV hYm30 rfl
        have hG33 := yFr_o hG hYm30 rfl (.inr rfl) rfl
        replace hM := zE_n hM (by first | (have q1 := zhx q1; have q2 := zhx q2; omega) | (simp only [zhx q1, zhx q2] at h3 h20 h25 ⊢ <;> omega))
        replace hM := zE_n hM (by first | (have q1 := zhx q1; have q2 := zhx q2; omega) | (simp only [zhx q1, zhx q2] at h3 h20 h25 ⊢ <;> omega))
        obtain ⟨Ym34, hYm34, hM⟩ := zl_x hM
        have hR35 : zRx [] 0 Z Ym34 := zRx_o hR31 hYm34 rfl
        have hV36 : zV Ym34 := zV_o hV32 hYm34 rfl
        have hG37 := yFr_o hG33 hYm34 rfl (.inr rfl) rfl
        obtain ⟨v39, g38, hM⟩ := zl_x hM
        replace g38 : zE _ _ := g38
        unfold zf_480 at g38
        replace g38 := zE_p g38 (by first | (have q1 := zhx q1; have q2 := zhx q2; omega) | (simp only [zhx q1, zhx q2] at h3 h20 h25 ⊢ <;> omega))
        have q40 := zhd (zVr_44_10 (x := a1) (a := 210 + 20 * a1) hV (by have q1 := zhx q1; have q2 := zhx q2; omega) (by have q1 := zhx q1; have q2 := zhx q2; omega) (by have q1 := zhx q1; have q2 := zhx q2; omega))
        have q41 := zhd (congrArg (Ym34 2 0 0) (show (200 + 20 * a1 + 10) = 210 + 20 * a1 from (by have q1 := zhx q1; have q2 := zhx q2; omega)))
        have q42 := zhd (((zu_ne (k' := 2) (b' := 0) (i' := 0) (j' := 210 + 20 * a1) hYm34 (fun q => absurd q.1 (by decide))).trans (zu_ne (k' := 2) (b' := 0) (i' := 0) (j' := 210 + 20 * a1) hYm30 (fun q => absurd q.1 (by decide)))))
        have e9 : (Ym34 2 0 0 (200 + 20 * a1 + 10)) = v39 := Eq.symm g38
        subst e9
        exact False.elim (by have q1 := zhx q1; have q2 := zhx q2; first | omega | grind)

/- face pallet_11 -/
theorem rf_pallet_11 {Z Y : qz_Z} {dm : qz_Z → Int → Int → Int → Int → Int → Int → Int → qz_Z} {a1 : Int} (hRa : zR 0 Z Y) (hV : zV Y) (hI : zI none Z) (hd : zDf dm) (hD1 : zD1 0 Z Y) (hD4 : zD4 0 Z Y) (hN1 : zN1 Y) (hN4 : zN4 Y) (hDs : zDs 0 Z Y) (hDw : zDw 0 Z Y) (hDl : zDl 0 Z Y)  {C : qz_Z × Int × Int} {M : qz_Z × Int} (hC : zE C (zx_225 Z a1 11)) (hM : zE M (zy_448 Y a1 11)) : zR 0 C.1 M.1 ∧ zV M.1 ∧ zDd [] [99999] Z Y dm C.1 M.1 ∧ zThr [(24, 1), (13, 2)] C.2 (M.1 1 0 0 2) M.2 := by
  have hRb := zRx_0 hRa
  have hF : zFc [] 0 Z Z := zFc_r
  have hG : yFr [99999] Y Y := yFr_r
  unfold zx_225 at hC
  unfold zy_448 at hM
  have q1 := zhd (zVr_11_3 (a := 102) hV (by omega))
  have q2 := zhd ((zRl_11_3 (a := 102) hRa (by omega)))
  rcases zE_c hC with ⟨h3, hC⟩ | ⟨h3, hC⟩
  · replace hC := zE_p hC (by first | (have q1 := zhx q1; have q2 := zhx q2; omega) | (simp only [zhx q1, zhx q2] at h3 ⊢ <;> omega))
    obtain ⟨v5, g4, hC⟩ := zl_x hC
    replace g4 : zE _ _ := g4
    unfold zf_108 at g4
    replace g4 := zE_n g4 (by first | (have q1 := zhx q1; have q2 := zhx q2; omega) | (simp only [zhx q1, zhx q2] at h3 ⊢ <;> omega))
    have q6 := zhd (zVr_44_1 (x := a1) (a := 201 + 20 * a1) hV (by have q1 := zhx q1; have q2 := zhx q2; omega) (by have q1 := zhx q1; have q2 := zhx q2; omega) (by have q1 := zhx q1; have q2 := zhx q2; omega))
    have q7 := zhd ((zRl_44_1 (x := a1) (a := 201 + 20 * a1) hRa (by have q1 := zhx q1; have q2 := zhx q2; omega) (by have q1 := zhx q1; have q2 := zhx q2; omega) (by have q1 := zhx q1; have q2 := zhx q2; omega)))
    have q8 := zhd ((zRl_41_3 (x := (Z 44 0 a1 1)) (a := 113 + 5 * (Y 2 0 0 (201 + 20 * a1))) hRa (by first | (have q6 := zhx q6; have q7 := zhx q7; omega) | (have q1 := zhx q1; have q2 := zhx q2; have q6 := zhx q6; have q7 := zhx q7; omega)) (by first | (have q6 := zhx q6; have q7 := zhx q7; omega) | (have q1 := zhx q1; have q2 := zhx q2; have q6 := zhx q6; have q7 := zhx q7; omega)) (by first | (have q6 := zhx q6; have q7 := zhx q7; omega) | (have q1 := zhx q1; have q2 := zhx q2; have q6 := zhx q6; have q7 := zhx q7; omega))))
    have q9 := zhd ((congrArg (fun x => Z 41 0 x 3) (show (Y 2 0 0 (201 + 20 * a1)) = (Z 44 0 a1 1) from (by first | (have q6 := zhx q6; have q7 := zhx q7; omega) | (have q1 := zhx q1; have q2 := zhx q2; have q6 := zhx q6; have q7 := zhx q7; omega)))).trans (zhx q8))
    have q10 := zhd ((zRl_41_4 (x := (Z 44 0 a1 1)) (a := 114 + 5 * (Y 2 0 0 (201 + 20 * a1))) hRa (by first | (have q6 := zhx q6; have q7 := zhx q7; omega) | (have q1 := zhx q1; have q2 := zhx q2; have q6 := zhx q6; have q7 := zhx q7; omega)) (by first | (have q6 := zhx q6; have q7 := zhx q7; omega) | (have q1 := zhx q1; have q2 := zhx q2; have q6 := zhx q6; have q7 := zhx q7; omega)) (by first | (have q6 := zhx q6; have q7 := zhx q7; omega) | (have q1 := zhx q1; have q2 := zhx q2; have q6 := zhx q6; have q7 := zhx q7; omega))))
    have q11 := zhd ((congrArg (fun x => Z 41 0 x 4) (show (Y 2 0 0 (201 + 20 * a1)) = (Z 44 0 a1 1) from (by first | (have q6 := zhx q6; have q7 := zhx q7; omega) | (have q1 := zhx q1; have q2 := zhx q2; have q6 := zhx q6; have q7 := zhx q7; omega)))).trans (zhx q10))
    have q12 := zhd ((zRl_44_7 (x := a1) (a := 207 + 20 * a1) hRa (by have q1 := zhx q1; have q2 := zhx q2; omega) (by have q1 := zhx q1; have q2 := zhx q2; omega) (by have q1 := zhx q1; have q2 := zhx q2; omega)))
    rcases zE_c g4 with ⟨h13, g4⟩ | ⟨h13, g4⟩
    · rcases zE_c g4 with ⟨h14, g4⟩ | ⟨h14, g4⟩
      · rcases zE_c g4 with ⟨h15, g4⟩ | ⟨h15, g4⟩
        · have e9 : 3 = v5 := Eq.symm g4
          subst e9
          replace hM := zE_n hM (by first | (have q1 := zhx q1; have q2 := zhx q2; have q6 := zhx q6; have q7 := zhx q7; have q8 := zhx q8; have q9 := zhx q9; have q10 := zhx q10; have q11 := zhx q11; have q12 := zhx q12; omega) | (simp only [zhx q1, zhx q2, zhx q6, zhx q7, zhx q8, zhx q9, zhx q10, zhx q11, zhx q12] at h3 h13 h14 h15 ⊢ <;> omega))
          replace hM := zE_n hM (by first | (have q1 := zhx q1; have q2 := zhx q2; have q6 := zhx q6; have q7 := zhx q7; have q8 := zhx q8; have q9 := zhx q9; have q10 := zhx q10; have q11 := zhx q11; have q12 := zhx q12; omega) | (simp only [zhx q1, zhx q2, zhx q6, zhx q7, zhx q8, zhx q9, zhx q10, zhx q11, zhx q12] at h3 h13 h14 h15 ⊢ <;> omega))
          obtain ⟨Ym16, hYm16, hM⟩ := zl_x hM
          have hR17 : zRx [] 0 Z Ym16 := zRx_o hRb hYm16 rfl
          have hV18 : zV Ym16 := zV_o hV hYm16 rfl
          have hG19 := yFr_o hG hYm16 rfl (.inr rfl) rfl
          replace hM := zE_n hM (by first | (have q1 := zhx q1; have q2 := zhx q2; have q6 := zhx q6; have q7 := zhx q7; have q8 := zhx q8; have q9 := zhx q9; have q10 := zhx q10; have q11 := zhx q11; have q12 := zhx q12; omega) | (simp only [zhx q1, zhx q2, zhx q6, zhx q7, zhx q8, zhx q9, zhx q10, zhx q11, zhx q12] at h3 h13 h14 h15 ⊢ <;> omega))
          replace hM := zE_n hM (by first | (have q1 := zhx q1; have q2 := zhx q2; have q6 := zhx q6; have q7 := zhx q7; have q8 := zhx q8; have q9 := zhx q9; have q10 := zhx q10; have q11 := zhx q11; have q12 := zhx q12; omega) | (simp only [zhx q1, zhx q2, zhx q6, zhx q7, zhx q8, zhx q9, zhx q10, zhx q11, zhx q12] at h3 h13 h14 h15 ⊢ <;> omega))
          obtain ⟨Ym20, hYm20, hM⟩ := zl_x hM
          have hR21 : zRx [] 0 Z Ym20 := zRx_o hR17 hYm20 rfl
          have hV22 : zV Ym20 := zV_o hV18 hYm20 rfl
          have hG23 := yFr_o hG19 hYm20 rfl (.inr rfl) rfl
          obtain ⟨v25, g24, hM⟩ := zl_x hM
          replace g24 : zE _ _ := g24
          unfold zf_480 at g24
          replace g24 := zE_n g24 (by first | (have q1 := zhx q1; have q2 := zhx q2; have q6 := zhx q6; have q7 := zhx q7; have q8 := zhx q8; have q9 := zhx q9; have q10 := zhx q10; have q11 := zhx q11; have q12 := zhx q12; omega) | (simp only [zhx q1, zhx q2, zhx q6, zhx q7, zhx q8, zhx q9, zhx q10, zhx q11, zhx q12] at h3 h13 h14 h15 ⊢ <;> omega))
          replace g24 := zE_p g24 (by first | (have q1 := zhx q1; have q2 := zhx q2; have q6 := zhx q6; have q7 := zhx q7; have q8 := zhx q8; have q9 := zhx q9; have q10 := zhx q10; have q11 := zhx q11; have q12 := zhx q12; omega) | (simp only [zhx q1, zhx q2, zhx q6, zhx q7, zhx q8, zhx q9, zhx q10, zhx q11, zhx q12] at h3 h13 h14 h15 ⊢ <;> omega))
          have q26 := zhd (((zu_ne (k' := 2) (b' := 0) (i' := 0) (j' := 201 + 20 * a1) hYm20 (fun q => absurd q.1 (by decide))).trans (zu_ne (k' := 2) (b' := 0) (i' := 0) (j' := 201 + 20 * a1) hYm16 (fun q => absurd q.1 (by decide)))))
          have q27 := zhd (congrArg (Ym20 2 0 0) (show (113 + 5 * (Ym20 2 0 0 (201 + 20 * a1))) = 113 + 5 * (Y 2 0 0 (201 + 20 * a1)) from (by first | (have q6 := zhx q6; have q26 := zhx q26; omega) | (have q1 := zhx q1; have q2 := zhx q2; have q6 := zhx q6; have q7 := zhx q7; have q8 := zhx q8; have q9 := zhx q9; have q10 := zhx q10; have q11 := zhx q11; have q12 := zhx q12; have q26 := zhx q26; omega))))
          have q28 := zhd (((zu_ne (k' := 2) (b' := 0) (i' := 0) (j' := 113 + 5 * (Y 2 0 0 (201 + 20 * a1))) hYm20 (fun q => absurd q.1 (by decide))).trans (zu_ne (k' := 2) (b' := 0) (i' := 0) (j' := 113 + 5 * (Y 2 0 0 (201 + 20 * a1))) hYm16 (fun q => absurd q.1 (by decide)))))
          have q29 := zhd (congrArg (Ym20 2 0 0) (show (114 + 5 * (Ym20 2 0 0 (201 + 20 * a1))) = 114 + 5 * (Y 2 0 0 (201 + 20 * a1)) from (by first | (have q6 := zhx q6; have q26 := zhx q26; omega) | (have q1 := zhx q1; have q2 := zhx q2; have q6 := zhx q6; have q7 := zhx q7; have q8 := zhx q8; have q9 := zhx q9; have q10 := zhx q10; have q11 := zhx q11; have q12 := zhx q12; have q26 := zhx q26; omega))))
          have q30 := zhd (((zu_ne (k' := 2) (b' := 0) (i' := 0) (j' := 114 + 5 * (Y 2 0 0 (201 + 20 * a1))) hYm20 (fun q => absurd q.1 (by decide))).trans (zu_ne (k' := 2) (b' := 0) (i' := 0) (j' := 114 + 5 * (Y 2 0 0 (201 + 20 * a1))) hYm16 (fun q => absurd q.1 (by decide)))))
          have q31 := zhd (((zu_ne (k' := 2) (b' := 0) (i' := 0) (j' := 207 + 20 * a1) hYm20 (fun q => absurd q.1 (by decide))).trans (zu_ne (k' := 2) (b' := 0) (i' := 0) (j' := 207 + 20 * a1) hYm16 (fun q => absurd q.1 (by decide)))))
          replace g24 := zE_p g24 (by first | (have q1 := zhx q1; have q2 := zhx q2; have q6 := zhx q6; have q7 := zhx q7; have q8 := zhx q8; have q9 := zhx q9; have q10 := zhx q10; have q11 := zhx q11; have q12 := zhx q12; have q26 := zhx q26; have q27 := zhx q27; have q28 := zhx q28; have q29 := zhx q29; have q30 := zhx q30; have q31 := zhx q31; omega) | (simp only [zhx q1, zhx q2, zhx q6, zhx q7, zhx q8, zhx q9, zhx q10, zhx q11, zhx q12, zhx q26, zhx q27, zhx q28, zhx q29, zhx q30, zhx q31] at h3 h13 h14 h15 ⊢ <;> omega))
          replace g24 := zE_p g24 (by first | (have q1 := zhx q1; have q2 := zhx q2; have q6 := zhx q6; have q7 := zhx q7; have q8 := zhx q8; have q9 := zhx q9; have q10 := zhx q10; have q11 := zhx q11; have q12 := zhx q12; have q26 := zhx q26; have q27 := zhx q27; have q28 := zhx q28; have q29 := zhx q29; have q30 := zhx q30; have q31 := zhx q31; omega) | (simp only [zhx q1, zhx q2, zhx q6, zhx q7, zhx q8, zhx q9, zhx q10, zhx q11, zhx q12, zhx q26, zhx q27, zhx q28, zhx q29, zhx q30, zhx q31] at h3 h13 h14 h15 ⊢ <;> omega))
          replace g24 := zE_p g24 (by first | (have q1 := zhx q1; have q2 := zhx q2; have q6 := zhx q6; have q7 := zhx q7; have q8 := zhx q8; have q9 := zhx q9; have q10 := zhx q10; have q11 := zhx q11; have q12 := zhx q12; have q26 := zhx q26; have q27 := zhx q27; have q28 := zhx q28; have q29 := zhx q29; have q30 := zhx q30; have q31 := zhx q31; omega) | (simp only [zhx q1, zhx q2, zhx q6, zhx q7, zhx q8, zhx q9, zhx q10, zhx q11, zhx q12, zhx q26, zhx q27, zhx q28, zhx q29, zhx q30, zhx q31] at h3 h13 h14 h15 ⊢ <;> omega))
          have e9 : 3 = v25 := Eq.symm g24
          subst e9
          have th9 := (zu_at hYm20)
          obtain rfl : C = _ := hC
          obtain rfl : M = _ := hM
          exact ⟨zRx_1 hR21, hV22, ⟨Z, _, .inl ⟨rfl, yFr_w hG23 (by decide)⟩, zFc_r, yFr_r⟩, zThr_a th9 (by first | rfl | (have q1 := zhx q1; have q2 := zhx q2; have q6 := zhx q6; have q7 := zhx q7; have q8 := zhx q8; have q9 := zhx q9; have q10 := zhx q10; have q11 := zhx q11; have q12 := zhx q12; omega) | (simp only [zhx q1, zhx q2, zhx q6, zhx q7, zhx q8, zhx q9, zhx q10, zhx q11, zhx q12] <;> omega) | (have q1 := zhx q1; have q2 := zhx q2; have q6 := zhx q6; have q7 := zhx q7; have q8 := zhx q8; have q9 := zhx q9; have q10 := zhx q10; have q11 := zhx q11; have q12 := zhx q12; refine w3z ?_ ?_ ?_ <;> omega) | (have q1 := zhx q1; have q2 := zhx q2; have q6 := zhx q6; have q7 := zhx q7; have q8 := zhx q8; have q9 := zhx q9; have q10 := zhx q10; have q11 := zhx q11; have q12 := zhx q12; refine w3y ?_ ?_ ?_ <;> omega) | (have q1 := zhx q1; have q2 := zhx q2; have q6 := zhx q6; have q7 := zhx q7; have q8 := zhx q8; have q9 := zhx q9; have q10 := zhx q10; have q11 := zhx q11; have q12 := zhx q12; refine z2o ?_ ?_ ?_ <;> omega))⟩
        · have e9 : 2 = v5 := Eq.symm g4
          subst e9
          replace hM := zE_n hM (by first | (have q1 := zhx q1; have q2 := zhx q2; have q6 := zhx q6; have q7 := zhx q7; have q8 := zhx q8; have q9 := zhx q9; have q10 := zhx q10; have q11 := zhx q11; have q12 := zhx q12; omega) | (simp only [zhx q1, zhx q2, zhx q6, zhx q7, zhx q8, zhx q9, zhx q10, zhx q11, zhx q12] at h3 h13 h14 h15 ⊢ <;> omega))
          replace hM := zE_n hM (by first | (have q1 := zhx q1; have q2 := zhx q2; have q6 := zhx q6; have q7 := zhx q7; have q8 := zhx q8; have q9 := zhx q9; have q10 := zhx q10; have q11 := zhx q11; have q12 := zhx q12; omega) | (simp only [zhx q1, zhx q2, zhx q6, zhx q7, zhx q8, zhx q9, zhx q10, zhx q11, zhx q12] at h3 h13 h14 h15 ⊢ <;> omega))
          obtain ⟨Ym32, hYm32, hM⟩ := zl_x hM
          have hR33 : zRx [] 0 Z Ym32 := zRx_o hRb hYm32 rfl
          have hV34 : zV Ym32 := zV_o hV hYm32 rfl
          have hG35 := yFr_o hG hYm32 rfl (.inr rfl) rfl
          replace hM := zE_n hM (by first | (have q1 := zhx q1; have q2 := zhx q2; have q6 := zhx q6; have q7 := zhx q7; have q8 := zhx q8; have q9 := zhx q9; have q10 := zhx q10; have q11 := zhx q11; have q12 := zhx q12; omega) | (simp only [zhx q1, zhx q2, zhx q6, zhx q7, zhx q8, zhx q9, zhx q10, zhx q11, zhx q12] at h3 h13 h14 h15 ⊢ <;> omega))
          replace hM := zE_n hM (by first | (have q1 := zhx q1; have q2 := zhx q2; have q6 := zhx q6; have q7 := zhx q7; have q8 := zhx q8; have q9 := zhx q9; have q10 := zhx q10; have q11 := zhx q11; have q12 := zhx q12; omega) | (simp only [zhx q1, zhx q2, zhx q6, zhx q7, zhx q8, zhx q9, zhx q10, zhx q11, zhx q12] at h3 h13 h14 h15 ⊢ <;> omega))
          obtain ⟨Ym36, hYm36, hM⟩ := zl_x hM
          have hR37 : zRx [] 0 Z Ym36 := zRx_o hR33 hYm36 rfl
          have hV38 : zV Ym36 := zV_o hV34 hYm36 rfl
          have hG39 := yFr_o hG35 hYm36 rfl (.inr rfl) rfl
          obtain ⟨v41, g40, hM⟩ := zl_x hM
          replace g40 : zE _ _ := g40
          unfold zf_480 at g40
          replace g40 := zE_n g40 (by first | (have q1 := zhx q1; have q2 := zhx q2; have q6 := zhx q6; have q7 := zhx q7; have q8 := zhx q8; have q9 := zhx q9; have q10 := zhx q10; have q11 := zhx q11; have q12 := zhx q12; omega) | (simp only [zhx q1, zhx q2, zhx q6, zhx q7, zhx q8, zhx q9, zhx q10, zhx q11, zhx q12] at h3 h13 h14 h15 ⊢ <;> omega))
          replace g40 := zE_p g40 (by first | (have q1 := zhx q1; have q2 := zhx q2; have q6 := zhx q6; have q7 := zhx q7; have q8 := zhx q8; have q9 := zhx q9; have q10 := zhx q10; have q11 := zhx q11; have q12 := zhx q12; omega) | (simp only [zhx q1, zhx q2, zhx q6, zhx q7, zhx q8, zhx q9, zhx q10, zhx q11, zhx q12] at h3 h13 h14 h15 ⊢ <;> omega))
          have q42 := zhd (((zu_ne (k' := 2) (b' := 0) (i' := 0) (j' := 201 + 20 * a1) hYm36 (fun q => absurd q.1 (by decide))).trans (zu_ne (k' := 2) (b' := 0) (i' := 0) (j' := 201 + 20 * a1) hYm32 (fun q => absurd q.1 (by decide)))))
          have q43 := zhd (congrArg (Ym36 2 0 0) (show (113 + 5 * (Ym36 2 0 0 (201 + 20 * a1))) = 113 + 5 * (Y 2 0 0 (201 + 20 * a1)) from (by first | (have q6 := zhx q6; have q42 := zhx q42; omega) | (have q1 := zhx q1; have q2 := zhx q2; have q6 := zhx q6; have q7 := zhx q7; have q8 := zhx q8; have q9 := zhx q9; have q10 := zhx q10; have q11 := zhx q11; have q12 := zhx q12; have q42 := zhx q42; omega))))
          have q44 := zhd (((zu_ne (k' := 2) (b' := 0) (i' := 0) (j' := 113 + 5 * (Y 2 0 0 (201 + 20 * a1))) hYm36 (fun q => absurd q.1 (by decide))).trans (zu_ne (k' := 2) (b' := 0) (i' := 0) (j' := 113 + 5 * (Y 2 0 0 (201 + 20 * a1))) hYm32 (fun q => absurd q.1 (by decide)))))
          have q45 := zhd (congrArg (Ym36 2 0 0) (show (114 + 5 * (Ym36 2 0 0 (201 + 20 * a1))) = 114 + 5 * (Y 2 0 0 (201 + 20 * a1)) from (by first | (have q6 := zhx q6; have q42 := zhx q42; omega) | (have q1 := zhx q1; have q2 := zhx q2; have q6 := zhx q6; have q7 := zhx q7; have q8 := zhx q8; have q9 := zhx q9; have q10 := zhx q10; have q11 := zhx q11; have q12 := zhx q12; have q42 := zhx q42; omega))))
          have q46 := zhd (((zu_ne (k' := 2) (b' := 0) (i' := 0) (j' := 114 + 5 * (Y 2 0 0 (201 + 20 * a1))) hYm36 (fun q => absurd q.1 (by decide))).trans (zu_ne (k' := 2) (b' := 0) (i' := 0) (j' := 114 + 5 * (Y 2 0 0 (201 + 20 * a1))) hYm32 (fun q => absurd q.1 (by decide)))))
          have q47 := zhd (((zu_ne (k' := 2) (b' := 0) (i' := 0) (j' := 207 + 20 * a1) hYm36 (fun q => absurd q.1 (by decide))).trans (zu_ne (k' := 2) (b' := 0) (i' := 0) (j' := 207 + 20 * a1) hYm32 (fun q => absurd q.1 (by decide)))))
          replace g40 := zE_p g40 (by first | (have q1 := zhx q1; have q2 := zhx q2; have q6 := zhx q6; have q7 := zhx q7; have q8 := zhx q8; have q9 := zhx q9; have q10 := zhx q10; have q11 := zhx q11; have q12 := zhx q12; have q42 := zhx q42; have q43 := zhx q43; have q44 := zhx q44; have q45 := zhx q45; have q46 := zhx q46; have q47 := zhx q47; omega) | (simp only [zhx q1, zhx q2, zhx q6, zhx q7, zhx q8, zhx q9, zhx q10, zhx q11, zhx q12, zhx q42, zhx q43, zhx q44, zhx q45, zhx q46, zhx q47] at h3 h13 h14 h15 ⊢ <;> omega))
          replace g40 := zE_p g40 (by first | (have q1 := zhx q1; have q2 := zhx q2; have q6 := zhx q6; have q7 := zhx q7; have q8 := zhx q8; have q9 := zhx q9; have q10 := zhx q10; have q11 := zhx q11; have q12 := zhx q12; have q42 := zhx q42; have q43 := zhx q43; have q44 := zhx q44; have q45 := zhx q45; have q46 := zhx q46; have q47 := zhx q47; omega) | (simp only [zhx q1, zhx q2, zhx q6, zhx q7, zhx q8, zhx q9, zhx q10, zhx q11, zhx q12, zhx q42, zhx q43, zhx q44, zhx q45, zhx q46, zhx q47] at h3 h13 h14 h15 ⊢ <;> omega))
          replace g40 := zE_n g40 (by first | (have q1 := zhx q1; have q2 := zhx q2; have q6 := zhx q6; have q7 := zhx q7; have q8 := zhx q8; have q9 := zhx q9; have q10 := zhx q10; have q11 := zhx q11; have q12 := zhx q12; have q42 := zhx q42; have q43 := zhx q43; have q44 := zhx q44; have q45 := zhx q45; have q46 := zhx q46; have q47 := zhx q47; omega) | (simp only [zhx q1, zhx q2, zhx q6, zhx q7, zhx q8, zhx q9, zhx q10, zhx q11, zhx q12, zhx q42, zhx q43, zhx q44, zhx q45, zhx q46, zhx q47] at h3 h13 h14 h15 ⊢ <;> omega))
          have e9 : 2 = v41 := Eq.symm g40
          subst e9
          have th9 := (zu_at hYm36)
          obtain rfl : C = _ := hC
          obtain rfl : M = _ := hM
          exact ⟨zRx_1 hR37, hV38, ⟨Z, _, .inl ⟨rfl, yFr_w hG39 (by decide)⟩, zFc_r, yFr_r⟩, zThr_a th9 (by first | rfl | (have q1 := zhx q1; have q2 := zhx q2; have q6 := zhx q6; have q7 := zhx q7; have q8 := zhx q8; have q9 := zhx q9; have q10 := zhx q10; have q11 := zhx q11; have q12 := zhx q12; omega) | (simp only [zhx q1, zhx q2, zhx q6, zhx q7, zhx q8, zhx q9, zhx q10, zhx q11, zhx q12] <;> omega) | (have q1 := zhx q1; have q2 := zhx q2; have q6 := zhx q6; have q7 := zhx q7; have q8 := zhx q8; have q9 := zhx q9; have q10 := zhx q10; have q11 := zhx q11; have q12 := zhx q12; refine w3z ?_ ?_ ?_ <;> omega) | (have q1 := zhx q1; have q2 := zhx q2; have q6 := zhx q6; have q7 := zhx q7; have q8 := zhx q8; have q9 := zhx q9; have q10 := zhx q10; have q11 := zhx q11; have q12 := zhx q12; refine w3y ?_ ?_ ?_ <;> omega) | (have q1 := zhx q1; have q2 := zhx q2; have q6 := zhx q6; have q7 := zhx q7; have q8 := zhx q8; have q9 := zhx q9; have q10 := zhx q10; have q11 := zhx q11; have q12 := zhx q12; refine z2o ?_ ?_ ?_ <;> omega))⟩
      · have e9 : 1 = v5 := Eq.symm g4
        subst e9
        replace hM := zE_n hM (by first | (have q1 := zhx q1; have q2 := zhx q2; have q6 := zhx q6; have q7 := zhx q7; have q8 := zhx q8; have q9 := zhx q9; have q10 := zhx q10; have q11 := zhx q11; have q12 := zhx q12; omega) | (simp only [zhx q1, zhx q2, zhx q6, zhx q7, zhx q8, zhx q9, zhx q10, zhx q11, zhx q12] at h3 h13 h14 ⊢ <;> omega))
        replace hM := zE_n hM (by first | (have q1 := zhx q1; have q2 := zhx q2; have q6 := zhx q6; have q7 := zhx q7; have q8 := zhx q8; have q9 := zhx q9; have q10 := zhx q10; have q11 := zhx q11; have q12 := zhx q12; omega) | (simp only [zhx q1, zhx q2, zhx q6, zhx q7, zhx q8, zhx q9, zhx q10, zhx q11, zhx q12] at h3 h13 h14 ⊢ <;> omega))
        obtain ⟨Ym48, hYm48, hM⟩ := zl_x hM
        have hR49 : zRx [] 0 Z Ym48 := zRx_o hRb hYm48 rfl
        have hV50 : zV Ym48 := zV_o hV hYm48 rfl
        have hG51 := yFr_o hG hYm48 rfl (.inr rfl) rfl
        replace hM := zE_n hM (by first | (have q1 := zhx q1; have q2 := zhx q2; have q6 := zhx q6; have q7 := zhx q7; have q8 := zhx q8; have q9 := zhx q9; have q10 := zhx q10; have q11 := zhx q11; have q12 := zhx q12; omega) | (simp only [zhx q1, zhx q2, zhx q6, zhx q7, zhx q8, zhx q9, zhx q10, zhx q11, zhx q12] at h3 h13 h14 ⊢ <;> omega))
        replace hM := zE_n hM (by first | (have q1 := zhx q1; have q2 := zhx q2; have q6 := zhx q6; have q7 := zhx q7; have q8 := zhx q8; have q9 := zhx q9; have q10 := zhx q10; have q11 := zhx q11; have q12 := zhx q12; omega) | (simp only [zhx q1, zhx q2, zhx q6, zhx q7, zhx q8, zhx q9, zhx q10, zhx q11, zhx q12] at h3 h13 h14 ⊢ <;> omega))
        obtain ⟨Ym52, hYm52, hM⟩ := zl_x hM
        have hR53 : zRx [] 0 Z Ym52 := zRx_o hR49 hYm52 rfl
        have hV54 : zV Ym52 := zV_o hV50 hYm52 rfl
        have hG55 := yFr_o hG51 hYm52 rfl (.inr rfl) rfl
        obtain ⟨v57, g56, hM⟩ := zl_x hM
        replace g56 : zE _ _ := g56
        unfold zf_480 at g56
        replace g56 := zE_n g56 (by first | (have q1 := zhx q1; have q2 := zhx q2; have q6 := zhx q6; have q7 := zhx q7; have q8 := zhx q8; have q9 := zhx q9; have q10 := zhx q10; have q11 := zhx q11; have q12 := zhx q12; omega) | (simp only [zhx q1, zhx q2, zhx q6, zhx q7, zhx q8, zhx q9, zhx q10, zhx q11, zhx q12] at h3 h13 h14 ⊢ <;> omega))
        replace g56 := zE_p g56 (by first | (have q1 := zhx q1; have q2 := zhx q2; have q6 := zhx q6; have q7 := zhx q7; have q8 := zhx q8; have q9 := zhx q9; have q10 := zhx q10; have q11 := zhx q11; have q12 := zhx q12; omega) | (simp only [zhx q1, zhx q2, zhx q6, zhx q7, zhx q8, zhx q9, zhx q10, zhx q11, zhx q12] at h3 h13 h14 ⊢ <;> omega))
        have q58 := zhd (((zu_ne (k' := 2) (b' := 0) (i' := 0) (j' := 201 + 20 * a1) hYm52 (fun q => absurd q.1 (by decide))).trans (zu_ne (k' := 2) (b' := 0) (i' := 0) (j' := 201 + 20 * a1) hYm48 (fun q => absurd q.1 (by decide)))))
        have q59 := zhd (congrArg (Ym52 2 0 0) (show (113 + 5 * (Ym52 2 0 0 (201 + 20 * a1))) = 113 + 5 * (Y 2 0 0 (201 + 20 * a1)) from (by first | (have q6 := zhx q6; have q58 := zhx q58; omega) | (have q1 := zhx q1; have q2 := zhx q2; have q6 := zhx q6; have q7 := zhx q7; have q8 := zhx q8; have q9 := zhx q9; have q10 := zhx q10; have q11 := zhx q11; have q12 := zhx q12; have q58 := zhx q58; omega))))
        have q60 := zhd (((zu_ne (k' := 2) (b' := 0) (i' := 0) (j' := 113 + 5 * (Y 2 0 0 (201 + 20 * a1))) hYm52 (fun q => absurd q.1 (by decide))).trans (zu_ne (k' := 2) (b' := 0) (i' := 0) (j' := 113 + 5 * (Y 2 0 0 (201 + 20 * a1))) hYm48 (fun q => absurd q.1 (by decide)))))
        have q61 := zhd (congrArg (Ym52 2 0 0) (show (114 + 5 * (Ym52 2 0 0 (201 + 20 * a1))) = 114 + 5 * (Y 2 0 0 (201 + 20 * a1)) from (by first | (have q6 := zhx q6; have q58 := zhx q58; omega) | (have q1 := zhx q1; have q2 := zhx q2; have q6 := zhx q6; have q7 := zhx q7; have q8 := zhx q8; have q9 := zhx q9; have q10 := zhx q10; have q11 := zhx q11; have q12 := zhx q12; have q58 := zhx q58; omega))))
        have q62 := zhd (((zu_ne (k' := 2) (b' := 0) (i' := 0) (j' := 114 + 5 * (Y 2 0 0 (201 + 20 * a1))) hYm52 (fun q => absurd q.1 (by decide))).trans (zu_ne (k' := 2) (b' := 0) (i' := 0) (j' := 114 + 5 * (Y 2 0 0 (201 + 20 * a1))) hYm48 (fun q => absurd q.1 (by decide)))))
        have q63 := zhd (((zu_ne (k' := 2) (b' := 0) (i' := 0) (j' := 207 + 20 * a1) hYm52 (fun q => absurd q.1 (by decide))).trans (zu_ne (k' := 2) (b' := 0) (i' := 0) (j' := 207 + 20 * a1) hYm48 (fun q => absurd q.1 (by decide)))))
        replace g56 := zE_p g56 (by first | (have q1 := zhx q1; have q2 := zhx q2; have q6 := zhx q6; have q7 := zhx q7; have q8 := zhx q8; have q9 := zhx q9; have q10 := zhx q10; have q11 := zhx q11; have q12 := zhx q12; have q58 := zhx q58; have q59 := zhx q59; have q60 := zhx q60; have q61 := zhx q61; have q62 := zhx q62; have q63 := zhx q63; omega) | (simp only [zhx q1, zhx q2, zhx q6, zhx q7, zhx q8, zhx q9, zhx q10, zhx q11, zhx q12, zhx q58, zhx q59, zhx q60, zhx q61, zhx q62, zhx q63] at h3 h13 h14 ⊢ <;> omega))
        replace g56 := zE_n g56 (by first | (have q1 := zhx q1; have q2 := zhx q2; have q6 := zhx q6; have q7 := zhx q7; have q8 := zhx q8; have q9 := zhx q9; have q10 := zhx q10; have q11 := zhx q11; have q12 := zhx q12; have q58 := zhx q58; have q59 := zhx q59; have q60 := zhx q60; have q61 := zhx q61; have q62 := zhx q62; have q63 := zhx q63; omega) | (simp only [zhx q1, zhx q2, zhx q6, zhx q7, zhx q8, zhx q9, zhx q10, zhx q11, zhx q12, zhx q58, zhx q59, zhx q60, zhx q61, zhx q62, zhx q63] at h3 h13 h14 ⊢ <;> omega))
        have e9 : 1 = v57 := Eq.symm g56
        subst e9
        have th9 := (zu_at hYm52)
        obtain rfl : C = _ := hC
        obtain rfl : M = _ := hM
        exact ⟨zRx_1 hR53, hV54, ⟨Z, _, .inl ⟨rfl, yFr_w hG55 (by decide)⟩, zFc_r, yFr_r⟩, zThr_a th9 (by first | rfl | (have q1 := zhx q1; have q2 := zhx q2; have q6 := zhx q6; have q7 := zhx q7; have q8 := zhx q8; have q9 := zhx q9; have q10 := zhx q10; have q11 := zhx q11; have q12 := zhx q12; omega) | (simp only [zhx q1, zhx q2, zhx q6, zhx q7, zhx q8, zhx q9, zhx q10, zhx q11, zhx q12] <;> omega) | (have q1 := zhx q1; have q2 := zhx q2; have q6 := zhx q6; have q7 := zhx q7; have q8 := zhx q8; have q9 := zhx q9; have q10 := zhx q10; have q11 := zhx q11; have q12 := zhx q12; refine w3z ?_ ?_ ?_ <;> omega) | (have q1 := zhx q1; have q2 := zhx q2; have q6 := zhx q6; have q7 := zhx q7; have q8 := zhx q8; have q9 := zhx q9; have q10 := zhx q10; have q11 := zhx q11; have q12 := zhx q12; refine w3y ?_ ?_ ?_ <;> omega) | (have q1 := zhx q1; have q2 := zhx q2; have q6 := zhx q6; have q7 := zhx q7; have q8 := zhx q8; have q9 := zhx q9; have q10 := zhx q10; have q11 := zhx q11; have q12 := zhx q12; refine z2o ?_ ?_ ?_ <;> omega))⟩
    · have e9 : 0 = v5 := Eq.symm g4
      subst e9
      replace hM := zE_n hM (by first | (have q1 := zhx q1; have q2 := zhx q2; have q6 := zhx q6; have q7 := zhx q7; have q8 := zhx q8; have q9 := zhx q9; have q10 := zhx q10; have q11 := zhx q11; have q12 := zhx q12; omega) | (simp only [zhx q1, zhx q2, zhx q6, zhx q7, zhx q8, zhx q9, zhx q10, zhx q11, zhx q12] at h3 h13 ⊢ <;> omega))
      replace hM := zE_n hM (by first | (have q1 := zhx q1; have q2 := zhx q2; have q6 := zhx q6; have q7 := zhx q7; have q8 := zhx q8; have q9 := zhx q9; have q10 := zhx q10; have q11 := zhx q11; have q12 := zhx q12; omega) | (simp only [zhx q1, zhx q2, zhx q6, zhx q7, zhx q8, zhx q9, zhx q10, zhx q11, zhx q12] at h3 h13 ⊢ <;> omega))
      obtain ⟨Ym64, hYm64, hM⟩ := zl_x hM
      have hR65 : zRx [] 0 Z Ym64 := zRx_o hRb hYm64 rfl
      have hV66 : zV Ym64 := zV_o hV hYm64 rfl
      have hG67 := yFr_o hG hYm64 rfl (.inr rfl) rfl
      replace hM := zE_n hM (by first | (have q1 := zhx q1; have q2 := zhx q2; have q6 := zhx q6; have q7 := zhx q7; have q8 := zhx q8; have q9 := zhx q9; have q10 := zhx q10; have q11 := zhx q11; have q12 := zhx q12; omega) | (simp only [zhx q1, zhx q2, zhx q6, zhx q7, zhx q8, zhx q9, zhx q10, zhx q11, zhx q12] at h3 h13 ⊢ <;> omega))
      replace hM := zE_n hM (by first | (have q1 := zhx q1; have q2 := zhx q2; have q6 := zhx q6; have q7 := zhx q7; have q8 := zhx q8; have q9 := zhx q9; have q10 := zhx q10; have q11 := zhx q11; have q12 := zhx q12; omega) | (simp only [zhx q1, zhx q2, zhx q6, zhx q7, zhx q8, zhx q9, zhx q10, zhx q11, zhx q12] at h3 h13 ⊢ <;> omega))
      obtain ⟨Ym68, hYm68, hM⟩ := zl_x hM
      have hR69 : zRx [] 0 Z Ym68 := zRx_o hR65 hYm68 rfl
      have hV70 : zV Ym68 := zV_o hV66 hYm68 rfl
      have hG71 := yFr_o hG67 hYm68 rfl (.inr rfl) rfl
      obtain ⟨v73, g72, hM⟩ := zl_x hM
      replace g72 : zE _ _ := g72
      unfold zf_480 at g72
      replace g72 := zE_n g72 (by first | (have q1 := zhx q1; have q2 := zhx q2; have q6 := zhx q6; have q7 := zhx q7; have q8 := zhx q8; have q9 := zhx q9; have q10 := zhx q10; have q11 := zhx q11; have q12 := zhx q12; omega) | (simp only [zhx q1, zhx q2, zhx q6, zhx q7, zhx q8, zhx q9, zhx q10, zhx q11, zhx q12] at h3 h13 ⊢ <;> omega))
      replace g72 := zE_p g72 (by first | (have q1 := zhx q1; have q2 := zhx q2; have q6 := zhx q6; have q7 := zhx q7; have q8 := zhx q8; have q9 := zhx q9; have q10 := zhx q10; have q11 := zhx q11; have q12 := zhx q12; omega) | (simp only [zhx q1, zhx q2, zhx q6, zhx q7, zhx q8, zhx q9, zhx q10, zhx q11, zhx q12] at h3 h13 ⊢ <;> omega))
      have q74 := zhd (((zu_ne (k' := 2) (b' := 0) (i' := 0) (j' := 201 + 20 * a1) hYm68 (fun q => absurd q.1 (by decide))).trans (zu_ne (k' := 2) (b' := 0) (i' := 0) (j' := 201 + 20 * a1) hYm64 (fun q => absurd q.1 (by decide)))))
      have q75 := zhd (congrArg (Ym68 2 0 0) (show (113 + 5 * (Ym68 2 0 0 (201 + 20 * a1))) = 113 + 5 * (Y 2 0 0 (201 + 20 * a1)) from (by first | (have q6 := zhx q6; have q74 := zhx q74; omega) | (have q1 := zhx q1; have q2 := zhx q2; have q6 := zhx q6; have q7 := zhx q7; have q8 := zhx q8; have q9 := zhx q9; have q10 := zhx q10; have q11 := zhx q11; have q12 := zhx q12; have q74 := zhx q74; omega))))
      have q76 := zhd (((zu_ne (k' := 2) (b' := 0) (i' := 0) (j' := 113 + 5 * (Y 2 0 0 (201 + 20 * a1))) hYm68 (fun q => absurd q.1 (by decide))).trans (zu_ne (k' := 2) (b' := 0) (i' := 0) (j' := 113 + 5 * (Y 2 0 0 (201 + 20 * a1))) hYm64 (fun q => absurd q.1 (by decide)))))
      have q77 := zhd (congrArg (Ym68 2 0 0) (show (114 + 5 * (Ym68 2 0 0 (201 + 20 * a1))) = 114 + 5 * (Y 2 0 0 (201 + 20 * a1)) from (by first | (have q6 := zhx q6; have q74 := zhx q74; omega) | (have q1 := zhx q1; have q2 := zhx q2; have q6 := zhx q6; have q7 := zhx q7; have q8 := zhx q8; have q9 := zhx q9; have q10 := zhx q10; have q11 := zhx q11; have q12 := zhx q12; have q74 := zhx q74; omega))))
      have q78 := zhd (((zu_ne (k' := 2) (b' := 0) (i' := 0) (j' := 114 + 5 * (Y 2 0 0 (201 + 20 * a1))) hYm68 (fun q => absurd q.1 (by decide))).trans (zu_ne (k' := 2) (b' := 0) (i' := 0) (j' := 114 + 5 * (Y 2 0 0 (201 + 20 * a1))) hYm64 (fun q => absurd q.1 (by decide)))))
      have q79 := zhd (((zu_ne (k' := 2) (b' := 0) (i' := 0) (j' := 207 + 20 * a1) hYm68 (fun q => absurd q.1 (by decide))).trans (zu_ne (k' := 2) (b' := 0) (i' := 0) (j' := 207 + 20 * a1) hYm64 (fun q => absurd q.1 (by decide)))))
      replace g72 := zE_n g72 (by first | (have q1 := zhx q1; have q2 := zhx q2; have q6 := zhx q6; have q7 := zhx q7; have q8 := zhx q8; have q9 := zhx q9; have q10 := zhx q10; have q11 := zhx q11; have q12 := zhx q12; have q74 := zhx q74; have q75 := zhx q75; have q76 := zhx q76; have q77 := zhx q77; have q78 := zhx q78; have q79 := zhx q79; omega) | (simp only [zhx q1, zhx q2, zhx q6, zhx q7, zhx q8, zhx q9, zhx q10, zhx q11, zhx q12, zhx q74, zhx q75, zhx q76, zhx q77, zhx q78, zhx q79] at h3 h13 ⊢ <;> omega))
      have e9 : 0 = v73 := Eq.symm g72
      subst e9
      have th9 := (zu_at hYm68)
      obtain rfl : C = _ := hC
      obtain rfl : M = _ := hM
      exact ⟨zRx_1 hR69, hV70, ⟨Z, _, .inl ⟨rfl, yFr_w hG71 (by decide)⟩, zFc_r, yFr_r⟩, zThr_a th9 (by first | rfl | (have q1 := zhx q1; have q2 := zhx q2; have q6 := zhx q6; have q7 := zhx q7; have q8 := zhx q8; have q9 := zhx q9; have q10 := zhx q10; have q11 := zhx q11; have q12 := zhx q12; omega) | (simp only [zhx q1, zhx q2, zhx q6, zhx q7, zhx q8, zhx q9, zhx q10, zhx q11, zhx q12] <;> omega) | (have q1 := zhx q1; have q2 := zhx q2; have q6 := zhx q6; have q7 := zhx q7; have q8 := zhx q8; have q9 := zhx q9; have q10 := zhx q10; have q11 := zhx q11; have q12 := zhx q12; refine w3z ?_ ?_ ?_ <;> omega) | (have q1 := zhx q1; have q2 := zhx q2; have q6 := zhx q6; have q7 := zhx q7; have q8 := zhx q8; have q9 := zhx q9; have q10 := zhx q10; have q11 := zhx q11; have q12 := zhx q12; refine w3y ?_ ?_ ?_ <;> omega) | (have q1 := zhx q1; have q2 := zhx q2; have q6 := zhx q6; have q7 := zhx q7; have q8 := zhx q8; have q9 := zhx q9; have q10 := zhx q10; have q11 := zhx q11; have q12 := zhx q12; refine z2o ?_ ?_ ?_ <;> omega))⟩
  · rcases zE_c hM with ⟨h80, hM⟩ | ⟨h80, hM⟩
    · obtain ⟨Ym81, hYm81, hM⟩ := zl_x hM
      have hR82 : zRx [] 0 Z Ym81 := zRx_o hRb hYm81 rfl
      have hV83 : zV Ym81 := zV_o hV hYm81 rfl
      have hG84 := yFr_o hG hYm81 rfl (.inr rfl) rfl
      have th9 := (zu_at hYm81)
      obtain rfl : C = _ := hC
      obtain rfl : M = _ := hM
      exact ⟨zRx_1 hR82, hV83, ⟨Z, _, .inl ⟨rfl, yFr_w hG84 (by decide)⟩, zFc_r, yFr_r⟩, zThr_e th9 (by decide)⟩
    · rcases zE_c hM with ⟨h85, hM⟩ | ⟨h85, hM⟩
      · obtain ⟨Ym86, hYm86, hM⟩ := zl_x hM
        have hR87 : zRx [] 0 Z Ym86 := zRx_o hRb hYm86 rfl
        have hV88 : zV Ym86 := zV_o hV hYm86 rfl
        have hG89 := yFr_o hG hYm86 rfl (.inr rfl) rfl
        have th9 := (zu_at hYm86)
        obtain rfl : C = _ := hC
        obtain rfl : M = _ := hM
        exact ⟨zRx_1 hR87, hV88, ⟨Z, _, .inl ⟨rfl, yFr_w hG89 (by decide)⟩, zFc_r, yFr_r⟩, zThr_e th9 (by decide)⟩
      · obtain ⟨Ym90, hYm90, hM⟩ := zl_x hM
        have hR91 : zRx [] 0 Z Ym90 := zRx_o hRb hYm90 rfl
        have hV92 : zV Ym90 := zV_o hV hYm90 rfl
        have hG93 := yFr_o hG hYm90 rfl (.inr rfl) rfl
        replace hM := zE_n hM (by first | (have q1 := zhx q1; have q2 := zhx q2; omega) | (simp only [zhx q1, zhx q2] at h3 h80 h85 ⊢ <;> omega))
        replace hM := zE_n hM (by first | (have q1 := zhx q1; have q2 := zhx q2; omega) | (simp only [zhx q1, zhx q2] at h3 h80 h85 ⊢ <;> omega))
        obtain ⟨Ym94, hYm94, hM⟩ := zl_x hM
        have hR95 : zRx [] 0 Z Ym94 := zRx_o hR91 hYm94 rfl
        have hV96 : zV Ym94 := zV_o hV92 hYm94 rfl
        have hG97 := yFr_o hG93 hYm94 rfl (.inr rfl) rfl
        obtain ⟨v99, g98, hM⟩ := zl_x hM
        replace g98 : zE _ _ := g98
        unfold zf_480 at g98
        replace g98 := zE_n g98 (by first | (have q1 := zhx q1; have q2 := zhx q2; omega) | (simp only [zhx q1, zhx q2] at h3 h80 h85 ⊢ <;> omega))
        replace g98 := zE_p g98 (by first | (have q1 := zhx q1; have q2 := zhx q2; omega) | (simp only [zhx q1, zhx q2] at h3 h80 h85 ⊢ <;> omega))
        have q100 := zhd (zVr_44_1 (x := a1) (a := 201 + 20 * a1) hV (by have q1 := zhx q1; have q2 := zhx q2; omega) (by have q1 := zhx q1; have q2 := zhx q2; omega) (by have q1 := zhx q1; have q2 := zhx q2; omega))
        have q101 := zhd (((zu_ne (k' := 2) (b' := 0) (i' := 0) (j' := 201 + 20 * a1) hYm94 (fun q => absurd q.1 (by decide))).trans (zu_ne (k' := 2) (b' := 0) (i' := 0) (j' := 201 + 20 * a1) hYm90 (fun q => absurd q.1 (by decide)))))
        have q102 := zhd (congrArg (Ym94 2 0 0) (show (113 + 5 * (Ym94 2 0 0 (201 + 20 * a1))) = 113 + 5 * (Y 2 0 0 (201 + 20 * a1)) from (by first | (have q100 := zhx q100; have q101 := zhx q101; omega) | (have q1 := zhx q1; have q2 := zhx q2; have q100 := zhx q100; have q101 := zhx q101; omega))))
        have q103 := zhd (((zu_ne (k' := 2) (b' := 0) (i' := 0) (j' := 113 + 5 * (Y 2 0 0 (201 + 20 * a1))) hYm94 (fun q => absurd q.1 (by decide))).trans (zu_ne (k' := 2) (b' := 0) (i' := 0) (j' := 113 + 5 * (Y 2 0 0 (201 + 20 * a1))) hYm90 (fun q => absurd q.1 (by decide)))))
        have q104 := zhd (congrArg (Ym94 2 0 0) (show (114 + 5 * (Ym94 2 0 0 (201 + 20 * a1))) = 114 + 5 * (Y 2 0 0 (201 + 20 * a1)) from (by first | (have q100 := zhx q100; have q101 := zhx q101; omega) | (have q1 := zhx q1; have q2 := zhx q2; have q100 := zhx q100; have q101 := zhx q101; omega))))
        have q105 := zhd (((zu_ne (k' := 2) (b' := 0) (i' := 0) (j' := 114 + 5 * (Y 2 0 0 (201 + 20 * a1))) hYm94 (fun q => absurd q.1 (by decide))).trans (zu_ne (k' := 2) (b' := 0) (i' := 0) (j' := 114 + 5 * (Y 2 0 0 (201 + 20 * a1))) hYm90 (fun q => absurd q.1 (by decide)))))
        have q106 := zhd (((zu_ne (k' := 2) (b' := 0) (i' := 0) (j' := 207 + 20 * a1) hYm94 (fun q => absurd q.1 (by decide))).trans (zu_ne (k' := 2) (b' := 0) (i' := 0) (j' := 207 + 20 * a1) hYm90 (fun q => absurd q.1 (by decide)))))
        rcases zE_c g98 with ⟨h107, g98⟩ | ⟨h107, g98⟩
        · rcases zE_c g98 with ⟨h108, g98⟩ | ⟨h108, g98⟩
          · rcases zE_c g98 with ⟨h109, g98⟩ | ⟨h109, g98⟩
            · have e9 : 3 = v99 := Eq.symm g98
              subst e9
              exact False.elim (by have q1 := zhx q1; have q2 := zhx q2; have q100 := zhx q100; have q101 := zhx q101; have q102 := zhx q102; have q103 := zhx q103; have q104 := zhx q104; have q105 := zhx q105; have q106 := zhx q106; first | omega | grind)
            · have e9 : 2 = v99 := Eq.symm g98
              subst e9
              exact False.elim (by have q1 := zhx q1; have q2 := zhx q2; have q100 := zhx q100; have q101 := zhx q101; have q102 := zhx q102; have q103 := zhx q103; have q104 := zhx q104; have q105 := zhx q105; have q106 := zhx q106; first | omega | grind)
          · have e9 : 1 = v99 := Eq.symm g98
            subst e9
            exact False.elim (by have q1 := zhx q1; have q2 := zhx q2; have q100 := zhx q100; have q101 := zhx q101; have q102 := zhx q102; have q103 := zhx q103; have q104 := zhx q104; have q105 := zhx q105; have q106 := zhx q106; first | omega | grind)
        · have e9 : 0 = v99 := Eq.symm g98
          subst e9
          exact False.elim (by have q1 := zhx q1; have q2 := zhx q2; have q100 := zhx q100; have q101 := zhx q101; have q102 := zhx q102; have q103 := zhx q103; have q104 := zhx q104; have q105 := zhx q105; have q106 := zhx q106; first | omega | grind)

/- face pallet_12 -/
theorem rf_pallet_12 {Z Y : qz_Z} {dm : qz_Z → Int → Int → Int → Int → Int → Int → Int → qz_Z} {a1 : Int} (hRa : zR 0 Z Y) (hV : zV Y) (hI : zI none Z) (hd : zDf dm) (hD1 : zD1 0 Z Y) (hD4 : zD4 0 Z Y) (hN1 : zN1 Y) (hN4 : zN4 Y) (hDs : zDs 0 Z Y) (hDw : zDw 0 Z Y) (hDl : zDl 0 Z Y)  {C : qz_Z × Int × Int} {M : qz_Z × Int} (hC : zE C (zx_225 Z a1 12)) (hM : zE M (zy_448 Y a1 12)) : zR 0 C.1 M.1 ∧ zV M.1 ∧ zDd [] [99999] Z Y dm C.1 M.1 ∧ zThr [(24, 1), (13, 2)] C.2 (M.1 1 0 0 2) M.2 := by
  have hRb := zRx_0 hRa
  have hF : zFc [] 0 Z Z := zFc_r
  have hG : yFr [99999] Y Y := yFr_r
  unfold zx_225 at hC
  unfold zy_448 at hM
  have q1 := zhd (zVr_11_3 (a := 102) hV (by omega))
  have q2 := zhd ((zRl_11_3 (a := 102) hRa (by omega)))
  rcases zE_c hC with ⟨h3, hC⟩ | ⟨h3, hC⟩
  · replace hC := zE_p hC (by first | (have q1 := zhx q1; have q2 := zhx q2; omega) | (simp only [zhx q1, zhx q2] at h3 ⊢ <;> omega))
    obtain ⟨v5, g4, hC⟩ := zl_x hC
    replace g4 : zE _ _ := g4
    unfold zf_108 at g4
    replace g4 := zE_p g4 (by first | (have q1 := zhx q1; have q2 := zhx q2; omega) | (simp only [zhx q1, zhx q2] at h3 ⊢ <;> omega))
    replace g4 := zE_p g4 (by first | (have q1 := zhx q1; have q2 := zhx q2; omega) | (simp only [zhx q1, zhx q2] at h3 ⊢ <;> omega))
    have q6 := zhd (zVr_44_12 (x := a1) (a := 211 + 20 * a1) hV (by have q1 := zhx q1; have q2 := zhx q2; omega) (by have q1 := zhx q1; have q2 := zhx q2; omega) (by have q1 := zhx q1; have q2 := zhx q2; omega))
    have q7 := zhd ((zRl_44_12 (x := a1) (a := 211 + 20 * a1) hRa (by have q1 := zhx q1; have q2 := zhx q2; omega) (by have q1 := zhx q1; have q2 := zhx q2; omega) (by have q1 := zhx q1; have q2 := zhx q2; omega)))
    have e9 : (Z 44 0 a1 12) = v5 := Eq.symm g4
    subst e9
    replace hM := zE_n hM (by first | (have q1 := zhx q1; have q2 := zhx q2; omega) | (simp only [zhx q1, zhx q2] at h3 ⊢ <;> omega))
    replace hM := zE_n hM (by first | (have q1 := zhx q1; have q2 := zhx q2; omega) | (simp only [zhx q1, zhx q2] at h3 ⊢ <;> omega))
    obtain ⟨Ym8, hYm8, hM⟩ := zl_x hM
    have hR9 : zRx [] 0 Z Ym8 := zRx_o hRb hYm8 rfl
    have hV10 : zV Ym8 := zV_o hV hYm8 rfl
    have hG11 := yFr_o hG hYm8 rfl (.inr rfl) rfl
    replace hM := zE_n hM (by first | (have q1 := zhx q1; have q2 := zhx q2; omega) | (simp only [zhx q1, zhx q2] at h3 ⊢ <;> omega))
    replace hM := zE_n hM (by first | (have q1 := zhx q1; have q2 := zhx q2; omega) | (simp only [zhx q1, zhx q2] at h3 ⊢ <;> omega))
    obtain ⟨Ym12, hYm12, hM⟩ := zl_x hM
    have hR13 : zRx [] 0 Z Ym12 := zRx_o hR9 hYm12 rfl
    have hV14 : zV Ym12 := zV_o hV10 hYm12 rfl
    have hG15 := yFr_o hG11 hYm12 rfl (.inr rfl) rfl
    obtain ⟨v17, g16, hM⟩ := zl_x hM
    replace g16 : zE _ _ := g16
    unfold zf_480 at g16
    replace g16 := zE_n g16 (by first | (have q1 := zhx q1; have q2 := zhx q2; omega) | (simp only [zhx q1, zhx q2] at h3 ⊢ <;> omega))
    replace g16 := zE_n g16 (by first | (have q1 := zhx q1; have q2 := zhx q2; omega) | (simp only [zhx q1, zhx q2] at h3 ⊢ <;> omega))
    replace g16 := zE_p g16 (by first | (have q1 := zhx q1; have q2 := zhx q2; omega) | (simp only [zhx q1, zhx q2] at h3 ⊢ <;> omega))
    have q18 := zhd (((zu_ne (k' := 2) (b' := 0) (i' := 0) (j' := 211 + 20 * a1) hYm12 (fun q => absurd q.1 (by decide))).trans (zu_ne (k' := 2) (b' := 0) (i' := 0) (j' := 211 + 20 * a1) hYm8 (fun q => absurd q.1 (by decide)))))
    have e9 : (Ym12 2 0 0 (211 + 20 * a1)) = v17 := Eq.symm g16
    subst e9
    have th9 := (zu_at hYm12)
    obtain rfl : C = _ := hC
    obtain rfl : M = _ := hM
    exact ⟨zRx_1 hR13, hV14, ⟨Z, _, .inl ⟨rfl, yFr_w hG15 (by decide)⟩, zFc_r, yFr_r⟩, zThr_a th9 (by first | rfl | (have q1 := zhx q1; have q2 := zhx q2; have q6 := zhx q6; have q7 := zhx q7; have q18 := zhx q18; omega) | (simp only [zhx q1, zhx q2, zhx q6, zhx q7, zhx q18] <;> omega) | (have q1 := zhx q1; have q2 := zhx q2; have q6 := zhx q6; have q7 := zhx q7; have q18 := zhx q18; refine w3z ?_ ?_ ?_ <;> omega) | (have q1 := zhx q1; have q2 := zhx q2; have q6 := zhx q6; have q7 := zhx q7; have q18 := zhx q18; refine w3y ?_ ?_ ?_ <;> omega) | (have q1 := zhx q1; have q2 := zhx q2; have q6 := zhx q6; have q7 := zhx q7; have q18 := zhx q18; refine z2o ?_ ?_ ?_ <;> omega))⟩
  · rcases zE_c hM with ⟨h19, hM⟩ | ⟨h19, hM⟩
    · obtain ⟨Ym20, hYm20, hM⟩ := zl_x hM
      have hR21 : zRx [] 0 Z Ym20 := zRx_o hRb hYm20 rfl
      have hV22 : zV Ym20 := zV_o hV hYm20 rfl
      have hG23 := yFr_o hG hYm20 rfl (.inr rfl) rfl
      have th9 := (zu_at hYm20)
      obtain rfl : C = _ := hC
      obtain rfl : M = _ := hM
      exact ⟨zRx_1 hR21, hV22, ⟨Z, _, .inl ⟨rfl, yFr_w hG23 (by decide)⟩, zFc_r, yFr_r⟩, zThr_e th9 (by decide)⟩
    · rcases zE_c hM with ⟨h24, hM⟩ | ⟨h24, hM⟩
      · obtain ⟨Ym25, hYm25, hM⟩ := zl_x hM
        have hR26 : zRx [] 0 Z Ym25 := zRx_o hRb hYm25 rfl
        have hV27 : zV Ym25 := zV_o hV hYm25 rfl
        have hG28 := yFr_o hG hYm25 rfl (.inr rfl) rfl
        have th9 := (zu_at hYm25)
        obtain rfl : C = _ := hC
        obtain rfl : M = _ := hM
        exact ⟨zRx_1 hR26, hV27, ⟨Z, _, .inl ⟨rfl, yFr_w hG28 (by decide)⟩, zFc_r, yFr_r⟩, zThr_e th9 (by decide)⟩
      · obtain ⟨Ym29, hYm29, hM⟩ := zl_x hM
        have hR30 : zRx [] 0 Z Ym29 := zRx_o hRb hYm29 rfl
        have hV31 : zV Ym29 := zV_o hV hYm29 rfl
        have hG32 := yFr_o hG hYm29 rfl (.inr rfl) rfl
        replace hM := zE_n hM (by first | (have q1 := zhx q1; have q2 := zhx q2; omega) | (simp only [zhx q1, zhx q2] at h3 h19 h24 ⊢ <;> omega))
        replace hM := zE_n hM (by first | (have q1 := zhx q1; have q2 := zhx q2; omega) | (simp only [zhx q1, zhx q2] at h3 h19 h24 ⊢ <;> omega))
        obtain ⟨Ym33, hYm33, hM⟩ := zl_x hM
        have hR34 : zRx [] 0 Z Ym33 := zRx_o hR30 hYm33 rfl
        have hV35 : zV Ym33 := zV_o hV31 hYm33 rfl
        have hG36 := yFr_o hG32 hYm33 rfl (.inr rfl) rfl
        obtain ⟨v38, g37, hM⟩ := zl_x hM
        replace g37 : zE _ _ := g37
        unfold zf_480 at g37
        replace g37 := zE_n g37 (by first | (have q1 := zhx q1; have q2 := zhx q2; omega) | (simp only [zhx q1, zhx q2] at h3 h19 h24 ⊢ <;> omega))
        replace g37 := zE_n g37 (by first | (have q1 := zhx q1; have q2 := zhx q2; omega) | (simp only [zhx q1, zhx q2] at h3 h19 h24 ⊢ <;> omega))
        replace g37 := zE_p g37 (by first | (have q1 := zhx q1; have q2 := zhx q2; omega) | (simp only [zhx q1, zhx q2] at h3 h19 h24 ⊢ <;> omega))
        have q39 := zhd (zVr_44_12 (x := a1) (a := 211 + 20 * a1) hV (by have q1 := zhx q1; have q2 := zhx q2; omega) (by have q1 := zhx q1; have q2 := zhx q2; omega) (by have q1 := zhx q1; have q2 := zhx q2; omega))
        have q40 := zhd (((zu_ne (k' := 2) (b' := 0) (i' := 0) (j' := 211 + 20 * a1) hYm33 (fun q => absurd q.1 (by decide))).trans (zu_ne (k' := 2) (b' := 0) (i' := 0) (j' := 211 + 20 * a1) hYm29 (fun q => absurd q.1 (by decide)))))
        have e9 : (Ym33 2 0 0 (211 + 20 * a1)) = v38 := Eq.symm g37
        subst e9
        exact False.elim (by have q1 := zhx q1; have q2 := zhx q2; first | omega | grind)

/- face pallet_13 -/
theorem rf_pallet_13 {Z Y : qz_Z} {dm : qz_Z → Int → Int → Int → Int → Int → Int → Int → qz_Z} {a1 : Int} (hRa : zR 0 Z Y) (hV : zV Y) (hI : zI none Z) (hd : zDf dm) (hD1 : zD1 0 Z Y) (hD4 : zD4 0 Z Y) (hN1 : zN1 Y) (hN4 : zN4 Y) (hDs : zDs 0 Z Y) (hDw : zDw 0 Z Y) (hDl : zDl 0 Z Y)  {C : qz_Z × Int × Int} {M : qz_Z × Int} (hC : zE C (zx_225 Z a1 13)) (hM : zE M (zy_448 Y a1 13)) : zR 0 C.1 M.1 ∧ zV M.1 ∧ zDd [] [99999] Z Y dm C.1 M.1 ∧ zThr [(24, 1), (13, 2)] C.2 (M.1 1 0 0 2) M.2 := by
  have hRb := zRx_0 hRa
  have hF : zFc [] 0 Z Z := zFc_r
  have hG : yFr [99999] Y Y := yFr_r
  unfold zx_225 at hC
  unfold zy_448 at hM
  have q1 := zhd (zVr_11_3 (a := 102) hV (by omega))
  have q2 := zhd ((zRl_11_3 (a := 102) hRa (by omega)))
  rcases zE_c hC with ⟨h3, hC⟩ | ⟨h3, hC⟩
  · replace hC := zE_p hC (by first | (have q1 := zhx q1; have q2 := zhx q2; omega) | (simp only [zhx q1, zhx q2] at h3 ⊢ <;> omega))
    obtain ⟨v5, g4, hC⟩ := zl_x hC
    replace g4 : zE _ _ := g4
    unfold zf_108 at g4
    replace g4 := zE_p g4 (by first | (have q1 := zhx q1; have q2 := zhx q2; omega) | (simp only [zhx q1, zhx q2] at h3 ⊢ <;> omega))
    replace g4 := zE_n g4 (by first | (have q1 := zhx q1; have q2 := zhx q2; omega) | (simp only [zhx q1, zhx q2] at h3 ⊢ <;> omega))
    obtain ⟨v6, hv6, g4⟩ := zl_x g4
    have q7 := zhd (show v6 = (zf_435 Y a1) from hv6.trans (rr_109 hRa hV   rfl rfl))
    have e9 : v6 = v5 := Eq.symm g4
    subst e9
    replace hM := zE_n hM (by first | (have q1 := zhx q1; have q2 := zhx q2; omega) | (simp only [zhx q1, zhx q2] at h3 ⊢ <;> omega))
    replace hM := zE_n hM (by first | (have q1 := zhx q1; have q2 := zhx q2; omega) | (simp only [zhx q1, zhx q2] at h3 ⊢ <;> omega))
    obtain ⟨Ym8, hYm8, hM⟩ := zl_x hM
    have hR9 : zRx [] 0 Z Ym8 := zRx_o hRb hYm8 rfl
    have hV10 : zV Ym8 := zV_o hV hYm8 rfl
    have hG11 := yFr_o hG hYm8 rfl (.inr rfl) rfl
    replace hM := zE_n hM (by first | (have q1 := zhx q1; have q2 := zhx q2; omega) | (simp only [zhx q1, zhx q2] at h3 ⊢ <;> omega))
    replace hM := zE_n hM (by first | (have q1 := zhx q1; have q2 := zhx q2; omega) | (simp only [zhx q1, zhx q2] at h3 ⊢ <;> omega))
    obtain ⟨Ym12, hYm12, hM⟩ := zl_x hM
    have hR13 : zRx [] 0 Z Ym12 := zRx_o hR9 hYm12 rfl
    have hV14 : zV Ym12 := zV_o hV10 hYm12 rfl
    have hG15 := yFr_o hG11 hYm12 rfl (.inr rfl) rfl
    obtain ⟨v17, g16, hM⟩ := zl_x hM
    replace g16 : zE _ _ := g16
    unfold zf_480 at g16
    replace g16 := zE_n g16 (by first | (have q1 := zhx q1; have q2 := zhx q2; omega) | (simp only [zhx q1, zhx q2] at h3 ⊢ <;> omega))
    replace g16 := zE_n g16 (by first | (have q1 := zhx q1; have q2 := zhx q2; omega) | (simp only [zhx q1, zhx q2] at h3 ⊢ <;> omega))
    replace g16 := zE_n g16 (by first | (have q1 := zhx q1; have q2 := zhx q2; omega) | (simp only [zhx q1, zhx q2] at h3 ⊢ <;> omega))
    replace g16 := zE_p g16 (by first | (have q1 := zhx q1; have q2 := zhx q2; omega) | (simp only [zhx q1, zhx q2] at h3 ⊢ <;> omega))
    obtain ⟨v18, hv18, g16⟩ := zl_x g16
    have q19 := zhd (show v6 = (zf_435 Ym12 a1) from hv6.trans (rr_109 (zRx_1 hR13) hV14   rfl rfl))
    have q20 := zhd (hv18)
    have e9 : v18 = v17 := Eq.symm g16
    subst e9
    have th9 := (zu_at hYm12)
    obtain rfl : C = _ := hC
    obtain rfl : M = _ := hM
    exact ⟨zRx_1 hR13, hV14, ⟨Z, _, .inl ⟨rfl, yFr_w hG15 (by decide)⟩, zFc_r, yFr_r⟩, zThr_a th9 (by first | rfl | (have q1 := zhx q1; have q2 := zhx q2; have q7 := zhx q7; have q19 := zhx q19; have q20 := zhx q20; omega) | (simp only [zhx q1, zhx q2, zhx q7, zhx q19, zhx q20] <;> omega) | (have q1 := zhx q1; have q2 := zhx q2; have q7 := zhx q7; have q19 := zhx q19; have q20 := zhx q20; refine w3z ?_ ?_ ?_ <;> omega) | (have q1 := zhx q1; have q2 := zhx q2; have q7 := zhx q7; have q19 := zhx q19; have q20 := zhx q20; refine w3y ?_ ?_ ?_ <;> omega) | (have q1 := zhx q1; have q2 := zhx q2; have q7 := zhx q7; have q19 := zhx q19; have q20 := zhx q20; refine z2o ?_ ?_ ?_ <;> omega))⟩
  · rcases zE_c hM with ⟨h21, hM⟩ | ⟨h21, hM⟩
    · obtain ⟨Ym22, hYm22, hM⟩ := zl_x hM
      have hR23 : zRx [] 0 Z Ym22 := zRx_o hRb hYm22 rfl
      have hV24 : zV Ym22 := zV_o hV hYm22 rfl
      have hG25 := yFr_o hG hYm22 rfl (.inr rfl) rfl
      have th9 := (zu_at hYm22)
      obtain rfl : C = _ := hC
      obtain rfl : M = _ := hM
      exact ⟨zRx_1 hR23, hV24, ⟨Z, _, .inl ⟨rfl, yFr_w hG25 (by decide)⟩, zFc_r, yFr_r⟩, zThr_e th9 (by decide)⟩
    · rcases zE_c hM with ⟨h26, hM⟩ | ⟨h26, hM⟩
      · obtain ⟨Ym27, hYm27, hM⟩ := zl_x hM
        have hR28 : zRx [] 0 Z Ym27 := zRx_o hRb hYm27 rfl
        have hV29 : zV Ym27 := zV_o hV hYm27 rfl
        have hG30 := yFr_o hG hYm27 rfl (.inr rfl) rfl
        have th9 := (zu_at hYm27)
        obtain rfl : C = _ := hC
        obtain rfl : M = _ := hM
        exact ⟨zRx_1 hR28, hV29, ⟨Z, _, .inl ⟨rfl, yFr_w hG30 (by decide)⟩, zFc_r, yFr_r⟩, zThr_e th9 (by decide)⟩
      · obtain ⟨Ym31, hYm31, hM⟩ := zl_x hM
        have hR32 : zRx [] 0 Z Ym31 := zRx_o hRb hYm31 rfl
        have hV33 : zV Ym31 := zV_o hV hYm31 rfl
        have hG34 := yFr_o hG hYm31 rfl (.inr rfl) rfl
        replace hM := zE_n hM (by first | (have q1 := zhx q1; have q2 := zhx q2; omega) | (simp only [zhx q1, zhx q2] at h3 h21 h26 ⊢ <;> omega))
        replace hM := zE_n hM (by first | (have q1 := zhx q1; have q2 := zhx q2; omega) | (simp only [zhx q1, zhx q2] at h3 h21 h26 ⊢ <;> omega))
        obtain ⟨Ym35, hYm35, hM⟩ := zl_x hM
        have hR36 : zRx [] 0 Z Ym35 := zRx_o hR32 hYm35 rfl
        have hV37 : zV Ym35 := zV_o hV33 hYm35 rfl
        have hG38 := yFr_o hG34 hYm35 rfl (.inr rfl) rfl
        obtain ⟨v40, g39, hM⟩ := zl_x hM
        replace g39 : zE _ _ := g39
        unfold zf_480 at g39
        replace g39 := zE_n g39 (by first | (have q1 := zhx q1; have q2 := zhx q2; omega) | (simp only [zhx q1, zhx q2] at h3 h21 h26 ⊢ <;> omega))
        replace g39 := zE_n g39 (by first | (have q1 := zhx q1; have q2 := zhx q2; omega) | (simp only [zhx q1, zhx q2] at h3 h21 h26 ⊢ <;> omega))
        replace g39 := zE_n g39 (by first | (have q1 := zhx q1; have q2 := zhx q2; omega) | (simp only [zhx q1, zhx q2] at h3 h21 h26 ⊢ <;> omega))
        replace g39 := zE_p g39 (by first | (have q1 := zhx q1; have q2 := zhx q2; omega) | (simp only [zhx q1, zhx q2] at h3 h21 h26 ⊢ <;> omega))
        obtain ⟨v41, hv41, g39⟩ := zl_x g39
        have e9 : v41 = v40 := Eq.symm g39
        subst e9
        exact False.elim (by have q1 := zhx q1; have q2 := zhx q2; first | omega | grind)

/- face pallet_14 -/
theorem rf_pallet_14 {Z Y : qz_Z} {dm : qz_Z → Int → Int → Int → Int → Int → Int → Int → qz_Z} {a1 : Int} (hRa : zR 0 Z Y) (hV : zV Y) (hI : zI none Z) (hd : zDf dm) (hD1 : zD1 0 Z Y) (hD4 : zD4 0 Z Y) (hN1 : zN1 Y) (hN4 : zN4 Y) (hDs : zDs 0 Z Y) (hDw : zDw 0 Z Y) (hDl : zDl 0 Z Y)  {C : qz_Z × Int × Int} {M : qz_Z × Int} (hC : zE C (zx_225 Z a1 14)) (hM : zE M (zy_448 Y a1 14)) : zR 0 C.1 M.1 ∧ zV M.1 ∧ zDd [] [99999] Z Y dm C.1 M.1 ∧ zThr [(24, 1), (13, 2)] C.2 (M.1 1 0 0 2) M.2 := by
  have hRb := zRx_0 hRa
  have hF : zFc [] 0 Z Z := zFc_r
  have hG : yFr [99999] Y Y := yFr_r
  unfold zx_225 at hC
  unfold zy_448 at hM
  have q1 := zhd (zVr_11_3 (a := 102) hV (by omega))
  have q2 := zhd ((zRl_11_3 (a := 102) hRa (by omega)))
  rcases zE_c hC with ⟨h3, hC⟩ | ⟨h3, hC⟩
  · replace hC := zE_p hC (by first | (have q1 := zhx q1; have q2 := zhx q2; omega) | (simp only [zhx q1, zhx q2] at h3 ⊢ <;> omega))
    obtain ⟨v5, g4, hC⟩ := zl_x hC
    replace g4 : zE _ _ := g4
    unfold zf_108 at g4
    replace g4 := zE_p g4 (by first | (have q1 := zhx q1; have q2 := zhx q2; omega) | (simp only [zhx q1, zhx q2] at h3 ⊢ <;> omega))
    replace g4 := zE_p g4 (by first | (have q1 := zhx q1; have q2 := zhx q2; omega) | (simp only [zhx q1, zhx q2] at h3 ⊢ <;> omega))
    have q6 := zhd ((zRl_44_14 (x := a1) (a := 212 + 20 * a1) hRa (by have q1 := zhx q1; have q2 := zhx q2; omega) (by have q1 := zhx q1; have q2 := zhx q2; omega) (by have q1 := zhx q1; have q2 := zhx q2; omega)))
    have e9 : (Z 44 0 a1 14) = v5 := Eq.symm g4
    subst e9
    replace hM := zE_n hM (by first | (have q1 := zhx q1; have q2 := zhx q2; omega) | (simp only [zhx q1, zhx q2] at h3 ⊢ <;> omega))
    replace hM := zE_n hM (by first | (have q1 := zhx q1; have q2 := zhx q2; omega) | (simp only [zhx q1, zhx q2] at h3 ⊢ <;> omega))
    obtain ⟨Ym7, hYm7, hM⟩ := zl_x hM
    have hR8 : zRx [] 0 Z Ym7 := zRx_o hRb hYm7 rfl
    have hV9 : zV Ym7 := zV_o hV hYm7 rfl
    have hG10 := yFr_o hG hYm7 rfl (.inr rfl) rfl
    replace hM := zE_n hM (by first | (have q1 := zhx q1; have q2 := zhx q2; omega) | (simp only [zhx q1, zhx q2] at h3 ⊢ <;> omega))
    replace hM := zE_n hM (by first | (have q1 := zhx q1; have q2 := zhx q2; omega) | (simp only [zhx q1, zhx q2] at h3 ⊢ <;> omega))
    obtain ⟨Ym11, hYm11, hM⟩ := zl_x hM
    have hR12 : zRx [] 0 Z Ym11 := zRx_o hR8 hYm11 rfl
    have hV13 : zV Ym11 := zV_o hV9 hYm11 rfl
    have hG14 := yFr_o hG10 hYm11 rfl (.inr rfl) rfl
    obtain ⟨v16, g15, hM⟩ := zl_x hM
    replace g15 : zE _ _ := g15
    unfold zf_480 at g15
    replace g15 := zE_n g15 (by first | (have q1 := zhx q1; have q2 := zhx q2; omega) | (simp only [zhx q1, zhx q2] at h3 ⊢ <;> omega))
    replace g15 := zE_n g15 (by first | (have q1 := zhx q1; have q2 := zhx q2; omega) | (simp only [zhx q1, zhx q2] at h3 ⊢ <;> omega))
    replace g15 := zE_n g15 (by first | (have q1 := zhx q1; have q2 := zhx q2; omega) | (simp only [zhx q1, zhx q2] at h3 ⊢ <;> omega))
    replace g15 := zE_n g15 (by first | (have q1 := zhx q1; have q2 := zhx q2; omega) | (simp only [zhx q1, zhx q2] at h3 ⊢ <;> omega))
    replace g15 := zE_p g15 (by first | (have q1 := zhx q1; have q2 := zhx q2; omega) | (simp only [zhx q1, zhx q2] at h3 ⊢ <;> omega))
    have q17 := zhd (((zu_ne (k' := 2) (b' := 0) (i' := 0) (j' := 212 + 20 * a1) hYm11 (fun q => absurd q.1 (by decide))).trans (zu_ne (k' := 2) (b' := 0) (i' := 0) (j' := 212 + 20 * a1) hYm7 (fun q => absurd q.1 (by decide)))))
    have e9 : (Ym11 2 0 0 (212 + 20 * a1)) = v16 := Eq.symm g15
    subst e9
    have th9 := (zu_at hYm11)
    obtain rfl : C = _ := hC
    obtain rfl : M = _ := hM
    exact ⟨zRx_1 hR12, hV13, ⟨Z, _, .inl ⟨rfl, yFr_w hG14 (by decide)⟩, zFc_r, yFr_r⟩, zThr_a th9 (by first | rfl | (have q1 := zhx q1; have q2 := zhx q2; have q6 := zhx q6; have q17 := zhx q17; omega) | (simp only [zhx q1, zhx q2, zhx q6, zhx q17] <;> omega) | (have q1 := zhx q1; have q2 := zhx q2; have q6 := zhx q6; have q17 := zhx q17; refine w3z ?_ ?_ ?_ <;> omega) | (have q1 := zhx q1; have q2 := zhx q2; have q6 := zhx q6; have q17 := zhx q17; refine w3y ?_ ?_ ?_ <;> omega) | (have q1 := zhx q1; have q2 := zhx q2; have q6 := zhx q6; have q17 := zhx q17; refine z2o ?_ ?_ ?_ <;> omega))⟩
  · rcases zE_c hM with ⟨h18, hM⟩ | ⟨h18, hM⟩
    · obtain ⟨Ym19, hYm19, hM⟩ := zl_x hM
      have hR20 : zRx [] 0 Z Ym19 := zRx_o hRb hYm19 rfl
      have hV21 : zV Ym19 := zV_o hV hYm19 rfl
      have hG22 := yFr_o hG hYm19 rfl (.inr rfl) rfl
      have th9 := (zu_at hYm19)
      obtain rfl : C = _ := hC
      obtain rfl : M = _ := hM
      exact ⟨zRx_1 hR20, hV21, ⟨Z, _, .inl ⟨rfl, yFr_w hG22 (by decide)⟩, zFc_r, yFr_r⟩, zThr_e th9 (by decide)⟩
    · rcases zE_c hM with ⟨h23, hM⟩ | ⟨h23, hM⟩
      · obtain ⟨Ym24, hYm24, hM⟩ := zl_x hM
        have hR25 : zRx [] 0 Z Ym24 := zRx_o hRb hYm24 rfl
        have hV26 : zV Ym24 := zV_o hV hYm24 rfl
        have hG27 := yFr_o hG hYm24 rfl (.inr rfl) rfl
        have th9 := (zu_at hYm24)
        obtain rfl : C = _ := hC
        obtain rfl : M = _ := hM
        exact ⟨zRx_1 hR25, hV26, ⟨Z, _, .inl ⟨rfl, yFr_w hG27 (by decide)⟩, zFc_r, yFr_r⟩, zThr_e th9 (by decide)⟩
      · obtain ⟨Ym28, hYm28, hM⟩ := zl_x hM
        have hR29 : zRx [] 0 Z Ym28 := zRx_o hRb hYm28 rfl
        have hV30 : zV Ym28 := zV_o hV hYm28 rfl
        have hG31 := yFr_o hG hYm28 rfl (.inr rfl) rfl
        replace hM := zE_n hM (by first | (have q1 := zhx q1; have q2 := zhx q2; omega) | (simp only [zhx q1, zhx q2] at h3 h18 h23 ⊢ <;> omega))
        replace hM := zE_n hM (by first | (have q1 := zhx q1; have q2 := zhx q2; omega) | (simp only [zhx q1, zhx q2] at h3 h18 h23 ⊢ <;> omega))
        obtain ⟨Ym32, hYm32, hM⟩ := zl_x hM
        have hR33 : zRx [] 0 Z Ym32 := zRx_o hR29 hYm32 rfl
        have hV34 : zV Ym32 := zV_o hV30 hYm32 rfl
        have hG35 := yFr_o hG31 hYm32 rfl (.inr rfl) rfl
        obtain ⟨v37, g36, hM⟩ := zl_x hM
        replace g36 : zE _ _ := g36
        unfold zf_480 at g36
        replace g36 := zE_n g36 (by first | (have q1 := zhx q1; have q2 := zhx q2; omega) | (simp only [zhx q1, zhx q2] at h3 h18 h23 ⊢ <;> omega))
        replace g36 := zE_n g36 (by first | (have q1 := zhx q1; have q2 := zhx q2; omega) | (simp only [zhx q1, zhx q2] at h3 h18 h23 ⊢ <;> omega))
        replace g36 := zE_n g36 (by first | (have q1 := zhx q1; have q2 := zhx q2; omega) | (simp only [zhx q1, zhx q2] at h3 h18 h23 ⊢ <;> omega))
        replace g36 := zE_n g36 (by first | (have q1 := zhx q1; have q2 := zhx q2; omega) | (simp only [zhx q1, zhx q2] at h3 h18 h23 ⊢ <;> omega))
        replace g36 := zE_p g36 (by first | (have q1 := zhx q1; have q2 := zhx q2; omega) | (simp only [zhx q1, zhx q2] at h3 h18 h23 ⊢ <;> omega))
        have q38 := zhd (((zu_ne (k' := 2) (b' := 0) (i' := 0) (j' := 212 + 20 * a1) hYm32 (fun q => absurd q.1 (by decide))).trans (zu_ne (k' := 2) (b' := 0) (i' := 0) (j' := 212 + 20 * a1) hYm28 (fun q => absurd q.1 (by decide)))))
        have e9 : (Ym32 2 0 0 (212 + 20 * a1)) = v37 := Eq.symm g36
        subst e9
        exact False.elim (by have q1 := zhx q1; have q2 := zhx q2; first | omega | grind)

/- face pallet_15 -/
theorem rf_pallet_15 {Z Y : qz_Z} {dm : qz_Z → Int → Int → Int → Int → Int → Int → Int → qz_Z} {a1 : Int} (hRa : zR 0 Z Y) (hV : zV Y) (hI : zI none Z) (hd : zDf dm) (hD1 : zD1 0 Z Y) (hD4 : zD4 0 Z Y) (hN1 : zN1 Y) (hN4 : zN4 Y) (hDs : zDs 0 Z Y) (hDw : zDw 0 Z Y) (hDl : zDl 0 Z Y)  {C : qz_Z × Int × Int} {M : qz_Z × Int} (hC : zE C (zx_225 Z a1 15)) (hM : zE M (zy_448 Y a1 15)) : zR 0 C.1 M.1 ∧ zV M.1 ∧ zDd [] [99999] Z Y dm C.1 M.1 ∧ zThr [(24, 1), (13, 2)] C.2 (M.1 1 0 0 2) M.2 := by
  have hRb := zRx_0 hRa
  have hF : zFc [] 0 Z Z := zFc_r
  have hG : yFr [99999] Y Y := yFr_r
  unfold zx_225 at hC
  unfold zy_448 at hM
  have q1 := zhd (zVr_11_3 (a := 102) hV (by omega))
  have q2 := zhd ((zRl_11_3 (a := 102) hRa (by omega)))
  rcases zE_c hC with ⟨h3, hC⟩ | ⟨h3, hC⟩
  · replace hC := zE_p hC (by first | (have q1 := zhx q1; have q2 := zhx q2; omega) | (simp only [zhx q1, zhx q2] at h3 ⊢ <;> omega))
    obtain ⟨v5, g4, hC⟩ := zl_x hC
    replace g4 : zE _ _ := g4
    unfold zf_108 at g4
    replace g4 := zE_p g4 (by first | (have q1 := zhx q1; have q2 := zhx q2; omega) | (simp only [zhx q1, zhx q2] at h3 ⊢ <;> omega))
    replace g4 := zE_p g4 (by first | (have q1 := zhx q1; have q2 := zhx q2; omega) | (simp only [zhx q1, zhx q2] at h3 ⊢ <;> omega))
    have q6 := zhd ((zRl_44_15 (x := a1) (a := 213 + 20 * a1) hRa (by have q1 := zhx q1; have q2 := zhx q2; omega) (by have q1 := zhx q1; have q2 := zhx q2; omega) (by have q1 := zhx q1; have q2 := zhx q2; omega)))
    have e9 : (Z 44 0 a1 15) = v5 := Eq.symm g4
    subst e9
    replace hM := zE_n hM (by first | (have q1 := zhx q1; have q2 := zhx q2; omega) | (simp only [zhx q1, zhx q2] at h3 ⊢ <;> omega))
    replace hM := zE_n hM (by first | (have q1 := zhx q1; have q2 := zhx q2; omega) | (simp only [zhx q1, zhx q2] at h3 ⊢ <;> omega))
    obtain ⟨Ym7, hYm7, hM⟩ := zl_x hM
    have hR8 : zRx [] 0 Z Ym7 := zRx_o hRb hYm7 rfl
    have hV9 : zV Ym7 := zV_o hV hYm7 rfl
    have hG10 := yFr_o hG hYm7 rfl (.inr rfl) rfl
    replace hM := zE_n hM (by first | (have q1 := zhx q1; have q2 := zhx q2; omega) | (simp only [zhx q1, zhx q2] at h3 ⊢ <;> omega))
    replace hM := zE_n hM (by first | (have q1 := zhx q1; have q2 := zhx q2; omega) | (simp only [zhx q1, zhx q2] at h3 ⊢ <;> omega))
    obtain ⟨Ym11, hYm11, hM⟩ := zl_x hM
    have hR12 : zRx [] 0 Z Ym11 := zRx_o hR8 hYm11 rfl
    have hV13 : zV Ym11 := zV_o hV9 hYm11 rfl
    have hG14 := yFr_o hG10 hYm11 rfl (.inr rfl) rfl
    obtain ⟨v16, g15, hM⟩ := zl_x hM
    replace g15 : zE _ _ := g15
    unfold zf_480 at g15
    replace g15 := zE_n g15 (by first | (have q1 := zhx q1; have q2 := zhx q2; omega) | (simp only [zhx q1, zhx q2] at h3 ⊢ <;> omega))
    replace g15 := zE_n g15 (by first | (have q1 := zhx q1; have q2 := zhx q2; omega) | (simp only [zhx q1, zhx q2] at h3 ⊢ <;> omega))
    replace g15 := zE_n g15 (by first | (have q1 := zhx q1; have q2 := zhx q2; omega) | (simp only [zhx q1, zhx q2] at h3 ⊢ <;> omega))
    replace g15 := zE_n g15 (by first | (have q1 := zhx q1; have q2 := zhx q2; omega) | (simp only [zhx q1, zhx q2] at h3 ⊢ <;> omega))
    replace g15 := zE_n g15 (by first | (have q1 := zhx q1; have q2 := zhx q2; omega) | (simp only [zhx q1, zhx q2] at h3 ⊢ <;> omega))
    have q17 := zhd (((zu_ne (k' := 2) (b' := 0) (i' := 0) (j' := 213 + 20 * a1) hYm11 (fun q => absurd q.1 (by decide))).trans (zu_ne (k' := 2) (b' := 0) (i' := 0) (j' := 213 + 20 * a1) hYm7 (fun q => absurd q.1 (by decide)))))
    have e9 : (Ym11 2 0 0 (213 + 20 * a1)) = v16 := Eq.symm g15
    subst e9
    have th9 := (zu_at hYm11)
    obtain rfl : C = _ := hC
    obtain rfl : M = _ := hM
    exact ⟨zRx_1 hR12, hV13, ⟨Z, _, .inl ⟨rfl, yFr_w hG14 (by decide)⟩, zFc_r, yFr_r⟩, zThr_a th9 (by first | rfl | (have q1 := zhx q1; have q2 := zhx q2; have q6 := zhx q6; have q17 := zhx q17; omega) | (simp only [zhx q1, zhx q2, zhx q6, zhx q17] <;> omega) | (have q1 := zhx q1; have q2 := zhx q2; have q6 := zhx q6; have q17 := zhx q17; refine w3z ?_ ?_ ?_ <;> omega) | (have q1 := zhx q1; have q2 := zhx q2; have q6 := zhx q6; have q17 := zhx q17; refine w3y ?_ ?_ ?_ <;> omega) | (have q1 := zhx q1; have q2 := zhx q2; have q6 := zhx q6; have q17 := zhx q17; refine z2o ?_ ?_ ?_ <;> omega))⟩
  · rcases zE_c hM with ⟨h18, hM⟩ | ⟨h18, hM⟩
    · obtain ⟨Ym19, hYm19, hM⟩ := zl_x hM
      have hR20 : zRx [] 0 Z Ym19 := zRx_o hRb hYm19 rfl
      have hV21 : zV Ym19 := zV_o hV hYm19 rfl
      have hG22 := yFr_o hG hYm19 rfl (.inr rfl) rfl
      have th9 := (zu_at hYm19)
      obtain rfl : C = _ := hC
      obtain rfl : M = _ := hM
      exact ⟨zRx_1 hR20, hV21, ⟨Z, _, .inl ⟨rfl, yFr_w hG22 (by decide)⟩, zFc_r, yFr_r⟩, zThr_e th9 (by decide)⟩
    · rcases zE_c hM with ⟨h23, hM⟩ | ⟨h23, hM⟩
      · obtain ⟨Ym24, hYm24, hM⟩ := zl_x hM
        have hR25 : zRx [] 0 Z Ym24 := zRx_o hRb hYm24 rfl
        have hV26 : zV Ym24 := zV_o hV hYm24 rfl
        have hG27 := yFr_o hG hYm24 rfl (.inr rfl) rfl
        have th9 := (zu_at hYm24)
        obtain rfl : C = _ := hC
        obtain rfl : M = _ := hM
        exact ⟨zRx_1 hR25, hV26, ⟨Z, _, .inl ⟨rfl, yFr_w hG27 (by decide)⟩, zFc_r, yFr_r⟩, zThr_e th9 (by decide)⟩
      · obtain ⟨Ym28, hYm28, hM⟩ := zl_x hM
        have hR29 : zRx [] 0 Z Ym28 := zRx_o hRb hYm28 rfl
        have hV30 : zV Ym28 := zV_o hV hYm28 rfl
        have hG31 := yFr_o hG hYm28 rfl (.inr rfl) rfl
        replace hM := zE_n hM (by first | (have q1 := zhx q1; have q2 := zhx q2; omega) | (simp only [zhx q1, zhx q2] at h3 h18 h23 ⊢ <;> omega))
        replace hM := zE_n hM (by first | (have q1 := zhx q1; have q2 := zhx q2; omega) | (simp only [zhx q1, zhx q2] at h3 h18 h23 ⊢ <;> omega))
        obtain ⟨Ym32, hYm32, hM⟩ := zl_x hM
        have hR33 : zRx [] 0 Z Ym32 := zRx_o hR29 hYm32 rfl
        have hV34 : zV Ym32 := zV_o hV30 hYm32 rfl
        have hG35 := yFr_o hG31 hYm32 rfl (.inr rfl) rfl
        obtain ⟨v37, g36, hM⟩ := zl_x hM
        replace g36 : zE _ _ := g36
        unfold zf_480 at g36
        replace g36 := zE_n g36 (by first | (have q1 := zhx q1; have q2 := zhx q2; omega) | (simp only [zhx q1, zhx q2] at h3 h18 h23 ⊢ <;> omega))
        replace g36 := zE_n g36 (by first | (have q1 := zhx q1; have q2 := zhx q2; omega) | (simp only [zhx q1, zhx q2] at h3 h18 h23 ⊢ <;> omega))
        replace g36 := zE_n g36 (by first | (have q1 := zhx q1; have q2 := zhx q2; omega) | (simp only [zhx q1, zhx q2] at h3 h18 h23 ⊢ <;> omega))
        replace g36 := zE_n g36 (by first | (have q1 := zhx q1; have q2 := zhx q2; omega) | (simp only [zhx q1, zhx q2] at h3 h18 h23 ⊢ <;> omega))
        replace g36 := zE_n g36 (by first | (have q1 := zhx q1; have q2 := zhx q2; omega) | (simp only [zhx q1, zhx q2] at h3 h18 h23 ⊢ <;> omega))
        have q38 := zhd (((zu_ne (k' := 2) (b' := 0) (i' := 0) (j' := 213 + 20 * a1) hYm32 (fun q => absurd q.1 (by decide))).trans (zu_ne (k' := 2) (b' := 0) (i' := 0) (j' := 213 + 20 * a1) hYm28 (fun q => absurd q.1 (by decide)))))
        have e9 : (Ym32 2 0 0 (213 + 20 * a1)) = v37 := Eq.symm g36
        subst e9
        exact False.elim (by have q1 := zhx q1; have q2 := zhx q2; first | omega | grind)

/- face pallet_l -/
theorem rf_pallet_l {Z Y : qz_Z} {dm : qz_Z → Int → Int → Int → Int → Int → Int → Int → qz_Z} {a1 a2 : Int} (hRa : zR 0 Z Y) (hV : zV Y) (hI : zI none Z) (hd : zDf dm) (hD1 : zD1 0 Z Y) (hD4 : zD4 0 Z Y) (hN1 : zN1 Y) (hN4 : zN4 Y) (hDs : zDs 0 Z Y) (hDw : zDw 0 Z Y) (hDl : zDl 0 Z Y) (e0 : a2 < 0) {C : qz_Z × Int × Int} {M : qz_Z × Int} (hC : zE C (zx_225 Z a1 a2)) (hM : zE M (zy_448 Y a1 a2)) : zR 0 C.1 M.1 ∧ zV M.1 ∧ zDd [] [99999] Z Y dm C.1 M.1 ∧ zThr [(24, 1), (13, 2)] C.2 (M.1 1 0 0 2) M.2 := by
  have hRb := zRx_0 hRa
  have hF : zFc [] 0 Z Z := zFc_r
  have hG : yFr [99999] Y Y := yFr_r
  unfold zx_225 at hC
  unfold zy_448 at hM
  have q1 := zhd (zVr_11_3 (a := 102) hV (by omega))
  have q2 := zhd ((zRl_11_3 (a := 102) hRa (by omega)))
  rcases zE_c hC with ⟨h3, hC⟩ | ⟨h3, hC⟩
  · replace hC := zE_n hC (by first | (have q1 := zhx q1; have q2 := zhx q2; omega) | (simp only [zhx q1, zhx q2] at h3 ⊢ <;> omega))
    replace hM := zE_n hM (by first | (have q1 := zhx q1; have q2 := zhx q2; omega) | (simp only [zhx q1, zhx q2] at h3 ⊢ <;> omega))
    replace hM := zE_n hM (by first | (have q1 := zhx q1; have q2 := zhx q2; omega) | (simp only [zhx q1, zhx q2] at h3 ⊢ <;> omega))
    obtain ⟨Ym4, hYm4, hM⟩ := zl_x hM
    have hR5 : zRx [] 0 Z Ym4 := zRx_o hRb hYm4 rfl
    have hV6 : zV Ym4 := zV_o hV hYm4 rfl
    have hG7 := yFr_o hG hYm4 rfl (.inr rfl) rfl
    replace hM := zE_p hM (by first | (have q1 := zhx q1; have q2 := zhx q2; omega) | (simp only [zhx q1, zhx q2] at h3 ⊢ <;> omega))
    obtain ⟨Ym8, hYm8, hM⟩ := zl_x hM
    have hR9 : zRx [] 0 Z Ym8 := zRx_o hR5 hYm8 rfl
    have hV10 : zV Ym8 := zV_o hV6 hYm8 rfl
    have hG11 := yFr_o hG7 hYm8 rfl (.inr rfl) rfl
    have th9 := (zu_at hYm8)
    obtain rfl : C = _ := hC
    obtain rfl : M = _ := hM
    exact ⟨zRx_1 hR9, hV10, ⟨Z, _, .inl ⟨rfl, yFr_w hG11 (by decide)⟩, zFc_r, yFr_r⟩, zThr_e th9 (by decide)⟩
  · rcases zE_c hM with ⟨h12, hM⟩ | ⟨h12, hM⟩
    · obtain ⟨Ym13, hYm13, hM⟩ := zl_x hM
      have hR14 : zRx [] 0 Z Ym13 := zRx_o hRb hYm13 rfl
      have hV15 : zV Ym13 := zV_o hV hYm13 rfl
      have hG16 := yFr_o hG hYm13 rfl (.inr rfl) rfl
      have th9 := (zu_at hYm13)
      obtain rfl : C = _ := hC
      obtain rfl : M = _ := hM
      exact ⟨zRx_1 hR14, hV15, ⟨Z, _, .inl ⟨rfl, yFr_w hG16 (by decide)⟩, zFc_r, yFr_r⟩, zThr_e th9 (by decide)⟩
    · rcases zE_c hM with ⟨h17, hM⟩ | ⟨h17, hM⟩
      · obtain ⟨Ym18, hYm18, hM⟩ := zl_x hM
        have hR19 : zRx [] 0 Z Ym18 := zRx_o hRb hYm18 rfl
        have hV20 : zV Ym18 := zV_o hV hYm18 rfl
        have hG21 := yFr_o hG hYm18 rfl (.inr rfl) rfl
        have th9 := (zu_at hYm18)
        obtain rfl : C = _ := hC
        obtain rfl : M = _ := hM
        exact ⟨zRx_1 hR19, hV20, ⟨Z, _, .inl ⟨rfl, yFr_w hG21 (by decide)⟩, zFc_r, yFr_r⟩, zThr_e th9 (by decide)⟩
      · obtain ⟨Ym22, hYm22, hM⟩ := zl_x hM
        have hR23 : zRx [] 0 Z Ym22 := zRx_o hRb hYm22 rfl
        have hV24 : zV Ym22 := zV_o hV hYm22 rfl
        have hG25 := yFr_o hG hYm22 rfl (.inr rfl) rfl
        replace hM := zE_p hM (by first | (have q1 := zhx q1; have q2 := zhx q2; omega) | (simp only [zhx q1, zhx q2] at h3 h12 h17 ⊢ <;> omega))
        obtain ⟨Ym26, hYm26, hM⟩ := zl_x hM
        have hR27 : zRx [] 0 Z Ym26 := zRx_o hR23 hYm26 rfl
        have hV28 : zV Ym26 := zV_o hV24 hYm26 rfl
        have hG29 := yFr_o hG25 hYm26 rfl (.inr rfl) rfl
        exact False.elim (by have q1 := zhx q1; have q2 := zhx q2; first | omega | grind)

/- face pallet_h -/
theorem rf_pallet_h {Z Y : qz_Z} {dm : qz_Z → Int → Int → Int → Int → Int → Int → Int → qz_Z} {a1 a2 : Int} (hRa : zR 0 Z Y) (hV : zV Y) (hI : zI none Z) (hd : zDf dm) (hD1 : zD1 0 Z Y) (hD4 : zD4 0 Z Y) (hN1 : zN1 Y) (hN4 : zN4 Y) (hDs : zDs 0 Z Y) (hDw : zDw 0 Z Y) (hDl : zDl 0 Z Y) (e0 : 15 < a2) {C : qz_Z × Int × Int} {M : qz_Z × Int} (hC : zE C (zx_225 Z a1 a2)) (hM : zE M (zy_448 Y a1 a2)) : zR 0 C.1 M.1 ∧ zV M.1 ∧ zDd [] [99999] Z Y dm C.1 M.1 ∧ zThr [(24, 1), (13, 2)] C.2 (M.1 1 0 0 2) M.2 := by
  have hRb := zRx_0 hRa
  have hF : zFc [] 0 Z Z := zFc_r
  have hG : yFr [99999] Y Y := yFr_r
  unfold zx_225 at hC
  unfold zy_448 at hM
  have q1 := zhd (zVr_11_3 (a := 102) hV (by omega))
  have q2 := zhd ((zRl_11_3 (a := 102) hRa (by omega)))
  rcases zE_c hC with ⟨h3, hC⟩ | ⟨h3, hC⟩
  · replace hC := zE_n hC (by first | (have q1 := zhx q1; have q2 := zhx q2; omega) | (simp only [zhx q1, zhx q2] at h3 ⊢ <;> omega))
    replace hM := zE_n hM (by first | (have q1 := zhx q1; have q2 := zhx q2; omega) | (simp only [zhx q1, zhx q2] at h3 ⊢ <;> omega))
    replace hM := zE_n hM (by first | (have q1 := zhx q1; have q2 := zhx q2; omega) | (simp only [zhx q1, zhx q2] at h3 ⊢ <;> omega))
    obtain ⟨Ym4, hYm4, hM⟩ := zl_x hM
    have hR5 : zRx [] 0 Z Ym4 := zRx_o hRb hYm4 rfl
    have hV6 : zV Ym4 := zV_o hV hYm4 rfl
    have hG7 := yFr_o hG hYm4 rfl (.inr rfl) rfl
    replace hM := zE_n hM (by first | (have q1 := zhx q1; have q2 := zhx q2; omega) | (simp only [zhx q1, zhx q2] at h3 ⊢ <;> omega))
    replace hM := zE_p hM (by first | (have q1 := zhx q1; have q2 := zhx q2; omega) | (simp only [zhx q1, zhx q2] at h3 ⊢ <;> omega))
    obtain ⟨Ym8, hYm8, hM⟩ := zl_x hM
    have hR9 : zRx [] 0 Z Ym8 := zRx_o hR5 hYm8 rfl
    have hV10 : zV Ym8 := zV_o hV6 hYm8 rfl
    have hG11 := yFr_o hG7 hYm8 rfl (.inr rfl) rfl
    have th9 := (zu_at hYm8)
    obtain rfl : C = _ := hC
    obtain rfl : M = _ := hM
    exact ⟨zRx_1 hR9, hV10, ⟨Z, _, .inl ⟨rfl, yFr_w hG11 (by decide)⟩, zFc_r, yFr_r⟩, zThr_e th9 (by decide)⟩
  · rcases zE_c hM with ⟨h12, hM⟩ | ⟨h12, hM⟩
    · obtain ⟨Ym13, hYm13, hM⟩ := zl_x hM
      have hR14 : zRx [] 0 Z Ym13 := zRx_o hRb hYm13 rfl
      have hV15 : zV Ym13 := zV_o hV hYm13 rfl
      have hG16 := yFr_o hG hYm13 rfl (.inr rfl) rfl
      have th9 := (zu_at hYm13)
      obtain rfl : C = _ := hC
      obtain rfl : M = _ := hM
      exact ⟨zRx_1 hR14, hV15, ⟨Z, _, .inl ⟨rfl, yFr_w hG16 (by decide)⟩, zFc_r, yFr_r⟩, zThr_e th9 (by decide)⟩
    · rcases zE_c hM with ⟨h17, hM⟩ | ⟨h17, hM⟩
      · obtain ⟨Ym18, hYm18, hM⟩ := zl_x hM
        have hR19 : zRx [] 0 Z Ym18 := zRx_o hRb hYm18 rfl
        have hV20 : zV Ym18 := zV_o hV hYm18 rfl
        have hG21 := yFr_o hG hYm18 rfl (.inr rfl) rfl
        have th9 := (zu_at hYm18)
        obtain rfl : C = _ := hC
        obtain rfl : M = _ := hM
        exact ⟨zRx_1 hR19, hV20, ⟨Z, _, .inl ⟨rfl, yFr_w hG21 (by decide)⟩, zFc_r, yFr_r⟩, zThr_e th9 (by decide)⟩
      · obtain ⟨Ym22, hYm22, hM⟩ := zl_x hM
        have hR23 : zRx [] 0 Z Ym22 := zRx_o hRb hYm22 rfl
        have hV24 : zV Ym22 := zV_o hV hYm22 rfl
        have hG25 := yFr_o hG hYm22 rfl (.inr rfl) rfl
        replace hM := zE_n hM (by first | (have q1 := zhx q1; have q2 := zhx q2; omega) | (simp only [zhx q1, zhx q2] at h3 h12 h17 ⊢ <;> omega))
        replace hM := zE_p hM (by first | (have q1 := zhx q1; have q2 := zhx q2; omega) | (simp only [zhx q1, zhx q2] at h3 h12 h17 ⊢ <;> omega))
        obtain ⟨Ym26, hYm26, hM⟩ := zl_x hM
        have hR27 : zRx [] 0 Z Ym26 := zRx_o hR23 hYm26 rfl
        have hV28 : zV Ym26 := zV_o hV24 hYm26 rfl
        have hG29 := yFr_o hG25 hYm26 rfl (.inr rfl) rfl
        exact False.elim (by have q1 := zhx q1; have q2 := zhx q2; first | omega | grind)

/- face pallet -/
theorem rf_pallet {Z Y : qz_Z} {dm : qz_Z → Int → Int → Int → Int → Int → Int → Int → qz_Z} {a1 a2 : Int} (hRa : zR 0 Z Y) (hV : zV Y) (hI : zI none Z) (hd : zDf dm) (hD1 : zD1 0 Z Y) (hD4 : zD4 0 Z Y) (hN1 : zN1 Y) (hN4 : zN4 Y) (hDs : zDs 0 Z Y) (hDw : zDw 0 Z Y) (hDl : zDl 0 Z Y) {C : qz_Z × Int × Int} {M : qz_Z × Int} (hC : zE C (zx_225 Z a1 a2)) (hM : zE M (zy_448 Y a1 a2)) : zR 0 C.1 M.1 ∧ zV M.1 ∧ zDd [] [99999] Z Y dm C.1 M.1 ∧ zThr [(24, 1), (13, 2)] C.2 (M.1 1 0 0 2) M.2 := by
  by_cases l9 : a2 < 0
  · exact rf_pallet_l hRa hV hI hd hD1 hD4 hN1 hN4 hDs hDw hDl l9 hC hM
  by_cases u9 : 15 < a2
  · exact rf_pallet_h hRa hV hI hd hD1 hD4 hN1 hN4 hDs hDw hDl u9 hC hM
  have c9 : a2 = 0 ∨ a2 = 1 ∨ a2 = 2 ∨ a2 = 3 ∨ a2 = 4 ∨ a2 = 5 ∨ a2 = 6 ∨ a2 = 7 ∨ a2 = 8 ∨ a2 = 9 ∨ a2 = 10 ∨ a2 = 11 ∨ a2 = 12 ∨ a2 = 13 ∨ a2 = 14 ∨ a2 = 15 := by omega
  rcases c9 with rfl | rfl | rfl | rfl | rfl | rfl | rfl | rfl | rfl | rfl | rfl | rfl | rfl | rfl | rfl | rfl
  · exact rf_pallet_0 hRa hV hI hd hD1 hD4 hN1 hN4 hDs hDw hDl hC hM
  · exact rf_pallet_1 hRa hV hI hd hD1 hD4 hN1 hN4 hDs hDw hDl hC hM
  · exact rf_pallet_2 hRa hV hI hd hD1 hD4 hN1 hN4 hDs hDw hDl hC hM
  · exact rf_pallet_3 hRa hV hI hd hD1 hD4 hN1 hN4 hDs hDw hDl hC hM
  · exact rf_pallet_4 hRa hV hI hd hD1 hD4 hN1 hN4 hDs hDw hDl hC hM
  · exact rf_pallet_5 hRa hV hI hd hD1 hD4 hN1 hN4 hDs hDw hDl hC hM
  · exact rf_pallet_6 hRa hV hI hd hD1 hD4 hN1 hN4 hDs hDw hDl hC hM
  · exact rf_pallet_7 hRa hV hI hd hD1 hD4 hN1 hN4 hDs hDw hDl hC hM
  · exact rf_pallet_8 hRa hV hI hd hD1 hD4 hN1 hN4 hDs hDw hDl hC hM
  · exact rf_pallet_9 hRa hV hI hd hD1 hD4 hN1 hN4 hDs hDw hDl hC hM
  · exact rf_pallet_10 hRa hV hI hd hD1 hD4 hN1 hN4 hDs hDw hDl hC hM
  · exact rf_pallet_11 hRa hV hI hd hD1 hD4 hN1 hN4 hDs hDw hDl hC hM
  · exact rf_pallet_12 hRa hV hI hd hD1 hD4 hN1 hN4 hDs hDw hDl hC hM
  · exact rf_pallet_13 hRa hV hI hd hD1 hD4 hN1 hN4 hDs hDw hDl hC hM
  · exact rf_pallet_14 hRa hV hI hd hD1 hD4 hN1 hN4 hDs hDw hDl hC hM
  · exact rf_pallet_15 hRa hV hI hd hD1 hD4 hN1 hN4 hDs hDw hDl hC hM

/- face parcel_0 -/
theorem rf_parcel_0 {Z Y : qz_Z} {dm : qz_Z → Int → Int → Int → Int → Int → Int → Int → qz_Z} {a1 : Int} (hRa : zR 0 Z Y) (hV : zV Y) (hI : zI none Z) (hd : zDf dm) (hD1 : zD1 0 Z Y) (hD4 : zD4 0 Z Y) (hN1 : zN1 Y) (hN4 : zN4 Y) (hDs : zDs 0 Z Y) (hDw : zDw 0 Z Y) (hDl : zDl 0 Z Y)  {C : qz_Z × Int × Int} {M : qz_Z × Int} (hC : zE C (zx_226 Z a1 0)) (hM : zE M (zy_449 Y a1 0)) : zR 0 C.1 M.1 ∧ zV M.1 ∧ zDd [] [99999] Z Y dm C.1 M.1 ∧ zThr [(24, 1), (13, 2)] C.2 (M.1 1 0 0 2) M.2 := by
  have hRb := zRx_0 hRa
  have hF : zFc [] 0 Z Z := zFc_r
  have hG : yFr [99999] Y Y := yFr_r
  unfold zx_226 at hC
  unfold zy_449 at hM
  have q1 := zhd (zVr_11_6 (a := 2000) hV (by omega))
  have q2 := zhd ((zRl_11_6 (a := 2000) hRa (by omega)))
  rcases zE_c hC with ⟨h3, hC⟩ | ⟨h3, hC⟩
  · replace hC := zE_p hC (by first | (have q1 := zhx q1; have q2 := zhx q2; omega) | (simp only [zhx q1, zhx q2] at h3 ⊢ <;> omega))
    obtain ⟨v5, g4, hC⟩ := zl_x hC
    replace g4 : zE _ _ := g4
    unfold zf_36 at g4
    have q6 := zhd (zVr_47_9 (x := a1) (a := 2019 + 16 * a1) hV (by have q1 := zhx q1; have q2 := zhx q2; omega) (by have q1 := zhx q1; have q2 := zhx q2; omega) (by have q1 := zhx q1; have q2 := zhx q2; omega))
    have q7 := zhd ((zRl_47_9 (x := a1) (a := 2019 + 16 * a1) hRa (by have q1 := zhx q1; have q2 := zhx q2; omega) (by have q1 := zhx q1; have q2 := zhx q2; omega) (by have q1 := zhx q1; have q2 := zhx q2; omega)))
    rcases zE_c g4 with ⟨h8, g4⟩ | ⟨h8, g4⟩
    · replace g4 := zE_p g4 (by first | (have q1 := zhx q1; have q2 := zhx q2; have q6 := zhx q6; have q7 := zhx q7; omega) | (simp only [zhx q1, zhx q2, zhx q6, zhx q7] at h3 h8 ⊢ <;> omega))
      have q9 := zhd (zVr_47_0 (x := a1) (a := 2010 + 16 * a1) hV (by first | (omega) | (have q1 := zhx q1; have q2 := zhx q2; have q6 := zhx q6; have q7 := zhx q7; omega)) (by first | (omega) | (have q1 := zhx q1; have q2 := zhx q2; have q6 := zhx q6; have q7 := zhx q7; omega)) (by first | (omega) | (have q1 := zhx q1; have q2 := zhx q2; have q6 := zhx q6; have q7 := zhx q7; omega)))
      have q10 := zhd ((zRl_47_0 (x := a1) (a := 2010 + 16 * a1) hRa (by first | (omega) | (have q1 := zhx q1; have q2 := zhx q2; have q6 := zhx q6; have q7 := zhx q7; omega)) (by first | (omega) | (have q1 := zhx q1; have q2 := zhx q2; have q6 := zhx q6; have q7 := zhx q7; omega)) (by first | (omega) | (have q1 := zhx q1; have q2 := zhx q2; have q6 := zhx q6; have q7 := zhx q7; omega))))
      have e9 : (Z 47 0 a1 0) = v5 := Eq.symm g4
      subst e9
      replace hM := zE_n hM (by first | (have q1 := zhx q1; have q2 := zhx q2; have q6 := zhx q6; have q7 := zhx q7; omega) | (simp only [zhx q1, zhx q2, zhx q6, zhx q7] at h3 h8 ⊢ <;> omega))
      replace hM := zE_n hM (by first | (have q1 := zhx q1; have q2 := zhx q2; have q6 := zhx q6; have q7 := zhx q7; omega) | (simp only [zhx q1, zhx q2, zhx q6, zhx q7] at h3 h8 ⊢ <;> omega))
      obtain ⟨Ym11, hYm11, hM⟩ := zl_x hM
      have hR12 : zRx [] 0 Z Ym11 := zRx_o hRb hYm11 rfl
      have hV13 : zV Ym11 := zV_o hV hYm11 rfl
      have hG14 := yFr_o hG hYm11 rfl (.inr rfl) rfl
      replace hM := zE_n hM (by first | (have q1 := zhx q1; have q2 := zhx q2; have q6 := zhx q6; have q7 := zhx q7; omega) | (simp only [zhx q1, zhx q2, zhx q6, zhx q7] at h3 h8 ⊢ <;> omega))
      replace hM := zE_n hM (by first | (have q1 := zhx q1; have q2 := zhx q2; have q6 := zhx q6; have q7 := zhx q7; omega) | (simp only [zhx q1, zhx q2, zhx q6, zhx q7] at h3 h8 ⊢ <;> omega))
      obtain ⟨Ym15, hYm15, hM⟩ := zl_x hM
      have hR16 : zRx [] 0 Z Ym15 := zRx_o hR12 hYm15 rfl
      have hV17 : zV Ym15 := zV_o hV13 hYm15 rfl
      have hG18 := yFr_o hG14 hYm15 rfl (.inr rfl) rfl
      replace hM := zE_p hM (by first | (have q1 := zhx q1; have q2 := zhx q2; have q6 := zhx q6; have q7 := zhx q7; omega) | (simp only [zhx q1, zhx q2, zhx q6, zhx q7] at h3 h8 ⊢ <;> omega))
      have th9 := (zu_at hYm15)
      have q19 := zhd (congrArg (Ym15 2 0 0) (show (2010 + 16 * a1 + 0) = 2010 + 16 * a1 from (by first | (omega) | (have q1 := zhx q1; have q2 := zhx q2; have q6 := zhx q6; have q7 := zhx q7; omega))))
      have q20 := zhd (((zu_ne (k' := 2) (b' := 0) (i' := 0) (j' := 2010 + 16 * a1) hYm15 (fun q => absurd q.1 (by decide))).trans (zu_ne (k' := 2) (b' := 0) (i' := 0) (j' := 2010 + 16 * a1) hYm11 (fun q => absurd q.1 (by decide)))))
      obtain rfl : C = _ := hC
      obtain rfl : M = _ := hM
      exact ⟨zRx_1 hR16, hV17, ⟨Z, _, .inl ⟨rfl, yFr_w hG18 (by decide)⟩, zFc_r, yFr_r⟩, zThr_a th9 (by first | rfl | (have q1 := zhx q1; have q2 := zhx q2; have q6 := zhx q6; have q7 := zhx q7; have q9 := zhx q9; have q10 := zhx q10; have q19 := zhx q19; have q20 := zhx q20; omega) | (simp only [zhx q1, zhx q2, zhx q6, zhx q7, zhx q9, zhx q10, zhx q19, zhx q20] <;> omega) | (have q1 := zhx q1; have q2 := zhx q2; have q6 := zhx q6; have q7 := zhx q7; have q9 := zhx q9; have q10 := zhx q10; have q19 := zhx q19; have q20 := zhx q20; refine w3z ?_ ?_ ?_ <;> omega) | (have q1 := zhx q1; have q2 := zhx q2; have q6 := zhx q6; have q7 := zhx q7; have q9 := zhx q9; have q10 := zhx q10; have q19 := zhx q19; have q20 := zhx q20; refine w3y ?_ ?_ ?_ <;> omega) | (have q1 := zhx q1; have q2 := zhx q2; have q6 := zhx q6; have q7 := zhx q7; have q9 := zhx q9; have q10 := zhx q10; have q19 := zhx q19; have q20 := zhx q20; refine z2o ?_ ?_ ?_ <;> omega))⟩
    · replace g4 := zE_p g4 (by first | (have q1 := zhx q1; have q2 := zhx q2; have q6 := zhx q6; have q7 := zhx q7; omega) | (simp only [zhx q1, zhx q2, zhx q6, zhx q7] at h3 h8 ⊢ <;> omega))
      have q21 := zhd (zVr_47_0 (x := a1) (a := 2010 + 16 * a1) hV (by first | (omega) | (have q1 := zhx q1; have q2 := zhx q2; have q6 := zhx q6; have q7 := zhx q7; omega)) (by first | (omega) | (have q1 := zhx q1; have q2 := zhx q2; have q6 := zhx q6; have q7 := zhx q7; omega)) (by first | (omega) | (have q1 := zhx q1; have q2 := zhx q2; have q6 := zhx q6; have q7 := zhx q7; omega)))
      have q22 := zhd ((zRl_47_0 (x := a1) (a := 2010 + 16 * a1) hRa (by first | (omega) | (have q1 := zhx q1; have q2 := zhx q2; have q6 := zhx q6; have q7 := zhx q7; omega)) (by first | (omega) | (have q1 := zhx q1; have q2 := zhx q2; have q6 := zhx q6; have q7 := zhx q7; omega)) (by first | (omega) | (have q1 := zhx q1; have q2 := zhx q2; have q6 := zhx q6; have q7 := zhx q7; omega))))
      have e9 : (Z 47 0 a1 0) = v5 := Eq.symm g4
      subst e9
      replace hM := zE_n hM (by first | (have q1 := zhx q1; have q2 := zhx q2; have q6 := zhx q6; have q7 := zhx q7; omega) | (simp only [zhx q1, zhx q2, zhx q6, zhx q7] at h3 h8 ⊢ <;> omega))
      replace hM := zE_n hM (by first | (have q1 := zhx q1; have q2 := zhx q2; have q6 := zhx q6; have q7 := zhx q7; omega) | (simp only [zhx q1, zhx q2, zhx q6, zhx q7] at h3 h8 ⊢ <;> omega))
      obtain ⟨Ym23, hYm23, hM⟩ := zl_x hM
      have hR24 : zRx [] 0 Z Ym23 := zRx_o hRb hYm23 rfl
      have hV25 : zV Ym23 := zV_o hV hYm23 rfl
      have hG26 := yFr_o hG hYm23 rfl (.inr rfl) rfl
      replace hM := zE_n hM (by first | (have q1 := zhx q1; have q2 := zhx q2; have q6 := zhx q6; have q7 := zhx q7; omega) | (simp only [zhx q1, zhx q2, zhx q6, zhx q7] at h3 h8 ⊢ <;> omega))
      replace hM := zE_n hM (by first | (have q1 := zhx q1; have q2 := zhx q2; have q6 := zhx q6; have q7 := zhx q7; omega) | (simp only [zhx q1, zhx q2, zhx q6, zhx q7] at h3 h8 ⊢ <;> omega))
      obtain ⟨Ym27, hYm27, hM⟩ := zl_x hM
      have hR28 : zRx [] 0 Z Ym27 := zRx_o hR24 hYm27 rfl
      have hV29 : zV Ym27 := zV_o hV25 hYm27 rfl
      have hG30 := yFr_o hG26 hYm27 rfl (.inr rfl) rfl
      replace hM := zE_p hM (by first | (have q1 := zhx q1; have q2 := zhx q2; have q6 := zhx q6; have q7 := zhx q7; omega) | (simp only [zhx q1, zhx q2, zhx q6, zhx q7] at h3 h8 ⊢ <;> omega))
      have th9 := (zu_at hYm27)
      have q31 := zhd (congrArg (Ym27 2 0 0) (show (2010 + 16 * a1 + 0) = 2010 + 16 * a1 from (by first | (omega) | (have q1 := zhx q1; have q2 := zhx q2; have q6 := zhx q6; have q7 := zhx q7; omega))))
      have q32 := zhd (((zu_ne (k' := 2) (b' := 0) (i' := 0) (j' := 2010 + 16 * a1) hYm27 (fun q => absurd q.1 (by decide))).trans (zu_ne (k' := 2) (b' := 0) (i' := 0) (j' := 2010 + 16 * a1) hYm23 (fun q => absurd q.1 (by decide)))))
      obtain rfl : C = _ := hC
      obtain rfl : M = _ := hM
      exact ⟨zRx_1 hR28, hV29, ⟨Z, _, .inl ⟨rfl, yFr_w hG30 (by decide)⟩, zFc_r, yFr_r⟩, zThr_a th9 (by first | rfl | (have q1 := zhx q1; have q2 := zhx q2; have q6 := zhx q6; have q7 := zhx q7; have q21 := zhx q21; have q22 := zhx q22; have q31 := zhx q31; have q32 := zhx q32; omega) | (simp only [zhx q1, zhx q2, zhx q6, zhx q7, zhx q21, zhx q22, zhx q31, zhx q32] <;> omega) | (have q1 := zhx q1; have q2 := zhx q2; have q6 := zhx q6; have q7 := zhx q7; have q21 := zhx q21; have q22 := zhx q22; have q31 := zhx q31; have q32 := zhx q32; refine w3z ?_ ?_ ?_ <;> omega) | (have q1 := zhx q1; have q2 := zhx q2; have q6 := zhx q6; have q7 := zhx q7; have q21 := zhx q21; have q22 := zhx q22; have q31 := zhx q31; have q32 := zhx q32; refine w3y ?_ ?_ ?_ <;> omega) | (have q1 := zhx q1; have q2 := zhx q2; have q6 := zhx q6; have q7 := zhx q7; have q21 := zhx q21; have q22 := zhx q22; have q31 := zhx q31; have q32 := zhx q32; refine z2o ?_ ?_ ?_ <;> omega))⟩
  · rcases zE_c hM with ⟨h33, hM⟩ | ⟨h33, hM⟩
    · obtain ⟨Ym34, hYm34, hM⟩ := zl_x hM
      have hR35 : zRx [] 0 Z Ym34 := zRx_o hRb hYm34 rfl
      have hV36 : zV Ym34 := zV_o hV hYm34 rfl
      have hG37 := yFr_o hG hYm34 rfl (.inr rfl) rfl
      have th9 := (zu_at hYm34)
      obtain rfl : C = _ := hC
      obtain rfl : M = _ := hM
      exact ⟨zRx_1 hR35, hV36, ⟨Z, _, .inl ⟨rfl, yFr_w hG37 (by decide)⟩, zFc_r, yFr_r⟩, zThr_e th9 (by decide)⟩
    · rcases zE_c hM with ⟨h38, hM⟩ | ⟨h38, hM⟩
      · obtain ⟨Ym39, hYm39, hM⟩ := zl_x hM
        have hR40 : zRx [] 0 Z Ym39 := zRx_o hRb hYm39 rfl
        have hV41 : zV Ym39 := zV_o hV hYm39 rfl
        have hG42 := yFr_o hG hYm39 rfl (.inr rfl) rfl
        have th9 := (zu_at hYm39)
        obtain rfl : C = _ := hC
        obtain rfl : M = _ := hM
        exact ⟨zRx_1 hR40, hV41, ⟨Z, _, .inl ⟨rfl, yFr_w hG42 (by decide)⟩, zFc_r, yFr_r⟩, zThr_e th9 (by decide)⟩
      · obtain ⟨Ym43, hYm43, hM⟩ := zl_x hM
        have hR44 : zRx [] 0 Z Ym43 := zRx_o hRb hYm43 rfl
        have hV45 : zV Ym43 := zV_o hV hYm43 rfl
        have hG46 := yFr_o hG hYm43 rfl (.inr rfl) rfl
        replace hM := zE_n hM (by first | (have q1 := zhx q1; have q2 := zhx q2; omega) | (simp only [zhx q1, zhx q2] at h3 h33 h38 ⊢ <;> omega))
        replace hM := zE_n hM (by first | (have q1 := zhx q1; have q2 := zhx q2; omega) | (simp only [zhx q1, zhx q2] at h3 h33 h38 ⊢ <;> omega))
        obtain ⟨Ym47, hYm47, hM⟩ := zl_x hM
        have hR48 : zRx [] 0 Z Ym47 := zRx_o hR44 hYm47 rfl
        have hV49 : zV Ym47 := zV_o hV45 hYm47 rfl
        have hG50 := yFr_o hG46 hYm47 rfl (.inr rfl) rfl
        replace hM := zE_p hM (by first | (have q1 := zhx q1; have q2 := zhx q2; omega) | (simp only [zhx q1, zhx q2] at h3 h33 h38 ⊢ <;> omega))
        exact False.elim (by have q1 := zhx q1; have q2 := zhx q2; first | omega | grind)

/- face parcel_1 -/
theorem rf_parcel_1 {Z Y : qz_Z} {dm : qz_Z → Int → Int → Int → Int → Int → Int → Int → qz_Z} {a1 : Int} (hRa : zR 0 Z Y) (hV : zV Y) (hI : zI none Z) (hd : zDf dm) (hD1 : zD1 0 Z Y) (hD4 : zD4 0 Z Y) (hN1 : zN1 Y) (hN4 : zN4 Y) (hDs : zDs 0 Z Y) (hDw : zDw 0 Z Y) (hDl : zDl 0 Z Y)  {C : qz_Z × Int × Int} {M : qz_Z × Int} (hC : zE C (zx_226 Z a1 1)) (hM : zE M (zy_449 Y a1 1)) : zR 0 C.1 M.1 ∧ zV M.1 ∧ zDd [] [99999] Z Y dm C.1 M.1 ∧ zThr [(24, 1), (13, 2)] C.2 (M.1 1 0 0 2) M.2 := by
  have hRb := zRx_0 hRa
  have hF : zFc [] 0 Z Z := zFc_r
  have hG : yFr [99999] Y Y := yFr_r
  unfold zx_226 at hC
  unfold zy_449 at hM
  have q1 := zhd (zVr_11_6 (a := 2000) hV (by omega))
  have q2 := zhd ((zRl_11_6 (a := 2000) hRa (by omega)))
  rcases zE_c hC with ⟨h3, hC⟩ | ⟨h3, hC⟩
  · replace hC := zE_p hC (by first | (have q1 := zhx q1; have q2 := zhx q2; omega) | (simp only [zhx q1, zhx q2] at h3 ⊢ <;> omega))
    obtain ⟨v5, g4, hC⟩ := zl_x hC
    replace g4 : zE _ _ := g4
    unfold zf_36 at g4
    have q6 := zhd (zVr_47_9 (x := a1) (a := 2019 + 16 * a1) hV (by have q1 := zhx q1; have q2 := zhx q2; omega) (by have q1 := zhx q1; have q2 := zhx q2; omega) (by have q1 := zhx q1; have q2 := zhx q2; omega))
    have q7 := zhd ((zRl_47_9 (x := a1) (a := 2019 + 16 * a1) hRa (by have q1 := zhx q1; have q2 := zhx q2; omega) (by have q1 := zhx q1; have q2 := zhx q2; omega) (by have q1 := zhx q1; have q2 := zhx q2; omega)))
    rcases zE_c g4 with ⟨h8, g4⟩ | ⟨h8, g4⟩
    · replace g4 := zE_p g4 (by first | (have q1 := zhx q1; have q2 := zhx q2; have q6 := zhx q6; have q7 := zhx q7; omega) | (simp only [zhx q1, zhx q2, zhx q6, zhx q7] at h3 h8 ⊢ <;> omega))
      have q9 := zhd (zVr_47_1 (x := a1) (a := 2011 + 16 * a1) hV (by first | (omega) | (have q1 := zhx q1; have q2 := zhx q2; have q6 := zhx q6; have q7 := zhx q7; omega)) (by first | (omega) | (have q1 := zhx q1; have q2 := zhx q2; have q6 := zhx q6; have q7 := zhx q7; omega)) (by first | (omega) | (have q1 := zhx q1; have q2 := zhx q2; have q6 := zhx q6; have q7 := zhx q7; omega)))
      have q10 := zhd ((zRl_47_1 (x := a1) (a := 2011 + 16 * a1) hRa (by first | (omega) | (have q1 := zhx q1; have q2 := zhx q2; have q6 := zhx q6; have q7 := zhx q7; omega)) (by first | (omega) | (have q1 := zhx q1; have q2 := zhx q2; have q6 := zhx q6; have q7 := zhx q7; omega)) (by first | (omega) | (have q1 := zhx q1; have q2 := zhx q2; have q6 := zhx q6; have q7 := zhx q7; omega))))
      have e9 : (Z 47 0 a1 1) = v5 := Eq.symm g4
      subst e9
      replace hM := zE_n hM (by first | (have q1 := zhx q1; have q2 := zhx q2; have q6 := zhx q6; have q7 := zhx q7; omega) | (simp only [zhx q1, zhx q2, zhx q6, zhx q7] at h3 h8 ⊢ <;> omega))
      replace hM := zE_n hM (by first | (have q1 := zhx q1; have q2 := zhx q2; have q6 := zhx q6; have q7 := zhx q7; omega) | (simp only [zhx q1, zhx q2, zhx q6, zhx q7] at h3 h8 ⊢ <;> omega))
      obtain ⟨Ym11, hYm11, hM⟩ := zl_x hM
      have hR12 : zRx [] 0 Z Ym11 := zRx_o hRb hYm11 rfl
      have hV13 : zV Ym11 := zV_o hV hYm11 rfl
      have hG14 := yFr_o hG hYm11 rfl (.inr rfl) rfl
      replace hM := zE_n hM (by first | (have q1 := zhx q1; have q2 := zhx q2; have q6 := zhx q6; have q7 := zhx q7; omega) | (simp only [zhx q1, zhx q2, zhx q6, zhx q7] at h3 h8 ⊢ <;> omega))
      replace hM := zE_n hM (by first | (have q1 := zhx q1; have q2 := zhx q2; have q6 := zhx q6; have q7 := zhx q7; omega) | (simp only [zhx q1, zhx q2, zhx q6, zhx q7] at h3 h8 ⊢ <;> omega))
      obtain ⟨Ym15, hYm15, hM⟩ := zl_x hM
      have hR16 : zRx [] 0 Z Ym15 := zRx_o hR12 hYm15 rfl
      have hV17 : zV Ym15 := zV_o hV13 hYm15 rfl
      have hG18 := yFr_o hG14 hYm15 rfl (.inr rfl) rfl
      replace hM := zE_p hM (by first | (have q1 := zhx q1; have q2 := zhx q2; have q6 := zhx q6; have q7 := zhx q7; omega) | (simp only [zhx q1, zhx q2, zhx q6, zhx q7] at h3 h8 ⊢ <;> omega))
      have th9 := (zu_at hYm15)
      have q19 := zhd (congrArg (Ym15 2 0 0) (show (2010 + 16 * a1 + 1) = 2011 + 16 * a1 from (by first | (omega) | (have q1 := zhx q1; have q2 := zhx q2; have q6 := zhx q6; have q7 := zhx q7; omega))))
      have q20 := zhd (((zu_ne (k' := 2) (b' := 0) (i' := 0) (j' := 2011 + 16 * a1) hYm15 (fun q => absurd q.1 (by decide))).trans (zu_ne (k' := 2) (b' := 0) (i' := 0) (j' := 2011 + 16 * a1) hYm11 (fun q => absurd q.1 (by decide)))))
      obtain rfl : C = _ := hC
      obtain rfl : M = _ := hM
      exact ⟨zRx_1 hR16, hV17, ⟨Z, _, .inl ⟨rfl, yFr_w hG18 (by decide)⟩, zFc_r, yFr_r⟩, zThr_a th9 (by first | rfl | (have q1 := zhx q1; have q2 := zhx q2; have q6 := zhx q6; have q7 := zhx q7; have q9 := zhx q9; have q10 := zhx q10; have q19 := zhx q19; have q20 := zhx q20; omega) | (simp only [zhx q1, zhx q2, zhx q6, zhx q7, zhx q9, zhx q10, zhx q19, zhx q20] <;> omega) | (have q1 := zhx q1; have q2 := zhx q2; have q6 := zhx q6; have q7 := zhx q7; have q9 := zhx q9; have q10 := zhx q10; have q19 := zhx q19; have q20 := zhx q20; refine w3z ?_ ?_ ?_ <;> omega) | (have q1 := zhx q1; have q2 := zhx q2; have q6 := zhx q6; have q7 := zhx q7; have q9 := zhx q9; have q10 := zhx q10; have q19 := zhx q19; have q20 := zhx q20; refine w3y ?_ ?_ ?_ <;> omega) | (have q1 := zhx q1; have q2 := zhx q2; have q6 := zhx q6; have q7 := zhx q7; have q9 := zhx q9; have q10 := zhx q10; have q19 := zhx q19; have q20 := zhx q20; refine z2o ?_ ?_ ?_ <;> omega))⟩
    · replace g4 := zE_p g4 (by first | (have q1 := zhx q1; have q2 := zhx q2; have q6 := zhx q6; have q7 := zhx q7; omega) | (simp only [zhx q1, zhx q2, zhx q6, zhx q7] at h3 h8 ⊢ <;> omega))
      have q21 := zhd (zVr_47_1 (x := a1) (a := 2011 + 16 * a1) hV (by first | (omega) | (have q1 := zhx q1; have q2 := zhx q2; have q6 := zhx q6; have q7 := zhx q7; omega)) (by first | (omega) | (have q1 := zhx q1; have q2 := zhx q2; have q6 := zhx q6; have q7 := zhx q7; omega)) (by first | (omega) | (have q1 := zhx q1; have q2 := zhx q2; have q6 := zhx q6; have q7 := zhx q7; omega)))
      have q22 := zhd ((zRl_47_1 (x := a1) (a := 2011 + 16 * a1) hRa (by first | (omega) | (have q1 := zhx q1; have q2 := zhx q2; have q6 := zhx q6; have q7 := zhx q7; omega)) (by first | (omega) | (have q1 := zhx q1; have q2 := zhx q2; have q6 := zhx q6; have q7 := zhx q7; omega)) (by first | (omega) | (have q1 := zhx q1; have q2 := zhx q2; have q6 := zhx q6; have q7 := zhx q7; omega))))
      have e9 : (Z 47 0 a1 1) = v5 := Eq.symm g4
      subst e9
      replace hM := zE_n hM (by first | (have q1 := zhx q1; have q2 := zhx q2; have q6 := zhx q6; have q7 := zhx q7; omega) | (simp only [zhx q1, zhx q2, zhx q6, zhx q7] at h3 h8 ⊢ <;> omega))
      replace hM := zE_n hM (by first | (have q1 := zhx q1; have q2 := zhx q2; have q6 := zhx q6; have q7 := zhx q7; omega) | (simp only [zhx q1, zhx q2, zhx q6, zhx q7] at h3 h8 ⊢ <;> omega))
      obtain ⟨Ym23, hYm23, hM⟩ := zl_x hM
      have hR24 : zRx [] 0 Z Ym23 := zRx_o hRb hYm23 rfl
      have hV25 : zV Ym23 := zV_o hV hYm23 rfl
      have hG26 := yFr_o hG hYm23 rfl (.inr rfl) rfl
      replace hM := zE_n hM (by first | (have q1 := zhx q1; have q2 := zhx q2; have q6 := zhx q6; have q7 := zhx q7; omega) | (simp only [zhx q1, zhx q2, zhx q6, zhx q7] at h3 h8 ⊢ <;> omega))
      replace hM := zE_n hM (by first | (have q1 := zhx q1; have q2 := zhx q2; have q6 := zhx q6; have q7 := zhx q7; omega) | (simp only [zhx q1, zhx q2, zhx q6, zhx q7] at h3 h8 ⊢ <;> omega))
      obtain ⟨Ym27, hYm27, hM⟩ := zl_x hM
      have hR28 : zRx [] 0 Z Ym27 := zRx_o hR24 hYm27 rfl
      have hV29 : zV Ym27 := zV_o hV25 hYm27 rfl
      have hG30 := yFr_o hG26 hYm27 rfl (.inr rfl) rfl
      replace hM := zE_p hM (by first | (have q1 := zhx q1; have q2 := zhx q2; have q6 := zhx q6; have q7 := zhx q7; omega) | (simp only [zhx q1, zhx q2, zhx q6, zhx q7] at h3 h8 ⊢ <;> omega))
      have th9 := (zu_at hYm27)
      have q31 := zhd (congrArg (Ym27 2 0 0) (show (2010 + 16 * a1 + 1) = 2011 + 16 * a1 from (by first | (omega) | (have q1 := zhx q1; have q2 := zhx q2; have q6 := zhx q6; have q7 := zhx q7; omega))))
      have q32 := zhd (((zu_ne (k' := 2) (b' := 0) (i' := 0) (j' := 2011 + 16 * a1) hYm27 (fun q => absurd q.1 (by decide))).trans (zu_ne (k' := 2) (b' := 0) (i' := 0) (j' := 2011 + 16 * a1) hYm23 (fun q => absurd q.1 (by decide)))))
      obtain rfl : C = _ := hC
      obtain rfl : M = _ := hM
      exact ⟨zRx_1 hR28, hV29, ⟨Z, _, .inl ⟨rfl, yFr_w hG30 (by decide)⟩, zFc_r, yFr_r⟩, zThr_a th9 (by first | rfl | (have q1 := zhx q1; have q2 := zhx q2; have q6 := zhx q6; have q7 := zhx q7; have q21 := zhx q21; have q22 := zhx q22; have q31 := zhx q31; have q32 := zhx q32; omega) | (simp only [zhx q1, zhx q2, zhx q6, zhx q7, zhx q21, zhx q22, zhx q31, zhx q32] <;> omega) | (have q1 := zhx q1; have q2 := zhx q2; have q6 := zhx q6; have q7 := zhx q7; have q21 := zhx q21; have q22 := zhx q22; have q31 := zhx q31; have q32 := zhx q32; refine w3z ?_ ?_ ?_ <;> omega) | (have q1 := zhx q1; have q2 := zhx q2; have q6 := zhx q6; have q7 := zhx q7; have q21 := zhx q21; have q22 := zhx q22; have q31 := zhx q31; have q32 := zhx q32; refine w3y ?_ ?_ ?_ <;> omega) | (have q1 := zhx q1; have q2 := zhx q2; have q6 := zhx q6; have q7 := zhx q7; have q21 := zhx q21; have q22 := zhx q22; have q31 := zhx q31; have q32 := zhx q32; refine z2o ?_ ?_ ?_ <;> omega))⟩
  · rcases zE_c hM with ⟨h33, hM⟩ | ⟨h33, hM⟩
    · obtain ⟨Ym34, hYm34, hM⟩ := zl_x hM
      have hR35 : zRx [] 0 Z Ym34 := zRx_o hRb hYm34 rfl
      have hV36 : zV Ym34 := zV_o hV hYm34 rfl
      have hG37 := yFr_o hG hYm34 rfl (.inr rfl) rfl
      have th9 := (zu_at hYm34)
      obtain rfl : C = _ := hC
      obtain rfl : M = _ := hM
      exact ⟨zRx_1 hR35, hV36, ⟨Z, _, .inl ⟨rfl, yFr_w hG37 (by decide)⟩, zFc_r, yFr_r⟩, zThr_e th9 (by decide)⟩
    · rcases zE_c hM with ⟨h38, hM⟩ | ⟨h38, hM⟩
      · obtain ⟨Ym39, hYm39, hM⟩ := zl_x hM
        have hR40 : zRx [] 0 Z Ym39 := zRx_o hRb hYm39 rfl
        have hV41 : zV Ym39 := zV_o hV hYm39 rfl
        have hG42 := yFr_o hG hYm39 rfl (.inr rfl) rfl
        have th9 := (zu_at hYm39)
        obtain rfl : C = _ := hC
        obtain rfl : M = _ := hM
        exact ⟨zRx_1 hR40, hV41, ⟨Z, _, .inl ⟨rfl, yFr_w hG42 (by decide)⟩, zFc_r, yFr_r⟩, zThr_e th9 (by decide)⟩
      · obtain ⟨Ym43, hYm43, hM⟩ := zl_x hM
        have hR44 : zRx [] 0 Z Ym43 := zRx_o hRb hYm43 rfl
        have hV45 : zV Ym43 := zV_o hV hYm43 rfl
        have hG46 := yFr_o hG hYm43 rfl (.inr rfl) rfl
        replace hM := zE_n hM (by first | (have q1 := zhx q1; have q2 := zhx q2; omega) | (simp only [zhx q1, zhx q2] at h3 h33 h38 ⊢ <;> omega))
        replace hM := zE_n hM (by first | (have q1 := zhx q1; have q2 := zhx q2; omega) | (simp only [zhx q1, zhx q2] at h3 h33 h38 ⊢ <;> omega))
        obtain ⟨Ym47, hYm47, hM⟩ := zl_x hM
        have hR48 : zRx [] 0 Z Ym47 := zRx_o hR44 hYm47 rfl
        have hV49 : zV Ym47 := zV_o hV45 hYm47 rfl
        have hG50 := yFr_o hG46 hYm47 rfl (.inr rfl) rfl
        replace hM := zE_p hM (by first | (have q1 := zhx q1; have q2 := zhx q2; omega) | (simp only [zhx q1, zhx q2] at h3 h33 h38 ⊢ <;> omega))
        exact False.elim (by have q1 := zhx q1; have q2 := zhx q2; first | omega | grind)

/- face parcel_2 -/
theorem rf_parcel_2 {Z Y : qz_Z} {dm : qz_Z → Int → Int → Int → Int → Int → Int → Int → qz_Z} {a1 : Int} (hRa : zR 0 Z Y) (hV : zV Y) (hI : zI none Z) (hd : zDf dm) (hD1 : zD1 0 Z Y) (hD4 : zD4 0 Z Y) (hN1 : zN1 Y) (hN4 : zN4 Y) (hDs : zDs 0 Z Y) (hDw : zDw 0 Z Y) (hDl : zDl 0 Z Y)  {C : qz_Z × Int × Int} {M : qz_Z × Int} (hC : zE C (zx_226 Z a1 2)) (hM : zE M (zy_449 Y a1 2)) : zR 0 C.1 M.1 ∧ zV M.1 ∧ zDd [] [99999] Z Y dm C.1 M.1 ∧ zThr [(24, 1), (13, 2)] C.2 (M.1 1 0 0 2) M.2 := by
  have hRb := zRx_0 hRa
  have hF : zFc [] 0 Z Z := zFc_r
  have hG : yFr [99999] Y Y := yFr_r
  unfold zx_226 at hC
  unfold zy_449 at hM
  have q1 := zhd (zVr_11_6 (a := 2000) hV (by omega))
  have q2 := zhd ((zRl_11_6 (a := 2000) hRa (by omega)))
  rcases zE_c hC with ⟨h3, hC⟩ | ⟨h3, hC⟩
  · replace hC := zE_p hC (by first | (have q1 := zhx q1; have q2 := zhx q2; omega) | (simp only [zhx q1, zhx q2] at h3 ⊢ <;> omega))
    obtain ⟨v5, g4, hC⟩ := zl_x hC
    replace g4 : zE _ _ := g4
    unfold zf_36 at g4
    have q6 := zhd (zVr_47_9 (x := a1) (a := 2019 + 16 * a1) hV (by have q1 := zhx q1; have q2 := zhx q2; omega) (by have q1 := zhx q1; have q2 := zhx q2; omega) (by have q1 := zhx q1; have q2 := zhx q2; omega))
    have q7 := zhd ((zRl_47_9 (x := a1) (a := 2019 + 16 * a1) hRa (by have q1 := zhx q1; have q2 := zhx q2; omega) (by have q1 := zhx q1; have q2 := zhx q2; omega) (by have q1 := zhx q1; have q2 := zhx q2; omega)))
    rcases zE_c g4 with ⟨h8, g4⟩ | ⟨h8, g4⟩
    · replace g4 := zE_p g4 (by first | (have q1 := zhx q1; have q2 := zhx q2; have q6 := zhx q6; have q7 := zhx q7; omega) | (simp only [zhx q1, zhx q2, zhx q6, zhx q7] at h3 h8 ⊢ <;> omega))
      have q9 := zhd (zVr_47_2 (x := a1) (a := 2012 + 16 * a1) hV (by first | (omega) | (have q1 := zhx q1; have q2 := zhx q2; have q6 := zhx q6; have q7 := zhx q7; omega)) (by first | (omega) | (have q1 := zhx q1; have q2 := zhx q2; have q6 := zhx q6; have q7 := zhx q7; omega)) (by first | (omega) | (have q1 := zhx q1; have q2 := zhx q2; have q6 := zhx q6; have q7 := zhx q7; omega)))
      have q10 := zhd ((zRl_47_2 (x := a1) (a := 2012 + 16 * a1) hRa (by first | (omega) | (have q1 := zhx q1; have q2 := zhx q2; have q6 := zhx q6; have q7 := zhx q7; omega)) (by first | (omega) | (have q1 := zhx q1; have q2 := zhx q2; have q6 := zhx q6; have q7 := zhx q7; omega)) (by first | (omega) | (have q1 := zhx q1; have q2 := zhx q2; have q6 := zhx q6; have q7 := zhx q7; omega))))
      have e9 : (Z 47 0 a1 2) = v5 := Eq.symm g4
      subst e9
      replace hM := zE_n hM (by first | (have q1 := zhx q1; have q2 := zhx q2; have q6 := zhx q6; have q7 := zhx q7; omega) | (simp only [zhx q1, zhx q2, zhx q6, zhx q7] at h3 h8 ⊢ <;> omega))
      replace hM := zE_n hM (by first | (have q1 := zhx q1; have q2 := zhx q2; have q6 := zhx q6; have q7 := zhx q7; omega) | (simp only [zhx q1, zhx q2, zhx q6, zhx q7] at h3 h8 ⊢ <;> omega))
      obtain ⟨Ym11, hYm11, hM⟩ := zl_x hM
      have hR12 : zRx [] 0 Z Ym11 := zRx_o hRb hYm11 rfl
      have hV13 : zV Ym11 := zV_o hV hYm11 rfl
      have hG14 := yFr_o hG hYm11 rfl (.inr rfl) rfl
      replace hM := zE_n hM (by first | (have q1 := zhx q1; have q2 := zhx q2; have q6 := zhx q6; have q7 := zhx q7; omega) | (simp only [zhx q1, zhx q2, zhx q6, zhx q7] at h3 h8 ⊢ <;> omega))
      replace hM := zE_n hM (by first | (have q1 := zhx q1; have q2 := zhx q2; have q6 := zhx q6; have q7 := zhx q7; omega) | (simp only [zhx q1, zhx q2, zhx q6, zhx q7] at h3 h8 ⊢ <;> omega))
      obtain ⟨Ym15, hYm15, hM⟩ := zl_x hM
      have hR16 : zRx [] 0 Z Ym15 := zRx_o hR12 hYm15 rfl
      have hV17 : zV Ym15 := zV_o hV13 hYm15 rfl
      have hG18 := yFr_o hG14 hYm15 rfl (.inr rfl) rfl
      replace hM := zE_p hM (by first | (have q1 := zhx q1; have q2 := zhx q2; have q6 := zhx q6; have q7 := zhx q7; omega) | (simp only [zhx q1, zhx q2, zhx q6, zhx q7] at h3 h8 ⊢ <;> omega))
      have th9 := (zu_at hYm15)
      have q19 := zhd (congrArg (Ym15 2 0 0) (show (2010 + 16 * a1 + 2) = 2012 + 16 * a1 from (by first | (omega) | (have q1 := zhx q1; have q2 := zhx q2; have q6 := zhx q6; have q7 := zhx q7; omega))))
      have q20 := zhd (((zu_ne (k' := 2) (b' := 0) (i' := 0) (j' := 2012 + 16 * a1) hYm15 (fun q => absurd q.1 (by decide))).trans (zu_ne (k' := 2) (b' := 0) (i' := 0) (j' := 2012 + 16 * a1) hYm11 (fun q => absurd q.1 (by decide)))))
      obtain rfl : C = _ := hC
      obtain rfl : M = _ := hM
      exact ⟨zRx_1 hR16, hV17, ⟨Z, _, .inl ⟨rfl, yFr_w hG18 (by decide)⟩, zFc_r, yFr_r⟩, zThr_a th9 (by first | rfl | (have q1 := zhx q1; have q2 := zhx q2; have q6 := zhx q6; have q7 := zhx q7; have q9 := zhx q9; have q10 := zhx q10; have q19 := zhx q19; have q20 := zhx q20; omega) | (simp only [zhx q1, zhx q2, zhx q6, zhx q7, zhx q9, zhx q10, zhx q19, zhx q20] <;> omega) | (have q1 := zhx q1; have q2 := zhx q2; have q6 := zhx q6; have q7 := zhx q7; have q9 := zhx q9; have q10 := zhx q10; have q19 := zhx q19; have q20 := zhx q20; refine w3z ?_ ?_ ?_ <;> omega) | (have q1 := zhx q1; have q2 := zhx q2; have q6 := zhx q6; have q7 := zhx q7; have q9 := zhx q9; have q10 := zhx q10; have q19 := zhx q19; have q20 := zhx q20; refine w3y ?_ ?_ ?_ <;> omega) | (have q1 := zhx q1; have q2 := zhx q2; have q6 := zhx q6; have q7 := zhx q7; have q9 := zhx q9; have q10 := zhx q10; have q19 := zhx q19; have q20 := zhx q20; refine z2o ?_ ?_ ?_ <;> omega))⟩
    · replace g4 := zE_p g4 (by first | (have q1 := zhx q1; have q2 := zhx q2; have q6 := zhx q6; have q7 := zhx q7; omega) | (simp only [zhx q1, zhx q2, zhx q6, zhx q7] at h3 h8 ⊢ <;> omega))
      have q21 := zhd (zVr_47_2 (x := a1) (a := 2012 + 16 * a1) hV (by first | (omega) | (have q1 := zhx q1; have q2 := zhx q2; have q6 := zhx q6; have q7 := zhx q7; omega)) (by first | (omega) | (have q1 := zhx q1; have q2 := zhx q2; have q6 := zhx q6; have q7 := zhx q7; omega)) (by first | (omega) | (have q1 := zhx q1; have q2 := zhx q2; have q6 := zhx q6; have q7 := zhx q7; omega)))
      have q22 := zhd ((zRl_47_2 (x := a1) (a := 2012 + 16 * a1) hRa (by first | (omega) | (have q1 := zhx q1; have q2 := zhx q2; have q6 := zhx q6; have q7 := zhx q7; omega)) (by first | (omega) | (have q1 := zhx q1; have q2 := zhx q2; have q6 := zhx q6; have q7 := zhx q7; omega)) (by first | (omega) | (have q1 := zhx q1; have q2 := zhx q2; have q6 := zhx q6; have q7 := zhx q7; omega))))
      have e9 : (Z 47 0 a1 2) = v5 := Eq.symm g4
      subst e9
      replace hM := zE_n hM (by first | (have q1 := zhx q1; have q2 := zhx q2; have q6 := zhx q6; have q7 := zhx q7; omega) | (simp only [zhx q1, zhx q2, zhx q6, zhx q7] at h3 h8 ⊢ <;> omega))
      replace hM := zE_n hM (by first | (have q1 := zhx q1; have q2 := zhx q2; have q6 := zhx q6; have q7 := zhx q7; omega) | (simp only [zhx q1, zhx q2, zhx q6, zhx q7] at h3 h8 ⊢ <;> omega))
      obtain ⟨Ym23, hYm23, hM⟩ := zl_x hM
      have hR24 : zRx [] 0 Z Ym23 := zRx_o hRb hYm23 rfl
      have hV25 : zV Ym23 := zV_o hV hYm23 rfl
      have hG26 := yFr_o hG hYm23 rfl (.inr rfl) rfl
      replace hM := zE_n hM (by first | (have q1 := zhx q1; have q2 := zhx q2; have q6 := zhx q6; have q7 := zhx q7; omega) | (simp only [zhx q1, zhx q2, zhx q6, zhx q7] at h3 h8 ⊢ <;> omega))
      replace hM := zE_n hM (by first | (have q1 := zhx q1; have q2 := zhx q2; have q6 := zhx q6; have q7 := zhx q7; omega) | (simp only [zhx q1, zhx q2, zhx q6, zhx q7] at h3 h8 ⊢ <;> omega))
      obtain ⟨Ym27, hYm27, hM⟩ := zl_x hM
      have hR28 : zRx [] 0 Z Ym27 := zRx_o hR24 hYm27 rfl
      have hV29 : zV Ym27 := zV_o hV25 hYm27 rfl
      have hG30 := yFr_o hG26 hYm27 rfl (.inr rfl) rfl
      replace hM := zE_p hM (by first | (have q1 := zhx q1; have q2 := zhx q2; have q6 := zhx q6; have q7 := zhx q7; omega) | (simp only [zhx q1, zhx q2, zhx q6, zhx q7] at h3 h8 ⊢ <;> omega))
      have th9 := (zu_at hYm27)
      have q31 := zhd (congrArg (Ym27 2 0 0) (show (2010 + 16 * a1 + 2) = 2012 + 16 * a1 from (by first | (omega) | (have q1 := zhx q1; have q2 := zhx q2; have q6 := zhx q6; have q7 := zhx q7; omega))))
      have q32 := zhd (((zu_ne (k' := 2) (b' := 0) (i' := 0) (j' := 2012 + 16 * a1) hYm27 (fun q => absurd q.1 (by decide))).trans (zu_ne (k' := 2) (b' := 0) (i' := 0) (j' := 2012 + 16 * a1) hYm23 (fun q => absurd q.1 (by decide)))))
      obtain rfl : C = _ := hC
      obtain rfl : M = _ := hM
      exact ⟨zRx_1 hR28, hV29, ⟨Z, _, .inl ⟨rfl, yFr_w hG30 (by decide)⟩, zFc_r, yFr_r⟩, zThr_a th9 (by first | rfl | (have q1 := zhx q1; have q2 := zhx q2; have q6 := zhx q6; have q7 := zhx q7; have q21 := zhx q21; have q22 := zhx q22; have q31 := zhx q31; have q32 := zhx q32; omega) | (simp only [zhx q1, zhx q2, zhx q6, zhx q7, zhx q21, zhx q22, zhx q31, zhx q32] <;> omega) | (have q1 := zhx q1; have q2 := zhx q2; have q6 := zhx q6; have q7 := zhx q7; have q21 := zhx q21; have q22 := zhx q22; have q31 := zhx q31; have q32 := zhx q32; refine w3z ?_ ?_ ?_ <;> omega) | (have q1 := zhx q1; have q2 := zhx q2; have q6 := zhx q6; have q7 := zhx q7; have q21 := zhx q21; have q22 := zhx q22; have q31 := zhx q31; have q32 := zhx q32; refine w3y ?_ ?_ ?_ <;> omega) | (have q1 := zhx q1; have q2 := zhx q2; have q6 := zhx q6; have q7 := zhx q7; have q21 := zhx q21; have q22 := zhx q22; have q31 := zhx q31; have q32 := zhx q32; refine z2o ?_ ?_ ?_ <;> omega))⟩
  · rcases zE_c hM with ⟨h33, hM⟩ | ⟨h33, hM⟩
    · obtain ⟨Ym34, hYm34, hM⟩ := zl_x hM
      have hR35 : zRx [] 0 Z Ym34 := zRx_o hRb hYm34 rfl
      have hV36 : zV Ym34 := zV_o hV hYm34 rfl
      have hG37 := yFr_o hG hYm34 rfl (.inr rfl) rfl
      have th9 := (zu_at hYm34)
      obtain rfl : C = _ := hC
      obtain rfl : M = _ := hM
      exact ⟨zRx_1 hR35, hV36, ⟨Z, _, .inl ⟨rfl, yFr_w hG37 (by decide)⟩, zFc_r, yFr_r⟩, zThr_e th9 (by decide)⟩
    · rcases zE_c hM with ⟨h38, hM⟩ | ⟨h38, hM⟩
      · obtain ⟨Ym39, hYm39, hM⟩ := zl_x hM
        have hR40 : zRx [] 0 Z Ym39 := zRx_o hRb hYm39 rfl
        have hV41 : zV Ym39 := zV_o hV hYm39 rfl
        have hG42 := yFr_o hG hYm39 rfl (.inr rfl) rfl
        have th9 := (zu_at hYm39)
        obtain rfl : C = _ := hC
        obtain rfl : M = _ := hM
        exact ⟨zRx_1 hR40, hV41, ⟨Z, _, .inl ⟨rfl, yFr_w hG42 (by decide)⟩, zFc_r, yFr_r⟩, zThr_e th9 (by decide)⟩
      · obtain ⟨Ym43, hYm43, hM⟩ := zl_x hM
        have hR44 : zRx [] 0 Z Ym43 := zRx_o hRb hYm43 rfl
        have hV45 : zV Ym43 := zV_o hV hYm43 rfl
        have hG46 := yFr_o hG hYm43 rfl (.inr rfl) rfl
        replace hM := zE_n hM (by first | (have q1 := zhx q1; have q2 := zhx q2; omega) | (simp only [zhx q1, zhx q2] at h3 h33 h38 ⊢ <;> omega))
        replace hM := zE_n hM (by first | (have q1 := zhx q1; have q2 := zhx q2; omega) | (simp only [zhx q1, zhx q2] at h3 h33 h38 ⊢ <;> omega))
        obtain ⟨Ym47, hYm47, hM⟩ := zl_x hM
        have hR48 : zRx [] 0 Z Ym47 := zRx_o hR44 hYm47 rfl
        have hV49 : zV Ym47 := zV_o hV45 hYm47 rfl
        have hG50 := yFr_o hG46 hYm47 rfl (.inr rfl) rfl
        replace hM := zE_p hM (by first | (have q1 := zhx q1; have q2 := zhx q2; omega) | (simp only [zhx q1, zhx q2] at h3 h33 h38 ⊢ <;> omega))
        exact False.elim (by have q1 := zhx q1; have q2 := zhx q2; first | omega | grind)

/- face parcel_3 -/
theorem rf_parcel_3 {Z Y : qz_Z} {dm : qz_Z → Int → Int → Int → Int → Int → Int → Int → qz_Z} {a1 : Int} (hRa : zR 0 Z Y) (hV : zV Y) (hI : zI none Z) (hd : zDf dm) (hD1 : zD1 0 Z Y) (hD4 : zD4 0 Z Y) (hN1 : zN1 Y) (hN4 : zN4 Y) (hDs : zDs 0 Z Y) (hDw : zDw 0 Z Y) (hDl : zDl 0 Z Y)  {C : qz_Z × Int × Int} {M : qz_Z × Int} (hC : zE C (zx_226 Z a1 3)) (hM : zE M (zy_449 Y a1 3)) : zR 0 C.1 M.1 ∧ zV M.1 ∧ zDd [] [99999] Z Y dm C.1 M.1 ∧ zThr [(24, 1), (13, 2)] C.2 (M.1 1 0 0 2) M.2 := by
  have hRb := zRx_0 hRa
  have hF : zFc [] 0 Z Z := zFc_r
  have hG : yFr [99999] Y Y := yFr_r
  unfold zx_226 at hC
  unfold zy_449 at hM
  have q1 := zhd (zVr_11_6 (a := 2000) hV (by omega))
  have q2 := zhd ((zRl_11_6 (a := 2000) hRa (by omega)))
  rcases zE_c hC with ⟨h3, hC⟩ | ⟨h3, hC⟩
  · replace hC := zE_p hC (by first | (have q1 := zhx q1; have q2 := zhx q2; omega) | (simp only [zhx q1, zhx q2] at h3 ⊢ <;> omega))
    obtain ⟨v5, g4, hC⟩ := zl_x hC
    replace g4 : zE _ _ := g4
    unfold zf_36 at g4
    have q6 := zhd (zVr_47_9 (x := a1) (a := 2019 + 16 * a1) hV (by have q1 := zhx q1; have q2 := zhx q2; omega) (by have q1 := zhx q1; have q2 := zhx q2; omega) (by have q1 := zhx q1; have q2 := zhx q2; omega))
    have q7 := zhd ((zRl_47_9 (x := a1) (a := 2019 + 16 * a1) hRa (by have q1 := zhx q1; have q2 := zhx q2; omega) (by have q1 := zhx q1; have q2 := zhx q2; omega) (by have q1 := zhx q1; have q2 := zhx q2; omega)))
    rcases zE_c g4 with ⟨h8, g4⟩ | ⟨h8, g4⟩
    · replace g4 := zE_p g4 (by first | (have q1 := zhx q1; have q2 := zhx q2; have q6 := zhx q6; have q7 := zhx q7; omega) | (simp only [zhx q1, zhx q2, zhx q6, zhx q7] at h3 h8 ⊢ <;> omega))
      have q9 := zhd ((zRl_47_3 (x := a1) (a := 2013 + 16 * a1) hRa (by first | (omega) | (have q1 := zhx q1; have q2 := zhx q2; have q6 := zhx q6; have q7 := zhx q7; omega)) (by first | (omega) | (have q1 := zhx q1; have q2 := zhx q2; have q6 := zhx q6; have q7 := zhx q7; omega)) (by first | (omega) | (have q1 := zhx q1; have q2 := zhx q2; have q6 := zhx q6; have q7 := zhx q7; omega))))
      have e9 : (Z 47 0 a1 3) = v5 := Eq.symm g4
      subst e9
      replace hM := zE_n hM (by first | (have q1 := zhx q1; have q2 := zhx q2; have q6 := zhx q6; have q7 := zhx q7; omega) | (simp only [zhx q1, zhx q2, zhx q6, zhx q7] at h3 h8 ⊢ <;> omega))
      replace hM := zE_n hM (by first | (have q1 := zhx q1; have q2 := zhx q2; have q6 := zhx q6; have q7 := zhx q7; omega) | (simp only [zhx q1, zhx q2, zhx q6, zhx q7] at h3 h8 ⊢ <;> omega))
      obtain ⟨Ym10, hYm10, hM⟩ := zl_x hM
      have hR11 : zRx [] 0 Z Ym10 := zRx_o hRb hYm10 rfl
      have hV12 : zV Ym10 := zV_o hV hYm10 rfl
      have hG13 := yFr_o hG hYm10 rfl (.inr rfl) rfl
      replace hM := zE_n hM (by first | (have q1 := zhx q1; have q2 := zhx q2; have q6 := zhx q6; have q7 := zhx q7; omega) | (simp only [zhx q1, zhx q2, zhx q6, zhx q7] at h3 h8 ⊢ <;> omega))
      replace hM := zE_n hM (by first | (have q1 := zhx q1; have q2 := zhx q2; have q6 := zhx q6; have q7 := zhx q7; omega) | (simp only [zhx q1, zhx q2, zhx q6, zhx q7] at h3 h8 ⊢ <;> omega))
      obtain ⟨Ym14, hYm14, hM⟩ := zl_x hM
      have hR15 : zRx [] 0 Z Ym14 := zRx_o hR11 hYm14 rfl
      have hV16 : zV Ym14 := zV_o hV12 hYm14 rfl
      have hG17 := yFr_o hG13 hYm14 rfl (.inr rfl) rfl
      replace hM := zE_p hM (by first | (have q1 := zhx q1; have q2 := zhx q2; have q6 := zhx q6; have q7 := zhx q7; omega) | (simp only [zhx q1, zhx q2, zhx q6, zhx q7] at h3 h8 ⊢ <;> omega))
      have th9 := (zu_at hYm14)
      have q18 := zhd (congrArg (Ym14 2 0 0) (show (2010 + 16 * a1 + 3) = 2013 + 16 * a1 from (by first | (omega) | (have q1 := zhx q1; have q2 := zhx q2; have q6 := zhx q6; have q7 := zhx q7; omega))))
      have q19 := zhd (((zu_ne (k' := 2) (b' := 0) (i' := 0) (j' := 2013 + 16 * a1) hYm14 (fun q => absurd q.1 (by decide))).trans (zu_ne (k' := 2) (b' := 0) (i' := 0) (j' := 2013 + 16 * a1) hYm10 (fun q => absurd q.1 (by decide)))))
      obtain rfl : C = _ := hC
      obtain rfl : M = _ := hM
      exact ⟨zRx_1 hR15, hV16, ⟨Z, _, .inl ⟨rfl, yFr_w hG17 (by decide)⟩, zFc_r, yFr_r⟩, zThr_a th9 (by first | rfl | (have q1 := zhx q1; have q2 := zhx q2; have q6 := zhx q6; have q7 := zhx q7; have q9 := zhx q9; have q18 := zhx q18; have q19 := zhx q19; omega) | (simp only [zhx q1, zhx q2, zhx q6, zhx q7, zhx q9, zhx q18, zhx q19] <;> omega) | (have q1 := zhx q1; have q2 := zhx q2; have q6 := zhx q6; have q7 := zhx q7; have q9 := zhx q9; have q18 := zhx q18; have q19 := zhx q19; refine w3z ?_ ?_ ?_ <;> omega) | (have q1 := zhx q1; have q2 := zhx q2; have q6 := zhx q6; have q7 := zhx q7; have q9 := zhx q9; have q18 := zhx q18; have q19 := zhx q19; refine w3y ?_ ?_ ?_ <;> omega) | (have q1 := zhx q1; have q2 := zhx q2; have q6 := zhx q6; have q7 := zhx q7; have q9 := zhx q9; have q18 := zhx q18; have q19 := zhx q19; refine z2o ?_ ?_ ?_ <;> omega))⟩
    · replace g4 := zE_p g4 (by first | (have q1 := zhx q1; have q2 := zhx q2; have q6 := zhx q6; have q7 := zhx q7; omega) | (simp only [zhx q1, zhx q2, zhx q6, zhx q7] at h3 h8 ⊢ <;> omega))
      have q20 := zhd ((zRl_47_3 (x := a1) (a := 2013 + 16 * a1) hRa (by first | (omega) | (have q1 := zhx q1; have q2 := zhx q2; have q6 := zhx q6; have q7 := zhx q7; omega)) (by first | (omega) | (have q1 := zhx q1; have q2 := zhx q2; have q6 := zhx q6; have q7 := zhx q7; omega)) (by first | (omega) | (have q1 := zhx q1; have q2 := zhx q2; have q6 := zhx q6; have q7 := zhx q7; omega))))
      have e9 : (Z 47 0 a1 3) = v5 := Eq.symm g4
      subst e9
      replace hM := zE_n hM (by first | (have q1 := zhx q1; have q2 := zhx q2; have q6 := zhx q6; have q7 := zhx q7; omega) | (simp only [zhx q1, zhx q2, zhx q6, zhx q7] at h3 h8 ⊢ <;> omega))
      replace hM := zE_n hM (by first | (have q1 := zhx q1; have q2 := zhx q2; have q6 := zhx q6; have q7 := zhx q7; omega) | (simp only [zhx q1, zhx q2, zhx q6, zhx q7] at h3 h8 ⊢ <;> omega))
      obtain ⟨Ym21, hYm21, hM⟩ := zl_x hM
      have hR22 : zRx [] 0 Z Ym21 := zRx_o hRb hYm21 rfl
      have hV23 : zV Ym21 := zV_o hV hYm21 rfl
      have hG24 := yFr_o hG hYm21 rfl (.inr rfl) rfl
      replace hM := zE_n hM (by first | (have q1 := zhx q1; have q2 := zhx q2; have q6 := zhx q6; have q7 := zhx q7; omega) | (simp only [zhx q1, zhx q2, zhx q6, zhx q7] at h3 h8 ⊢ <;> omega))
      replace hM := zE_n hM (by first | (have q1 := zhx q1; have q2 := zhx q2; have q6 := zhx q6; have q7 := zhx q7; omega) | (simp only [zhx q1, zhx q2, zhx q6, zhx q7] at h3 h8 ⊢ <;> omega))
      obtain ⟨Ym25, hYm25, hM⟩ := zl_x hM
      have hR26 : zRx [] 0 Z Ym25 := zRx_o hR22 hYm25 rfl
      have hV27 : zV Ym25 := zV_o hV23 hYm25 rfl
      have hG28 := yFr_o hG24 hYm25 rfl (.inr rfl) rfl
      replace hM := zE_p hM (by first | (have q1 := zhx q1; have q2 := zhx q2; have q6 := zhx q6; have q7 := zhx q7; omega) | (simp only [zhx q1, zhx q2, zhx q6, zhx q7] at h3 h8 ⊢ <;> omega))
      have th9 := (zu_at hYm25)
      have q29 := zhd (congrArg (Ym25 2 0 0) (show (2010 + 16 * a1 + 3) = 2013 + 16 * a1 from (by first | (omega) | (have q1 := zhx q1; have q2 := zhx q2; have q6 := zhx q6; have q7 := zhx q7; omega))))
      have q30 := zhd (((zu_ne (k' := 2) (b' := 0) (i' := 0) (j' := 2013 + 16 * a1) hYm25 (fun q => absurd q.1 (by decide))).trans (zu_ne (k' := 2) (b' := 0) (i' := 0) (j' := 2013 + 16 * a1) hYm21 (fun q => absurd q.1 (by decide)))))
      obtain rfl : C = _ := hC
      obtain rfl : M = _ := hM
      exact ⟨zRx_1 hR26, hV27, ⟨Z, _, .inl ⟨rfl, yFr_w hG28 (by decide)⟩, zFc_r, yFr_r⟩, zThr_a th9 (by first | rfl | (have q1 := zhx q1; have q2 := zhx q2; have q6 := zhx q6; have q7 := zhx q7; have q20 := zhx q20; have q29 := zhx q29; have q30 := zhx q30; omega) | (simp only [zhx q1, zhx q2, zhx q6, zhx q7, zhx q20, zhx q29, zhx q30] <;> omega) | (have q1 := zhx q1; have q2 := zhx q2; have q6 := zhx q6; have q7 := zhx q7; have q20 := zhx q20; have q29 := zhx q29; have q30 := zhx q30; refine w3z ?_ ?_ ?_ <;> omega) | (have q1 := zhx q1; have q2 := zhx q2; have q6 := zhx q6; have q7 := zhx q7; have q20 := zhx q20; have q29 := zhx q29; have q30 := zhx q30; refine w3y ?_ ?_ ?_ <;> omega) | (have q1 := zhx q1; have q2 := zhx q2; have q6 := zhx q6; have q7 := zhx q7; have q20 := zhx q20; have q29 := zhx q29; have q30 := zhx q30; refine z2o ?_ ?_ ?_ <;> omega))⟩
  · rcases zE_c hM with ⟨h31, hM⟩ | ⟨h31, hM⟩
    · obtain ⟨Ym32, hYm32, hM⟩ := zl_x hM
      have hR33 : zRx [] 0 Z Ym32 := zRx_o hRb hYm32 rfl
      have hV34 : zV Ym32 := zV_o hV hYm32 rfl
      have hG35 := yFr_o hG hYm32 rfl (.inr rfl) rfl
      have th9 := (zu_at hYm32)
      obtain rfl : C = _ := hC
      obtain rfl : M = _ := hM
      exact ⟨zRx_1 hR33, hV34, ⟨Z, _, .inl ⟨rfl, yFr_w hG35 (by decide)⟩, zFc_r, yFr_r⟩, zThr_e th9 (by decide)⟩
    · rcases zE_c hM with ⟨h36, hM⟩ | ⟨h36, hM⟩
      · obtain ⟨Ym37, hYm37, hM⟩ := zl_x hM
        have hR38 : zRx [] 0 Z Ym37 := zRx_o hRb hYm37 rfl
        have hV39 : zV Ym37 := zV_o hV hYm37 rfl
        have hG40 := yFr_o hG hYm37 rfl (.inr rfl) rfl
        have th9 := (zu_at hYm37)
        obtain rfl : C = _ := hC
        obtain rfl : M = _ := hM
        exact ⟨zRx_1 hR38, hV39, ⟨Z, _, .inl ⟨rfl, yFr_w hG40 (by decide)⟩, zFc_r, yFr_r⟩, zThr_e th9 (by decide)⟩
      · obtain ⟨Ym41, hYm41, hM⟩ := zl_x hM
        have hR42 : zRx [] 0 Z Ym41 := zRx_o hRb hYm41 rfl
        have hV43 : zV Ym41 := zV_o hV hYm41 rfl
        have hG44 := yFr_o hG hYm41 rfl (.inr rfl) rfl
        replace hM := zE_n hM (by first | (have q1 := zhx q1; have q2 := zhx q2; omega) | (simp only [zhx q1, zhx q2] at h3 h31 h36 ⊢ <;> omega))
        replace hM := zE_n hM (by first | (have q1 := zhx q1; have q2 := zhx q2; omega) | (simp only [zhx q1, zhx q2] at h3 h31 h36 ⊢ <;> omega))
        obtain ⟨Ym45, hYm45, hM⟩ := zl_x hM
        have hR46 : zRx [] 0 Z Ym45 := zRx_o hR42 hYm45 rfl
        have hV47 : zV Ym45 := zV_o hV43 hYm45 rfl
        have hG48 := yFr_o hG44 hYm45 rfl (.inr rfl) rfl
        replace hM := zE_p hM (by first | (have q1 := zhx q1; have q2 := zhx q2; omega) | (simp only [zhx q1, zhx q2] at h3 h31 h36 ⊢ <;> omega))
        exact False.elim (by have q1 := zhx q1; have q2 := zhx q2; first | omega | grind)

/- face parcel_4 -/
theorem rf_parcel_4 {Z Y : qz_Z} {dm : qz_Z → Int → Int → Int → Int → Int → Int → Int → qz_Z} {a1 : Int} (hRa : zR 0 Z Y) (hV : zV Y) (hI : zI none Z) (hd : zDf dm) (hD1 : zD1 0 Z Y) (hD4 : zD4 0 Z Y) (hN1 : zN1 Y) (hN4 : zN4 Y) (hDs : zDs 0 Z Y) (hDw : zDw 0 Z Y) (hDl : zDl 0 Z Y)  {C : qz_Z × Int × Int} {M : qz_Z × Int} (hC : zE C (zx_226 Z a1 4)) (hM : zE M (zy_449 Y a1 4)) : zR 0 C.1 M.1 ∧ zV M.1 ∧ zDd [] [99999] Z Y dm C.1 M.1 ∧ zThr [(24, 1), (13, 2)] C.2 (M.1 1 0 0 2) M.2 := by
  have hRb := zRx_0 hRa
  have hF : zFc [] 0 Z Z := zFc_r
  have hG : yFr [99999] Y Y := yFr_r
  unfold zx_226 at hC
  unfold zy_449 at hM
  have q1 := zhd (zVr_11_6 (a := 2000) hV (by omega))
  have q2 := zhd ((zRl_11_6 (a := 2000) hRa (by omega)))
  rcases zE_c hC with ⟨h3, hC⟩ | ⟨h3, hC⟩
  · replace hC := zE_p hC (by first | (have q1 := zhx q1; have q2 := zhx q2; omega) | (simp only [zhx q1, zhx q2] at h3 ⊢ <;> omega))
    obtain ⟨v5, g4, hC⟩ := zl_x hC
    replace g4 : zE _ _ := g4
    unfold zf_36 at g4
    have q6 := zhd (zVr_47_9 (x := a1) (a := 2019 + 16 * a1) hV (by have q1 := zhx q1; have q2 := zhx q2; omega) (by have q1 := zhx q1; have q2 := zhx q2; omega) (by have q1 := zhx q1; have q2 := zhx q2; omega))
    have q7 := zhd ((zRl_47_9 (x := a1) (a := 2019 + 16 * a1) hRa (by have q1 := zhx q1; have q2 := zhx q2; omega) (by have q1 := zhx q1; have q2 := zhx q2; omega) (by have q1 := zhx q1; have q2 := zhx q2; omega)))
    rcases zE_c g4 with ⟨h8, g4⟩ | ⟨h8, g4⟩
    · replace g4 := zE_p g4 (by first | (have q1 := zhx q1; have q2 := zhx q2; have q6 := zhx q6; have q7 := zhx q7; omega) | (simp only [zhx q1, zhx q2, zhx q6, zhx q7] at h3 h8 ⊢ <;> omega))
      have q9 := zhd ((zRl_47_4 (x := a1) (a := 2014 + 16 * a1) hRa (by first | (omega) | (have q1 := zhx q1; have q2 := zhx q2; have q6 := zhx q6; have q7 := zhx q7; omega)) (by first | (omega) | (have q1 := zhx q1; have q2 := zhx q2; have q6 := zhx q6; have q7 := zhx q7; omega)) (by first | (omega) | (have q1 := zhx q1; have q2 := zhx q2; have q6 := zhx q6; have q7 := zhx q7; omega))))
      have e9 : (Z 47 0 a1 4) = v5 := Eq.symm g4
      subst e9
      replace hM := zE_n hM (by first | (have q1 := zhx q1; have q2 := zhx q2; have q6 := zhx q6; have q7 := zhx q7; omega) | (simp only [zhx q1, zhx q2, zhx q6, zhx q7] at h3 h8 ⊢ <;> omega))
      replace hM := zE_n hM (by first | (have q1 := zhx q1; have q2 := zhx q2; have q6 := zhx q6; have q7 := zhx q7; omega) | (simp only [zhx q1, zhx q2, zhx q6, zhx q7] at h3 h8 ⊢ <;> omega))
      obtain ⟨Ym10, hYm10, hM⟩ := zl_x hM
      have hR11 : zRx [] 0 Z Ym10 := zRx_o hRb hYm10 rfl
      have hV12 : zV Ym10 := zV_o hV hYm10 rfl
      have hG13 := yFr_o hG hYm10 rfl (.inr rfl) rfl
      replace hM := zE_n hM (by first | (have q1 := zhx q1; have q2 := zhx q2; have q6 := zhx q6; have q7 := zhx q7; omega) | (simp only [zhx q1, zhx q2, zhx q6, zhx q7] at h3 h8 ⊢ <;> omega))
      replace hM := zE_n hM (by first | (have q1 := zhx q1; have q2 := zhx q2; have q6 := zhx q6; have q7 := zhx q7; omega) | (simp only [zhx q1, zhx q2, zhx q6, zhx q7] at h3 h8 ⊢ <;> omega))
      obtain ⟨Ym14, hYm14, hM⟩ := zl_x hM
      have hR15 : zRx [] 0 Z Ym14 := zRx_o hR11 hYm14 rfl
      have hV16 : zV Ym14 := zV_o hV12 hYm14 rfl
      have hG17 := yFr_o hG13 hYm14 rfl (.inr rfl) rfl
      replace hM := zE_p hM (by first | (have q1 := zhx q1; have q2 := zhx q2; have q6 := zhx q6; have q7 := zhx q7; omega) | (simp only [zhx q1, zhx q2, zhx q6, zhx q7] at h3 h8 ⊢ <;> omega))
      have th9 := (zu_at hYm14)
      have q18 := zhd (congrArg (Ym14 2 0 0) (show (2010 + 16 * a1 + 4) = 2014 + 16 * a1 from (by first | (omega) | (have q1 := zhx q1; have q2 := zhx q2; have q6 := zhx q6; have q7 := zhx q7; omega))))
      have q19 := zhd (((zu_ne (k' := 2) (b' := 0) (i' := 0) (j' := 2014 + 16 * a1) hYm14 (fun q => absurd q.1 (by decide))).trans (zu_ne (k' := 2) (b' := 0) (i' := 0) (j' := 2014 + 16 * a1) hYm10 (fun q => absurd q.1 (by decide)))))
      obtain rfl : C = _ := hC
      obtain rfl : M = _ := hM
      exact ⟨zRx_1 hR15, hV16, ⟨Z, _, .inl ⟨rfl, yFr_w hG17 (by decide)⟩, zFc_r, yFr_r⟩, zThr_a th9 (by first | rfl | (have q1 := zhx q1; have q2 := zhx q2; have q6 := zhx q6; have q7 := zhx q7; have q9 := zhx q9; have q18 := zhx q18; have q19 := zhx q19; omega) | (simp only [zhx q1, zhx q2, zhx q6, zhx q7, zhx q9, zhx q18, zhx q19] <;> omega) | (have q1 := zhx q1; have q2 := zhx q2; have q6 := zhx q6; have q7 := zhx q7; have q9 := zhx q9; have q18 := zhx q18; have q19 := zhx q19; refine w3z ?_ ?_ ?_ <;> omega) | (have q1 := zhx q1; have q2 := zhx q2; have q6 := zhx q6; have q7 := zhx q7; have q9 := zhx q9; have q18 := zhx q18; have q19 := zhx q19; refine w3y ?_ ?_ ?_ <;> omega) | (have q1 := zhx q1; have q2 := zhx q2; have q6 := zhx q6; have q7 := zhx q7; have q9 := zhx q9; have q18 := zhx q18; have q19 := zhx q19; refine z2o ?_ ?_ ?_ <;> omega))⟩
    · replace g4 := zE_p g4 (by first | (have q1 := zhx q1; have q2 := zhx q2; have q6 := zhx q6; have q7 := zhx q7; omega) | (simp only [zhx q1, zhx q2, zhx q6, zhx q7] at h3 h8 ⊢ <;> omega))
      have q20 := zhd ((zRl_47_4 (x := a1) (a := 2014 + 16 * a1) hRa (by first | (omega) | (have q1 := zhx q1; have q2 := zhx q2; have q6 := zhx q6; have q7 := zhx q7; omega)) (by first | (omega) | (have q1 := zhx q1; have q2 := zhx q2; have q6 := zhx q6; have q7 := zhx q7; omega)) (by first | (omega) | (have q1 := zhx q1; have q2 := zhx q2; have q6 := zhx q6; have q7 := zhx q7; omega))))
      have e9 : (Z 47 0 a1 4) = v5 := Eq.symm g4
      subst e9
      replace hM := zE_n hM (by first | (have q1 := zhx q1; have q2 := zhx q2; have q6 := zhx q6; have q7 := zhx q7; omega) | (simp only [zhx q1, zhx q2, zhx q6, zhx q7] at h3 h8 ⊢ <;> omega))
      replace hM := zE_n hM (by first | (have q1 := zhx q1; have q2 := zhx q2; have q6 := zhx q6; have q7 := zhx q7; omega) | (simp only [zhx q1, zhx q2, zhx q6, zhx q7] at h3 h8 ⊢ <;> omega))
      obtain ⟨Ym21, hYm21, hM⟩ := zl_x hM
      have hR22 : zRx [] 0 Z Ym21 := zRx_o hRb hYm21 rfl
      have hV23 : zV Ym21 := zV_o hV hYm21 rfl
      have hG24 := yFr_o hG hYm21 rfl (.inr rfl) rfl
      replace hM := zE_n hM (by first | (have q1 := zhx q1; have q2 := zhx q2; have q6 := zhx q6; have q7 := zhx q7; omega) | (simp only [zhx q1, zhx q2, zhx q6, zhx q7] at h3 h8 ⊢ <;> omega))
      replace hM := zE_n hM (by first | (have q1 := zhx q1; have q2 := zhx q2; have q6 := zhx q6; have q7 := zhx q7; omega) | (simp only [zhx q1, zhx q2, zhx q6, zhx q7] at h3 h8 ⊢ <;> omega))
      obtain ⟨Ym25, hYm25, hM⟩ := zl_x hM
      have hR26 : zRx [] 0 Z Ym25 := zRx_o hR22 hYm25 rfl
      have hV27 : zV Ym25 := zV_o hV23 hYm25 rfl
      have hG28 := yFr_o hG24 hYm25 rfl (.inr rfl) rfl
      replace hM := zE_p hM (by first | (have q1 := zhx q1; have q2 := zhx q2; have q6 := zhx q6; have q7 := zhx q7; omega) | (simp only [zhx q1, zhx q2, zhx q6, zhx q7] at h3 h8 ⊢ <;> omega))
      have th9 := (zu_at hYm25)
      have q29 := zhd (congrArg (Ym25 2 0 0) (show (2010 + 16 * a1 + 4) = 2014 + 16 * a1 from (by first | (omega) | (have q1 := zhx q1; have q2 := zhx q2; have q6 := zhx q6; have q7 := zhx q7; omega))))
      have q30 := zhd (((zu_ne (k' := 2) (b' := 0) (i' := 0) (j' := 2014 + 16 * a1) hYm25 (fun q => absurd q.1 (by decide))).trans (zu_ne (k' := 2) (b' := 0) (i' := 0) (j' := 2014 + 16 * a1) hYm21 (fun q => absurd q.1 (by decide)))))
      obtain rfl : C = _ := hC
      obtain rfl : M = _ := hM
      exact ⟨zRx_1 hR26, hV27, ⟨Z, _, .inl ⟨rfl, yFr_w hG28 (by decide)⟩, zFc_r, yFr_r⟩, zThr_a th9 (by first | rfl | (have q1 := zhx q1; have q2 := zhx q2; have q6 := zhx q6; have q7 := zhx q7; have q20 := zhx q20; have q29 := zhx q29; have q30 := zhx q30; omega) | (simp only [zhx q1, zhx q2, zhx q6, zhx q7, zhx q20, zhx q29, zhx q30] <;> omega) | (have q1 := zhx q1; have q2 := zhx q2; have q6 := zhx q6; have q7 := zhx q7; have q20 := zhx q20; have q29 := zhx q29; have q30 := zhx q30; refine w3z ?_ ?_ ?_ <;> omega) | (have q1 := zhx q1; have q2 := zhx q2; have q6 := zhx q6; have q7 := zhx q7; have q20 := zhx q20; have q29 := zhx q29; have q30 := zhx q30; refine w3y ?_ ?_ ?_ <;> omega) | (have q1 := zhx q1; have q2 := zhx q2; have q6 := zhx q6; have q7 := zhx q7; have q20 := zhx q20; have q29 := zhx q29; have q30 := zhx q30; refine z2o ?_ ?_ ?_ <;> omega))⟩
  · rcases zE_c hM with ⟨h31, hM⟩ | ⟨h31, hM⟩
    · obtain ⟨Ym32, hYm32, hM⟩ := zl_x hM
      have hR33 : zRx [] 0 Z Ym32 := zRx_o hRb hYm32 rfl
      have hV34 : zV Ym32 := zV_o hV hYm32 rfl
      have hG35 := yFr_o hG hYm32 rfl (.inr rfl) rfl
      have th9 := (zu_at hYm32)
      obtain rfl : C = _ := hC
      obtain rfl : M = _ := hM
      exact ⟨zRx_1 hR33, hV34, ⟨Z, _, .inl ⟨rfl, yFr_w hG35 (by decide)⟩, zFc_r, yFr_r⟩, zThr_e th9 (by decide)⟩
    · rcases zE_c hM with ⟨h36, hM⟩ | ⟨h36, hM⟩
      · obtain ⟨Ym37, hYm37, hM⟩ := zl_x hM
        have hR38 : zRx [] 0 Z Ym37 := zRx_o hRb hYm37 rfl
        have hV39 : zV Ym37 := zV_o hV hYm37 rfl
        have hG40 := yFr_o hG hYm37 rfl (.inr rfl) rfl
        have th9 := (zu_at hYm37)
        obtain rfl : C = _ := hC
        obtain rfl : M = _ := hM
        exact ⟨zRx_1 hR38, hV39, ⟨Z, _, .inl ⟨rfl, yFr_w hG40 (by decide)⟩, zFc_r, yFr_r⟩, zThr_e th9 (by decide)⟩
      · obtain ⟨Ym41, hYm41, hM⟩ := zl_x hM
        have hR42 : zRx [] 0 Z Ym41 := zRx_o hRb hYm41 rfl
        have hV43 : zV Ym41 := zV_o hV hYm41 rfl
        have hG44 := yFr_o hG hYm41 rfl (.inr rfl) rfl
        replace hM := zE_n hM (by first | (have q1 := zhx q1; have q2 := zhx q2; omega) | (simp only [zhx q1, zhx q2] at h3 h31 h36 ⊢ <;> omega))
        replace hM := zE_n hM (by first | (have q1 := zhx q1; have q2 := zhx q2; omega) | (simp only [zhx q1, zhx q2] at h3 h31 h36 ⊢ <;> omega))
        obtain ⟨Ym45, hYm45, hM⟩ := zl_x hM
        have hR46 : zRx [] 0 Z Ym45 := zRx_o hR42 hYm45 rfl
        have hV47 : zV Ym45 := zV_o hV43 hYm45 rfl
        have hG48 := yFr_o hG44 hYm45 rfl (.inr rfl) rfl
        replace hM := zE_p hM (by first | (have q1 := zhx q1; have q2 := zhx q2; omega) | (simp only [zhx q1, zhx q2] at h3 h31 h36 ⊢ <;> omega))
        exact False.elim (by have q1 := zhx q1; have q2 := zhx q2; first | omega | grind)

/- face parcel_5 -/
theorem rf_parcel_5 {Z Y : qz_Z} {dm : qz_Z → Int → Int → Int → Int → Int → Int → Int → qz_Z} {a1 : Int} (hRa : zR 0 Z Y) (hV : zV Y) (hI : zI none Z) (hd : zDf dm) (hD1 : zD1 0 Z Y) (hD4 : zD4 0 Z Y) (hN1 : zN1 Y) (hN4 : zN4 Y) (hDs : zDs 0 Z Y) (hDw : zDw 0 Z Y) (hDl : zDl 0 Z Y)  {C : qz_Z × Int × Int} {M : qz_Z × Int} (hC : zE C (zx_226 Z a1 5)) (hM : zE M (zy_449 Y a1 5)) : zR 0 C.1 M.1 ∧ zV M.1 ∧ zDd [] [99999] Z Y dm C.1 M.1 ∧ zThr [(24, 1), (13, 2)] C.2 (M.1 1 0 0 2) M.2 := by
  have hRb := zRx_0 hRa
  have hF : zFc [] 0 Z Z := zFc_r
  have hG : yFr [99999] Y Y := yFr_r
  unfold zx_226 at hC
  unfold zy_449 at hM
  have q1 := zhd (zVr_11_6 (a := 2000) hV (by omega))
  have q2 := zhd ((zRl_11_6 (a := 2000) hRa (by omega)))
  rcases zE_c hC with ⟨h3, hC⟩ | ⟨h3, hC⟩
  · replace hC := zE_p hC (by first | (have q1 := zhx q1; have q2 := zhx q2; omega) | (simp only [zhx q1, zhx q2] at h3 ⊢ <;> omega))
    obtain ⟨v5, g4, hC⟩ := zl_x hC
    replace g4 : zE _ _ := g4
    unfold zf_36 at g4
    have q6 := zhd (zVr_47_9 (x := a1) (a := 2019 + 16 * a1) hV (by have q1 := zhx q1; have q2 := zhx q2; omega) (by have q1 := zhx q1; have q2 := zhx q2; omega) (by have q1 := zhx q1; have q2 := zhx q2; omega))
    have q7 := zhd ((zRl_47_9 (x := a1) (a := 2019 + 16 * a1) hRa (by have q1 := zhx q1; have q2 := zhx q2; omega) (by have q1 := zhx q1; have q2 := zhx q2; omega) (by have q1 := zhx q1; have q2 := zhx q2; omega)))
    rcases zE_c g4 with ⟨h8, g4⟩ | ⟨h8, g4⟩
    · replace g4 := zE_p g4 (by first | (have q1 := zhx q1; have q2 := zhx q2; have q6 := zhx q6; have q7 := zhx q7; omega) | (simp only [zhx q1, zhx q2, zhx q6, zhx q7] at h3 h8 ⊢ <;> omega))
      have q9 := zhd ((zRl_47_5 (x := a1) (a := 2015 + 16 * a1) hRa (by first | (omega) | (have q1 := zhx q1; have q2 := zhx q2; have q6 := zhx q6; have q7 := zhx q7; omega)) (by first | (omega) | (have q1 := zhx q1; have q2 := zhx q2; have q6 := zhx q6; have q7 := zhx q7; omega)) (by first | (omega) | (have q1 := zhx q1; have q2 := zhx q2; have q6 := zhx q6; have q7 := zhx q7; omega))))
      have e9 : (Z 47 0 a1 5) = v5 := Eq.symm g4
      subst e9
      replace hM := zE_n hM (by first | (have q1 := zhx q1; have q2 := zhx q2; have q6 := zhx q6; have q7 := zhx q7; omega) | (simp only [zhx q1, zhx q2, zhx q6, zhx q7] at h3 h8 ⊢ <;> omega))
      replace hM := zE_n hM (by first | (have q1 := zhx q1; have q2 := zhx q2; have q6 := zhx q6; have q7 := zhx q7; omega) | (simp only [zhx q1, zhx q2, zhx q6, zhx q7] at h3 h8 ⊢ <;> omega))
      obtain ⟨Ym10, hYm10, hM⟩ := zl_x hM
      have hR11 : zRx [] 0 Z Ym10 := zRx_o hRb hYm10 rfl
      have hV12 : zV Ym10 := zV_o hV hYm10 rfl
      have hG13 := yFr_o hG hYm10 rfl (.inr rfl) rfl
      replace hM := zE_n hM (by first | (have q1 := zhx q1; have q2 := zhx q2; have q6 := zhx q6; have q7 := zhx q7; omega) | (simp only [zhx q1, zhx q2, zhx q6, zhx q7] at h3 h8 ⊢ <;> omega))
      replace hM := zE_n hM (by first | (have q1 := zhx q1; have q2 := zhx q2; have q6 := zhx q6; have q7 := zhx q7; omega) | (simp only [zhx q1, zhx q2, zhx q6, zhx q7] at h3 h8 ⊢ <;> omega))
      obtain ⟨Ym14, hYm14, hM⟩ := zl_x hM
      have hR15 : zRx [] 0 Z Ym14 := zRx_o hR11 hYm14 rfl
      have hV16 : zV Ym14 := zV_o hV12 hYm14 rfl
      have hG17 := yFr_o hG13 hYm14 rfl (.inr rfl) rfl
      replace hM := zE_p hM (by first | (have q1 := zhx q1; have q2 := zhx q2; have q6 := zhx q6; have q7 := zhx q7; omega) | (simp only [zhx q1, zhx q2, zhx q6, zhx q7] at h3 h8 ⊢ <;> omega))
      have th9 := (zu_at hYm14)
      have q18 := zhd (congrArg (Ym14 2 0 0) (show (2010 + 16 * a1 + 5) = 2015 + 16 * a1 from (by first | (omega) | (have q1 := zhx q1; have q2 := zhx q2; have q6 := zhx q6; have q7 := zhx q7; omega))))
      have q19 := zhd (((zu_ne (k' := 2) (b' := 0) (i' := 0) (j' := 2015 + 16 * a1) hYm14 (fun q => absurd q.1 (by decide))).trans (zu_ne (k' := 2) (b' := 0) (i' := 0) (j' := 2015 + 16 * a1) hYm10 (fun q => absurd q.1 (by decide)))))
      obtain rfl : C = _ := hC
      obtain rfl : M = _ := hM
      exact ⟨zRx_1 hR15, hV16, ⟨Z, _, .inl ⟨rfl, yFr_w hG17 (by decide)⟩, zFc_r, yFr_r⟩, zThr_a th9 (by first | rfl | (have q1 := zhx q1; have q2 := zhx q2; have q6 := zhx q6; have q7 := zhx q7; have q9 := zhx q9; have q18 := zhx q18; have q19 := zhx q19; omega) | (simp only [zhx q1, zhx q2, zhx q6, zhx q7, zhx q9, zhx q18, zhx q19] <;> omega) | (have q1 := zhx q1; have q2 := zhx q2; have q6 := zhx q6; have q7 := zhx q7; have q9 := zhx q9; have q18 := zhx q18; have q19 := zhx q19; refine w3z ?_ ?_ ?_ <;> omega) | (have q1 := zhx q1; have q2 := zhx q2; have q6 := zhx q6; have q7 := zhx q7; have q9 := zhx q9; have q18 := zhx q18; have q19 := zhx q19; refine w3y ?_ ?_ ?_ <;> omega) | (have q1 := zhx q1; have q2 := zhx q2; have q6 := zhx q6; have q7 := zhx q7; have q9 := zhx q9; have q18 := zhx q18; have q19 := zhx q19; refine z2o ?_ ?_ ?_ <;> omega))⟩
    · replace g4 := zE_p g4 (by first | (have q1 := zhx q1; have q2 := zhx q2; have q6 := zhx q6; have q7 := zhx q7; omega) | (simp only [zhx q1, zhx q2, zhx q6, zhx q7] at h3 h8 ⊢ <;> omega))
      have q20 := zhd ((zRl_47_5 (x := a1) (a := 2015 + 16 * a1) hRa (by first | (omega) | (have q1 := zhx q1; have q2 := zhx q2; have q6 := zhx q6; have q7 := zhx q7; omega)) (by first | (omega) | (have q1 := zhx q1; have q2 := zhx q2; have q6 := zhx q6; have q7 := zhx q7; omega)) (by first | (omega) | (have q1 := zhx q1; have q2 := zhx q2; have q6 := zhx q6; have q7 := zhx q7; omega))))
      have e9 : (Z 47 0 a1 5) = v5 := Eq.symm g4
      subst e9
      replace hM := zE_n hM (by first | (have q1 := zhx q1; have q2 := zhx q2; have q6 := zhx q6; have q7 := zhx q7; omega) | (simp only [zhx q1, zhx q2, zhx q6, zhx q7] at h3 h8 ⊢ <;> omega))
      replace hM := zE_n hM (by first | (have q1 := zhx q1; have q2 := zhx q2; have q6 := zhx q6; have q7 := zhx q7; omega) | (simp only [zhx q1, zhx q2, zhx q6, zhx q7] at h3 h8 ⊢ <;> omega))
      obtain ⟨Ym21, hYm21, hM⟩ := zl_x hM
      have hR22 : zRx [] 0 Z Ym21 := zRx_o hRb hYm21 rfl
      have hV23 : zV Ym21 := zV_o hV hYm21 rfl
      have hG24 := yFr_o hG hYm21 rfl (.inr rfl) rfl
      replace hM := zE_n hM (by first | (have q1 := zhx q1; have q2 := zhx q2; have q6 := zhx q6; have q7 := zhx q7; omega) | (simp only [zhx q1, zhx q2, zhx q6, zhx q7] at h3 h8 ⊢ <;> omega))
      replace hM := zE_n hM (by first | (have q1 := zhx q1; have q2 := zhx q2; have q6 := zhx q6; have q7 := zhx q7; omega) | (simp only [zhx q1, zhx q2, zhx q6, zhx q7] at h3 h8 ⊢ <;> omega))
      obtain ⟨Ym25, hYm25, hM⟩ := zl_x hM
      have hR26 : zRx [] 0 Z Ym25 := zRx_o hR22 hYm25 rfl
      have hV27 : zV Ym25 := zV_o hV23 hYm25 rfl
      have hG28 := yFr_o hG24 hYm25 rfl (.inr rfl) rfl
      replace hM := zE_p hM (by first | (have q1 := zhx q1; have q2 := zhx q2; have q6 := zhx q6; have q7 := zhx q7; omega) | (simp only [zhx q1, zhx q2, zhx q6, zhx q7] at h3 h8 ⊢ <;> omega))
      have th9 := (zu_at hYm25)
      have q29 := zhd (congrArg (Ym25 2 0 0) (show (2010 + 16 * a1 + 5) = 2015 + 16 * a1 from (by first | (omega) | (have q1 := zhx q1; have q2 := zhx q2; have q6 := zhx q6; have q7 := zhx q7; omega))))
      have q30 := zhd (((zu_ne (k' := 2) (b' := 0) (i' := 0) (j' := 2015 + 16 * a1) hYm25 (fun q => absurd q.1 (by decide))).trans (zu_ne (k' := 2) (b' := 0) (i' := 0) (j' := 2015 + 16 * a1) hYm21 (fun q => absurd q.1 (by decide)))))
      obtain rfl : C = _ := hC
      obtain rfl : M = _ := hM
      exact ⟨zRx_1 hR26, hV27, ⟨Z, _, .inl ⟨rfl, yFr_w hG28 (by decide)⟩, zFc_r, yFr_r⟩, zThr_a th9 (by first | rfl | (have q1 := zhx q1; have q2 := zhx q2; have q6 := zhx q6; have q7 := zhx q7; have q20 := zhx q20; have q29 := zhx q29; have q30 := zhx q30; omega) | (simp only [zhx q1, zhx q2, zhx q6, zhx q7, zhx q20, zhx q29, zhx q30] <;> omega) | (have q1 := zhx q1; have q2 := zhx q2; have q6 := zhx q6; have q7 := zhx q7; have q20 := zhx q20; have q29 := zhx q29; have q30 := zhx q30; refine w3z ?_ ?_ ?_ <;> omega) | (have q1 := zhx q1; have q2 := zhx q2; have q6 := zhx q6; have q7 := zhx q7; have q20 := zhx q20; have q29 := zhx q29; have q30 := zhx q30; refine w3y ?_ ?_ ?_ <;> omega) | (have q1 := zhx q1; have q2 := zhx q2; have q6 := zhx q6; have q7 := zhx q7; have q20 := zhx q20; have q29 := zhx q29; have q30 := zhx q30; refine z2o ?_ ?_ ?_ <;> omega))⟩
  · rcases zE_c hM with ⟨h31, hM⟩ | ⟨h31, hM⟩
    · obtain ⟨Ym32, hYm32, hM⟩ := zl_x hM
      have hR33 : zRx [] 0 Z Ym32 := zRx_o hRb hYm32 rfl
      have hV34 : zV Ym32 := zV_o hV hYm32 rfl
      have hG35 := yFr_o hG hYm32 rfl (.inr rfl) rfl
      have th9 := (zu_at hYm32)
      obtain rfl : C = _ := hC
      obtain rfl : M = _ := hM
      exact ⟨zRx_1 hR33, hV34, ⟨Z, _, .inl ⟨rfl, yFr_w hG35 (by decide)⟩, zFc_r, yFr_r⟩, zThr_e th9 (by decide)⟩
    · rcases zE_c hM with ⟨h36, hM⟩ | ⟨h36, hM⟩
      · obtain ⟨Ym37, hYm37, hM⟩ := zl_x hM
        have hR38 : zRx [] 0 Z Ym37 := zRx_o hRb hYm37 rfl
        have hV39 : zV Ym37 := zV_o hV hYm37 rfl
        have hG40 := yFr_o hG hYm37 rfl (.inr rfl) rfl
        have th9 := (zu_at hYm37)
        obtain rfl : C = _ := hC
        obtain rfl : M = _ := hM
        exact ⟨zRx_1 hR38, hV39, ⟨Z, _, .inl ⟨rfl, yFr_w hG40 (by decide)⟩, zFc_r, yFr_r⟩, zThr_e th9 (by decide)⟩
      · obtain ⟨Ym41, hYm41, hM⟩ := zl_x hM
        have hR42 : zRx [] 0 Z Ym41 := zRx_o hRb hYm41 rfl
        have hV43 : zV Ym41 := zV_o hV hYm41 rfl
        have hG44 := yFr_o hG hYm41 rfl (.inr rfl) rfl
        replace hM := zE_n hM (by first | (have q1 := zhx q1; have q2 := zhx q2; omega) | (simp only [zhx q1, zhx q2] at h3 h31 h36 ⊢ <;> omega))
        replace hM := zE_n hM (by first | (have q1 := zhx q1; have q2 := zhx q2; omega) | (simp only [zhx q1, zhx q2] at h3 h31 h36 ⊢ <;> omega))
        obtain ⟨Ym45, hYm45, hM⟩ := zl_x hM
        have hR46 : zRx [] 0 Z Ym45 := zRx_o hR42 hYm45 rfl
        have hV47 : zV Ym45 := zV_o hV43 hYm45 rfl
        have hG48 := yFr_o hG44 hYm45 rfl (.inr rfl) rfl
        replace hM := zE_p hM (by first | (have q1 := zhx q1; have q2 := zhx q2; omega) | (simp only [zhx q1, zhx q2] at h3 h31 h36 ⊢ <;> omega))
        exact False.elim (by have q1 := zhx q1; have q2 := zhx q2; first | omega | grind)

/- face parcel_6 -/
theorem rf_parcel_6 {Z Y : qz_Z} {dm : qz_Z → Int → Int → Int → Int → Int → Int → Int → qz_Z} {a1 : Int} (hRa : zR 0 Z Y) (hV : zV Y) (hI : zI none Z) (hd : zDf dm) (hD1 : zD1 0 Z Y) (hD4 : zD4 0 Z Y) (hN1 : zN1 Y) (hN4 : zN4 Y) (hDs : zDs 0 Z Y) (hDw : zDw 0 Z Y) (hDl : zDl 0 Z Y)  {C : qz_Z × Int × Int} {M : qz_Z × Int} (hC : zE C (zx_226 Z a1 6)) (hM : zE M (zy_449 Y a1 6)) : zR 0 C.1 M.1 ∧ zV M.1 ∧ zDd [] [99999] Z Y dm C.1 M.1 ∧ zThr [(24, 1), (13, 2)] C.2 (M.1 1 0 0 2) M.2 := by
  have hRb := zRx_0 hRa
  have hF : zFc [] 0 Z Z := zFc_r
  have hG : yFr [99999] Y Y := yFr_r
  unfold zx_226 at hC
  unfold zy_449 at hM
  have q1 := zhd (zVr_11_6 (a := 2000) hV (by omega))
  have q2 := zhd ((zRl_11_6 (a := 2000) hRa (by omega)))
  rcases zE_c hC with ⟨h3, hC⟩ | ⟨h3, hC⟩
  · replace hC := zE_p hC (by first | (have q1 := zhx q1; have q2 := zhx q2; omega) | (simp only [zhx q1, zhx q2] at h3 ⊢ <;> omega))
    obtain ⟨v5, g4, hC⟩ := zl_x hC
    replace g4 : zE _ _ := g4
    unfold zf_36 at g4
    have q6 := zhd (zVr_47_9 (x := a1) (a := 2019 + 16 * a1) hV (by have q1 := zhx q1; have q2 := zhx q2; omega) (by have q1 := zhx q1; have q2 := zhx q2; omega) (by have q1 := zhx q1; have q2 := zhx q2; omega))
    have q7 := zhd ((zRl_47_9 (x := a1) (a := 2019 + 16 * a1) hRa (by have q1 := zhx q1; have q2 := zhx q2; omega) (by have q1 := zhx q1; have q2 := zhx q2; omega) (by have q1 := zhx q1; have q2 := zhx q2; omega)))
    rcases zE_c g4 with ⟨h8, g4⟩ | ⟨h8, g4⟩
    · replace g4 := zE_p g4 (by first | (have q1 := zhx q1; have q2 := zhx q2; have q6 := zhx q6; have q7 := zhx q7; omega) | (simp only [zhx q1, zhx q2, zhx q6, zhx q7] at h3 h8 ⊢ <;> omega))
      have q9 := zhd ((zRl_47_6 (x := a1) (a := 2016 + 16 * a1) hRa (by first | (omega) | (have q1 := zhx q1; have q2 := zhx q2; have q6 := zhx q6; have q7 := zhx q7; omega)) (by first | (omega) | (have q1 := zhx q1; have q2 := zhx q2; have q6 := zhx q6; have q7 := zhx q7; omega)) (by first | (omega) | (have q1 := zhx q1; have q2 := zhx q2; have q6 := zhx q6; have q7 := zhx q7; omega))))
      have e9 : (Z 47 0 a1 6) = v5 := Eq.symm g4
      subst e9
      replace hM := zE_n hM (by first | (have q1 := zhx q1; have q2 := zhx q2; have q6 := zhx q6; have q7 := zhx q7; omega) | (simp only [zhx q1, zhx q2, zhx q6, zhx q7] at h3 h8 ⊢ <;> omega))
      replace hM := zE_n hM (by first | (have q1 := zhx q1; have q2 := zhx q2; have q6 := zhx q6; have q7 := zhx q7; omega) | (simp only [zhx q1, zhx q2, zhx q6, zhx q7] at h3 h8 ⊢ <;> omega))
      obtain ⟨Ym10, hYm10, hM⟩ := zl_x hM
      have hR11 : zRx [] 0 Z Ym10 := zRx_o hRb hYm10 rfl
      have hV12 : zV Ym10 := zV_o hV hYm10 rfl
      have hG13 := yFr_o hG hYm10 rfl (.inr rfl) rfl
      replace hM := zE_n hM (by first | (have q1 := zhx q1; have q2 := zhx q2; have q6 := zhx q6; have q7 := zhx q7; omega) | (simp only [zhx q1, zhx q2, zhx q6, zhx q7] at h3 h8 ⊢ <;> omega))
      replace hM := zE_n hM (by first | (have q1 := zhx q1; have q2 := zhx q2; have q6 := zhx q6; have q7 := zhx q7; omega) | (simp only [zhx q1, zhx q2, zhx q6, zhx q7] at h3 h8 ⊢ <;> omega))
      obtain ⟨Ym14, hYm14, hM⟩ := zl_x hM
      have hR15 : zRx [] 0 Z Ym14 := zRx_o hR11 hYm14 rfl
      have hV16 : zV Ym14 := zV_o hV12 hYm14 rfl
      have hG17 := yFr_o hG13 hYm14 rfl (.inr rfl) rfl
      replace hM := zE_p hM (by first | (have q1 := zhx q1; have q2 := zhx q2; have q6 := zhx q6; have q7 := zhx q7; omega) | (simp only [zhx q1, zhx q2, zhx q6, zhx q7] at h3 h8 ⊢ <;> omega))
      have th9 := (zu_at hYm14)
      have q18 := zhd (congrArg (Ym14 2 0 0) (show (2010 + 16 * a1 + 6) = 2016 + 16 * a1 from (by first | (omega) | (have q1 := zhx q1; have q2 := zhx q2; have q6 := zhx q6; have q7 := zhx q7; omega))))
      have q19 := zhd (((zu_ne (k' := 2) (b' := 0) (i' := 0) (j' := 2016 + 16 * a1) hYm14 (fun q => absurd q.1 (by decide))).trans (zu_ne (k' := 2) (b' := 0) (i' := 0) (j' := 2016 + 16 * a1) hYm10 (fun q => absurd q.1 (by decide)))))
      obtain rfl : C = _ := hC
      obtain rfl : M = _ := hM
      exact ⟨zRx_1 hR15, hV16, ⟨Z, _, .inl ⟨rfl, yFr_w hG17 (by decide)⟩, zFc_r, yFr_r⟩, zThr_a th9 (by first | rfl | (have q1 := zhx q1; have q2 := zhx q2; have q6 := zhx q6; have q7 := zhx q7; have q9 := zhx q9; have q18 := zhx q18; have q19 := zhx q19; omega) | (simp only [zhx q1, zhx q2, zhx q6, zhx q7, zhx q9, zhx q18, zhx q19] <;> omega) | (have q1 := zhx q1; have q2 := zhx q2; have q6 := zhx q6; have q7 := zhx q7; have q9 := zhx q9; have q18 := zhx q18; have q19 := zhx q19; refine w3z ?_ ?_ ?_ <;> omega) | (have q1 := zhx q1; have q2 := zhx q2; have q6 := zhx q6; have q7 := zhx q7; have q9 := zhx q9; have q18 := zhx q18; have q19 := zhx q19; refine w3y ?_ ?_ ?_ <;> omega) | (have q1 := zhx q1; have q2 := zhx q2; have q6 := zhx q6; have q7 := zhx q7; have q9 := zhx q9; have q18 := zhx q18; have q19 := zhx q19; refine z2o ?_ ?_ ?_ <;> omega))⟩
    · replace g4 := zE_p g4 (by first | (have q1 := zhx q1; have q2 := zhx q2; have q6 := zhx q6; have q7 := zhx q7; omega) | (simp only [zhx q1, zhx q2, zhx q6, zhx q7] at h3 h8 ⊢ <;> omega))
      have q20 := zhd ((zRl_47_6 (x := a1) (a := 2016 + 16 * a1) hRa (by first | (omega) | (have q1 := zhx q1; have q2 := zhx q2; have q6 := zhx q6; have q7 := zhx q7; omega)) (by first | (omega) | (have q1 := zhx q1; have q2 := zhx q2; have q6 := zhx q6; have q7 := zhx q7; omega)) (by first | (omega) | (have q1 := zhx q1; have q2 := zhx q2; have q6 := zhx q6; have q7 := zhx q7; omega))))
      have e9 : (Z 47 0 a1 6) = v5 := Eq.symm g4
      subst e9
      replace hM := zE_n hM (by first | (have q1 := zhx q1; have q2 := zhx q2; have q6 := zhx q6; have q7 := zhx q7; omega) | (simp only [zhx q1, zhx q2, zhx q6, zhx q7] at h3 h8 ⊢ <;> omega))
      replace hM := zE_n hM (by first | (have q1 := zhx q1; have q2 := zhx q2; have q6 := zhx q6; have q7 := zhx q7; omega) | (simp only [zhx q1, zhx q2, zhx q6, zhx q7] at h3 h8 ⊢ <;> omega))
      obtain ⟨Ym21, hYm21, hM⟩ := zl_x hM
      have hR22 : zRx [] 0 Z Ym21 := zRx_o hRb hYm21 rfl
      have hV23 : zV Ym21 := zV_o hV hYm21 rfl
      have hG24 := yFr_o hG hYm21 rfl (.inr rfl) rfl
      replace hM := zE_n hM (by first | (have q1 := zhx q1; have q2 := zhx q2; have q6 := zhx q6; have q7 := zhx q7; omega) | (simp only [zhx q1, zhx q2, zhx q6, zhx q7] at h3 h8 ⊢ <;> omega))
      replace hM := zE_n hM (by first | (have q1 := zhx q1; have q2 := zhx q2; have q6 := zhx q6; have q7 := zhx q7; omega) | (simp only [zhx q1, zhx q2, zhx q6, zhx q7] at h3 h8 ⊢ <;> omega))
      obtain ⟨Ym25, hYm25, hM⟩ := zl_x hM
      have hR26 : zRx [] 0 Z Ym25 := zRx_o hR22 hYm25 rfl
      have hV27 : zV Ym25 := zV_o hV23 hYm25 rfl
      have hG28 := yFr_o hG24 hYm25 rfl (.inr rfl) rfl
      replace hM := zE_p hM (by first | (have q1 := zhx q1; have q2 := zhx q2; have q6 := zhx q6; have q7 := zhx q7; omega) | (simp only [zhx q1, zhx q2, zhx q6, zhx q7] at h3 h8 ⊢ <;> omega))
      have th9 := (zu_at hYm25)
      have q29 := zhd (congrArg (Ym25 2 0 0) (show (2010 + 16 * a1 + 6) = 2016 + 16 * a1 from (by first | (omega) | (have q1 := zhx q1; have q2 := zhx q2; have q6 := zhx q6; have q7 := zhx q7; omega))))
      have q30 := zhd (((zu_ne (k' := 2) (b' := 0) (i' := 0) (j' := 2016 + 16 * a1) hYm25 (fun q => absurd q.1 (by decide))).trans (zu_ne (k' := 2) (b' := 0) (i' := 0) (j' := 2016 + 16 * a1) hYm21 (fun q => absurd q.1 (by decide)))))
      obtain rfl : C = _ := hC
      obtain rfl : M = _ := hM
      exact ⟨zRx_1 hR26, hV27, ⟨Z, _, .inl ⟨rfl, yFr_w hG28 (by decide)⟩, zFc_r, yFr_r⟩, zThr_a th9 (by first | rfl | (have q1 := zhx q1; have q2 := zhx q2; have q6 := zhx q6; have q7 := zhx q7; have q20 := zhx q20; have q29 := zhx q29; have q30 := zhx q30; omega) | (simp only [zhx q1, zhx q2, zhx q6, zhx q7, zhx q20, zhx q29, zhx q30] <;> omega) | (have q1 := zhx q1; have q2 := zhx q2; have q6 := zhx q6; have q7 := zhx q7; have q20 := zhx q20; have q29 := zhx q29; have q30 := zhx q30; refine w3z ?_ ?_ ?_ <;> omega) | (have q1 := zhx q1; have q2 := zhx q2; have q6 := zhx q6; have q7 := zhx q7; have q20 := zhx q20; have q29 := zhx q29; have q30 := zhx q30; refine w3y ?_ ?_ ?_ <;> omega) | (have q1 := zhx q1; have q2 := zhx q2; have q6 := zhx q6; have q7 := zhx q7; have q20 := zhx q20; have q29 := zhx q29; have q30 := zhx q30; refine z2o ?_ ?_ ?_ <;> omega))⟩
  · rcases zE_c hM with ⟨h31, hM⟩ | ⟨h31, hM⟩
    · obtain ⟨Ym32, hYm32, hM⟩ := zl_x hM
      have hR33 : zRx [] 0 Z Ym32 := zRx_o hRb hYm32 rfl
      have hV34 : zV Ym32 := zV_o hV hYm32 rfl
      have hG35 := yFr_o hG hYm32 rfl (.inr rfl) rfl
      have th9 := (zu_at hYm32)
      obtain rfl : C = _ := hC
      obtain rfl : M = _ := hM
      exact ⟨zRx_1 hR33, hV34, ⟨Z, _, .inl ⟨rfl, yFr_w hG35 (by decide)⟩, zFc_r, yFr_r⟩, zThr_e th9 (by decide)⟩
    · rcases zE_c hM with ⟨h36, hM⟩ | ⟨h36, hM⟩
      · obtain ⟨Ym37, hYm37, hM⟩ := zl_x hM
        have hR38 : zRx [] 0 Z Ym37 := zRx_o hRb hYm37 rfl
        have hV39 : zV Ym37 := zV_o hV hYm37 rfl
        have hG40 := yFr_o hG hYm37 rfl (.inr rfl) rfl
        have th9 := (zu_at hYm37)
        obtain rfl : C = _ := hC
        obtain rfl : M = _ := hM
        exact ⟨zRx_1 hR38, hV39, ⟨Z, _, .inl ⟨rfl, yFr_w hG40 (by decide)⟩, zFc_r, yFr_r⟩, zThr_e th9 (by decide)⟩
      · obtain ⟨Ym41, hYm41, hM⟩ := zl_x hM
        have hR42 : zRx [] 0 Z Ym41 := zRx_o hRb hYm41 rfl
        have hV43 : zV Ym41 := zV_o hV hYm41 rfl
        have hG44 := yFr_o hG hYm41 rfl (.inr rfl) rfl
        replace hM := zE_n hM (by first | (have q1 := zhx q1; have q2 := zhx q2; omega) | (simp only [zhx q1, zhx q2] at h3 h31 h36 ⊢ <;> omega))
        replace hM := zE_n hM (by first | (have q1 := zhx q1; have q2 := zhx q2; omega) | (simp only [zhx q1, zhx q2] at h3 h31 h36 ⊢ <;> omega))
        obtain ⟨Ym45, hYm45, hM⟩ := zl_x hM
        have hR46 : zRx [] 0 Z Ym45 := zRx_o hR42 hYm45 rfl
        have hV47 : zV Ym45 := zV_o hV43 hYm45 rfl
        have hG48 := yFr_o hG44 hYm45 rfl (.inr rfl) rfl
        replace hM := zE_p hM (by first | (have q1 := zhx q1; have q2 := zhx q2; omega) | (simp only [zhx q1, zhx q2] at h3 h31 h36 ⊢ <;> omega))
        exact False.elim (by have q1 := zhx q1; have q2 := zhx q2; first | omega | grind)

/- face parcel_7 -/
theorem rf_parcel_7 {Z Y : qz_Z} {dm : qz_Z → Int → Int → Int → Int → Int → Int → Int → qz_Z} {a1 : Int} (hRa : zR 0 Z Y) (hV : zV Y) (hI : zI none Z) (hd : zDf dm) (hD1 : zD1 0 Z Y) (hD4 : zD4 0 Z Y) (hN1 : zN1 Y) (hN4 : zN4 Y) (hDs : zDs 0 Z Y) (hDw : zDw 0 Z Y) (hDl : zDl 0 Z Y)  {C : qz_Z × Int × Int} {M : qz_Z × Int} (hC : zE C (zx_226 Z a1 7)) (hM : zE M (zy_449 Y a1 7)) : zR 0 C.1 M.1 ∧ zV M.1 ∧ zDd [] [99999] Z Y dm C.1 M.1 ∧ zThr [(24, 1), (13, 2)] C.2 (M.1 1 0 0 2) M.2 := by
  have hRb := zRx_0 hRa
  have hF : zFc [] 0 Z Z := zFc_r
  have hG : yFr [99999] Y Y := yFr_r
  unfold zx_226 at hC
  unfold zy_449 at hM
  have q1 := zhd (zVr_11_6 (a := 2000) hV (by omega))
  have q2 := zhd ((zRl_11_6 (a := 2000) hRa (by omega)))
  rcases zE_c hC with ⟨h3, hC⟩ | ⟨h3, hC⟩
  · replace hC := zE_p hC (by first | (have q1 := zhx q1; have q2 := zhx q2; omega) | (simp only [zhx q1, zhx q2] at h3 ⊢ <;> omega))
    obtain ⟨v5, g4, hC⟩ := zl_x hC
    replace g4 : zE _ _ := g4
    unfold zf_36 at g4
    have q6 := zhd (zVr_47_9 (x := a1) (a := 2019 + 16 * a1) hV (by have q1 := zhx q1; have q2 := zhx q2; omega) (by have q1 := zhx q1; have q2 := zhx q2; omega) (by have q1 := zhx q1; have q2 := zhx q2; omega))
    have q7 := zhd ((zRl_47_9 (x := a1) (a := 2019 + 16 * a1) hRa (by have q1 := zhx q1; have q2 := zhx q2; omega) (by have q1 := zhx q1; have q2 := zhx q2; omega) (by have q1 := zhx q1; have q2 := zhx q2; omega)))
    rcases zE_c g4 with ⟨h8, g4⟩ | ⟨h8, g4⟩
    · replace g4 := zE_p g4 (by first | (have q1 := zhx q1; have q2 := zhx q2; have q6 := zhx q6; have q7 := zhx q7; omega) | (simp only [zhx q1, zhx q2, zhx q6, zhx q7] at h3 h8 ⊢ <;> omega))
      have q9 := zhd ((zRl_47_7 (x := a1) (a := 2017 + 16 * a1) hRa (by first | (omega) | (have q1 := zhx q1; have q2 := zhx q2; have q6 := zhx q6; have q7 := zhx q7; omega)) (by first | (omega) | (have q1 := zhx q1; have q2 := zhx q2; have q6 := zhx q6; have q7 := zhx q7; omega)) (by first | (omega) | (have q1 := zhx q1; have q2 := zhx q2; have q6 := zhx q6; have q7 := zhx q7; omega))))
      have e9 : (Z 47 0 a1 7) = v5 := Eq.symm g4
      subst e9
      replace hM := zE_n hM (by first | (have q1 := zhx q1; have q2 := zhx q2; have q6 := zhx q6; have q7 := zhx q7; omega) | (simp only [zhx q1, zhx q2, zhx q6, zhx q7] at h3 h8 ⊢ <;> omega))
      replace hM := zE_n hM (by first | (have q1 := zhx q1; have q2 := zhx q2; have q6 := zhx q6; have q7 := zhx q7; omega) | (simp only [zhx q1, zhx q2, zhx q6, zhx q7] at h3 h8 ⊢ <;> omega))
      obtain ⟨Ym10, hYm10, hM⟩ := zl_x hM
      have hR11 : zRx [] 0 Z Ym10 := zRx_o hRb hYm10 rfl
      have hV12 : zV Ym10 := zV_o hV hYm10 rfl
      have hG13 := yFr_o hG hYm10 rfl (.inr rfl) rfl
      replace hM := zE_n hM (by first | (have q1 := zhx q1; have q2 := zhx q2; have q6 := zhx q6; have q7 := zhx q7; omega) | (simp only [zhx q1, zhx q2, zhx q6, zhx q7] at h3 h8 ⊢ <;> omega))
      replace hM := zE_n hM (by first | (have q1 := zhx q1; have q2 := zhx q2; have q6 := zhx q6; have q7 := zhx q7; omega) | (simp only [zhx q1, zhx q2, zhx q6, zhx q7] at h3 h8 ⊢ <;> omega))
      obtain ⟨Ym14, hYm14, hM⟩ := zl_x hM
      have hR15 : zRx [] 0 Z Ym14 := zRx_o hR11 hYm14 rfl
      have hV16 : zV Ym14 := zV_o hV12 hYm14 rfl
      have hG17 := yFr_o hG13 hYm14 rfl (.inr rfl) rfl
      replace hM := zE_p hM (by first | (have q1 := zhx q1; have q2 := zhx q2; have q6 := zhx q6; have q7 := zhx q7; omega) | (simp only [zhx q1, zhx q2, zhx q6, zhx q7] at h3 h8 ⊢ <;> omega))
      have th9 := (zu_at hYm14)
      have q18 := zhd (congrArg (Ym14 2 0 0) (show (2010 + 16 * a1 + 7) = 2017 + 16 * a1 from (by first | (omega) | (have q1 := zhx q1; have q2 := zhx q2; have q6 := zhx q6; have q7 := zhx q7; omega))))
      have q19 := zhd (((zu_ne (k' := 2) (b' := 0) (i' := 0) (j' := 2017 + 16 * a1) hYm14 (fun q => absurd q.1 (by decide))).trans (zu_ne (k' := 2) (b' := 0) (i' := 0) (j' := 2017 + 16 * a1) hYm10 (fun q => absurd q.1 (by decide)))))
      obtain rfl : C = _ := hC
      obtain rfl : M = _ := hM
      exact ⟨zRx_1 hR15, hV16, ⟨Z, _, .inl ⟨rfl, yFr_w hG17 (by decide)⟩, zFc_r, yFr_r⟩, zThr_a th9 (by first | rfl | (have q1 := zhx q1; have q2 := zhx q2; have q6 := zhx q6; have q7 := zhx q7; have q9 := zhx q9; have q18 := zhx q18; have q19 := zhx q19; omega) | (simp only [zhx q1, zhx q2, zhx q6, zhx q7, zhx q9, zhx q18, zhx q19] <;> omega) | (have q1 := zhx q1; have q2 := zhx q2; have q6 := zhx q6; have q7 := zhx q7; have q9 := zhx q9; have q18 := zhx q18; have q19 := zhx q19; refine w3z ?_ ?_ ?_ <;> omega) | (have q1 := zhx q1; have q2 := zhx q2; have q6 := zhx q6; have q7 := zhx q7; have q9 := zhx q9; have q18 := zhx q18; have q19 := zhx q19; refine w3y ?_ ?_ ?_ <;> omega) | (have q1 := zhx q1; have q2 := zhx q2; have q6 := zhx q6; have q7 := zhx q7; have q9 := zhx q9; have q18 := zhx q18; have q19 := zhx q19; refine z2o ?_ ?_ ?_ <;> omega))⟩
    · replace g4 := zE_p g4 (by first | (have q1 := zhx q1; have q2 := zhx q2; have q6 := zhx q6; have q7 := zhx q7; omega) | (simp only [zhx q1, zhx q2, zhx q6, zhx q7] at h3 h8 ⊢ <;> omega))
      have q20 := zhd ((zRl_47_7 (x := a1) (a := 2017 + 16 * a1) hRa (by first | (omega) | (have q1 := zhx q1; have q2 := zhx q2; have q6 := zhx q6; have q7 := zhx q7; omega)) (by first | (omega) | (have q1 := zhx q1; have q2 := zhx q2; have q6 := zhx q6; have q7 := zhx q7; omega)) (by first | (omega) | (have q1 := zhx q1; have q2 := zhx q2; have q6 := zhx q6; have q7 := zhx q7; omega))))
      have e9 : (Z 47 0 a1 7) = v5 := Eq.symm g4
      subst e9
      replace hM := zE_n hM (by first | (have q1 := zhx q1; have q2 := zhx q2; have q6 := zhx q6; have q7 := zhx q7; omega) | (simp only [zhx q1, zhx q2, zhx q6, zhx q7] at h3 h8 ⊢ <;> omega))
      replace hM := zE_n hM (by first | (have q1 := zhx q1; have q2 := zhx q2; have q6 := zhx q6; have q7 := zhx q7; omega) | (simp only [zhx q1, zhx q2, zhx q6, zhx q7] at h3 h8 ⊢ <;> omega))
      obtain ⟨Ym21, hYm21, hM⟩ := zl_x hM
      have hR22 : zRx [] 0 Z Ym21 := zRx_o hRb hYm21 rfl
      have hV23 : zV Ym21 := zV_o hV hYm21 rfl
      have hG24 := yFr_o hG hYm21 rfl (.inr rfl) rfl
      replace hM := zE_n hM (by first | (have q1 := zhx q1; have q2 := zhx q2; have q6 := zhx q6; have q7 := zhx q7; omega) | (simp only [zhx q1, zhx q2, zhx q6, zhx q7] at h3 h8 ⊢ <;> omega))
      replace hM := zE_n hM (by first | (have q1 := zhx q1; have q2 := zhx q2; have q6 := zhx q6; have q7 := zhx q7; omega) | (simp only [zhx q1, zhx q2, zhx q6, zhx q7] at h3 h8 ⊢ <;> omega))
      obtain ⟨Ym25, hYm25, hM⟩ := zl_x hM
      have hR26 : zRx [] 0 Z Ym25 := zRx_o hR22 hYm25 rfl
      have hV27 : zV Ym25 := zV_o hV23 hYm25 rfl
      have hG28 := yFr_o hG24 hYm25 rfl (.inr rfl) rfl
      replace hM := zE_p hM (by first | (have q1 := zhx q1; have q2 := zhx q2; have q6 := zhx q6; have q7 := zhx q7; omega) | (simp only [zhx q1, zhx q2, zhx q6, zhx q7] at h3 h8 ⊢ <;> omega))
      have th9 := (zu_at hYm25)
      have q29 := zhd (congrArg (Ym25 2 0 0) (show (2010 + 16 * a1 + 7) = 2017 + 16 * a1 from (by first | (omega) | (have q1 := zhx q1; have q2 := zhx q2; have q6 := zhx q6; have q7 := zhx q7; omega))))
      have q30 := zhd (((zu_ne (k' := 2) (b' := 0) (i' := 0) (j' := 2017 + 16 * a1) hYm25 (fun q => absurd q.1 (by decide))).trans (zu_ne (k' := 2) (b' := 0) (i' := 0) (j' := 2017 + 16 * a1) hYm21 (fun q => absurd q.1 (by decide)))))
      obtain rfl : C = _ := hC
      obtain rfl : M = _ := hM
      exact ⟨zRx_1 hR26, hV27, ⟨Z, _, .inl ⟨rfl, yFr_w hG28 (by decide)⟩, zFc_r, yFr_r⟩, zThr_a th9 (by first | rfl | (have q1 := zhx q1; have q2 := zhx q2; have q6 := zhx q6; have q7 := zhx q7; have q20 := zhx q20; have q29 := zhx q29; have q30 := zhx q30; omega) | (simp only [zhx q1, zhx q2, zhx q6, zhx q7, zhx q20, zhx q29, zhx q30] <;> omega) | (have q1 := zhx q1; have q2 := zhx q2; have q6 := zhx q6; have q7 := zhx q7; have q20 := zhx q20; have q29 := zhx q29; have q30 := zhx q30; refine w3z ?_ ?_ ?_ <;> omega) | (have q1 := zhx q1; have q2 := zhx q2; have q6 := zhx q6; have q7 := zhx q7; have q20 := zhx q20; have q29 := zhx q29; have q30 := zhx q30; refine w3y ?_ ?_ ?_ <;> omega) | (have q1 := zhx q1; have q2 := zhx q2; have q6 := zhx q6; have q7 := zhx q7; have q20 := zhx q20; have q29 := zhx q29; have q30 := zhx q30; refine z2o ?_ ?_ ?_ <;> omega))⟩
  · rcases zE_c hM with ⟨h31, hM⟩ | ⟨h31, hM⟩
    · obtain ⟨Ym32, hYm32, hM⟩ := zl_x hM
      have hR33 : zRx [] 0 Z Ym32 := zRx_o hRb hYm32 rfl
      have hV34 : zV Ym32 := zV_o hV hYm32 rfl
      have hG35 := yFr_o hG hYm32 rfl (.inr rfl) rfl
      have th9 := (zu_at hYm32)
      obtain rfl : C = _ := hC
      obtain rfl : M = _ := hM
      exact ⟨zRx_1 hR33, hV34, ⟨Z, _, .inl ⟨rfl, yFr_w hG35 (by decide)⟩, zFc_r, yFr_r⟩, zThr_e th9 (by decide)⟩
    · rcases zE_c hM with ⟨h36, hM⟩ | ⟨h36, hM⟩
      · obtain ⟨Ym37, hYm37, hM⟩ := zl_x hM
        have hR38 : zRx [] 0 Z Ym37 := zRx_o hRb hYm37 rfl
        have hV39 : zV Ym37 := zV_o hV hYm37 rfl
        have hG40 := yFr_o hG hYm37 rfl (.inr rfl) rfl
        have th9 := (zu_at hYm37)
        obtain rfl : C = _ := hC
        obtain rfl : M = _ := hM
        exact ⟨zRx_1 hR38, hV39, ⟨Z, _, .inl ⟨rfl, yFr_w hG40 (by decide)⟩, zFc_r, yFr_r⟩, zThr_e th9 (by decide)⟩
      · obtain ⟨Ym41, hYm41, hM⟩ := zl_x hM
        have hR42 : zRx [] 0 Z Ym41 := zRx_o hRb hYm41 rfl
        have hV43 : zV Ym41 := zV_o hV hYm41 rfl
        have hG44 := yFr_o hG hYm41 rfl (.inr rfl) rfl
        replace hM := zE_n hM (by first | (have q1 := zhx q1; have q2 := zhx q2; omega) | (simp only [zhx q1, zhx q2] at h3 h31 h36 ⊢ <;> omega))
        replace hM := zE_n hM (by first | (have q1 := zhx q1; have q2 := zhx q2; omega) | (simp only [zhx q1, zhx q2] at h3 h31 h36 ⊢ <;> omega))
        obtain ⟨Ym45, hYm45, hM⟩ := zl_x hM
        have hR46 : zRx [] 0 Z Ym45 := zRx_o hR42 hYm45 rfl
        have hV47 : zV Ym45 := zV_o hV43 hYm45 rfl
        have hG48 := yFr_o hG44 hYm45 rfl (.inr rfl) rfl
        replace hM := zE_p hM (by first | (have q1 := zhx q1; have q2 := zhx q2; omega) | (simp only [zhx q1, zhx q2] at h3 h31 h36 ⊢ <;> omega))
        exact False.elim (by have q1 := zhx q1; have q2 := zhx q2; first | omega | grind)

/- face parcel_8 -/
theorem rf_parcel_8 {Z Y : qz_Z} {dm : qz_Z → Int → Int → Int → Int → Int → Int → Int → qz_Z} {a1 : Int} (hRa : zR 0 Z Y) (hV : zV Y) (hI : zI none Z) (hd : zDf dm) (hD1 : zD1 0 Z Y) (hD4 : zD4 0 Z Y) (hN1 : zN1 Y) (hN4 : zN4 Y) (hDs : zDs 0 Z Y) (hDw : zDw 0 Z Y) (hDl : zDl 0 Z Y)  {C : qz_Z × Int × Int} {M : qz_Z × Int} (hC : zE C (zx_226 Z a1 8)) (hM : zE M (zy_449 Y a1 8)) : zR 0 C.1 M.1 ∧ zV M.1 ∧ zDd [] [99999] Z Y dm C.1 M.1 ∧ zThr [(24, 1), (13, 2)] C.2 (M.1 1 0 0 2) M.2 := by
  have hRb := zRx_0 hRa
  have hF : zFc [] 0 Z Z := zFc_r
  have hG : yFr [99999] Y Y := yFr_r
  unfold zx_226 at hC
  unfold zy_449 at hM
  have q1 := zhd (zVr_11_6 (a := 2000) hV (by omega))
  have q2 := zhd ((zRl_11_6 (a := 2000) hRa (by omega)))
  rcases zE_c hC with ⟨h3, hC⟩ | ⟨h3, hC⟩
  · replace hC := zE_p hC (by first | (have q1 := zhx q1; have q2 := zhx q2; omega) | (simp only [zhx q1, zhx q2] at h3 ⊢ <;> omega))
    obtain ⟨v5, g4, hC⟩ := zl_x hC
    replace g4 : zE _ _ := g4
    unfold zf_36 at g4
    have q6 := zhd (zVr_47_9 (x := a1) (a := 2019 + 16 * a1) hV (by have q1 := zhx q1; have q2 := zhx q2; omega) (by have q1 := zhx q1; have q2 := zhx q2; omega) (by have q1 := zhx q1; have q2 := zhx q2; omega))
    have q7 := zhd ((zRl_47_9 (x := a1) (a := 2019 + 16 * a1) hRa (by have q1 := zhx q1; have q2 := zhx q2; omega) (by have q1 := zhx q1; have q2 := zhx q2; omega) (by have q1 := zhx q1; have q2 := zhx q2; omega)))
    rcases zE_c g4 with ⟨h8, g4⟩ | ⟨h8, g4⟩
    · replace g4 := zE_p g4 (by first | (have q1 := zhx q1; have q2 := zhx q2; have q6 := zhx q6; have q7 := zhx q7; omega) | (simp only [zhx q1, zhx q2, zhx q6, zhx q7] at h3 h8 ⊢ <;> omega))
      have q9 := zhd ((zRl_47_8 (x := a1) (a := 2018 + 16 * a1) hRa (by first | (omega) | (have q1 := zhx q1; have q2 := zhx q2; have q6 := zhx q6; have q7 := zhx q7; omega)) (by first | (omega) | (have q1 := zhx q1; have q2 := zhx q2; have q6 := zhx q6; have q7 := zhx q7; omega)) (by first | (omega) | (have q1 := zhx q1; have q2 := zhx q2; have q6 := zhx q6; have q7 := zhx q7; omega))))
      have e9 : (Z 47 0 a1 8) = v5 := Eq.symm g4
      subst e9
      replace hM := zE_n hM (by first | (have q1 := zhx q1; have q2 := zhx q2; have q6 := zhx q6; have q7 := zhx q7; omega) | (simp only [zhx q1, zhx q2, zhx q6, zhx q7] at h3 h8 ⊢ <;> omega))
      replace hM := zE_n hM (by first | (have q1 := zhx q1; have q2 := zhx q2; have q6 := zhx q6; have q7 := zhx q7; omega) | (simp only [zhx q1, zhx q2, zhx q6, zhx q7] at h3 h8 ⊢ <;> omega))
      obtain ⟨Ym10, hYm10, hM⟩ := zl_x hM
      have hR11 : zRx [] 0 Z Ym10 := zRx_o hRb hYm10 rfl
      have hV12 : zV Ym10 := zV_o hV hYm10 rfl
      have hG13 := yFr_o hG hYm10 rfl (.inr rfl) rfl
      replace hM := zE_n hM (by first | (have q1 := zhx q1; have q2 := zhx q2; have q6 := zhx q6; have q7 := zhx q7; omega) | (simp only [zhx q1, zhx q2, zhx q6, zhx q7] at h3 h8 ⊢ <;> omega))
      replace hM := zE_n hM (by first | (have q1 := zhx q1; have q2 := zhx q2; have q6 := zhx q6; have q7 := zhx q7; omega) | (simp only [zhx q1, zhx q2, zhx q6, zhx q7] at h3 h8 ⊢ <;> omega))
      obtain ⟨Ym14, hYm14, hM⟩ := zl_x hM
      have hR15 : zRx [] 0 Z Ym14 := zRx_o hR11 hYm14 rfl
      have hV16 : zV Ym14 := zV_o hV12 hYm14 rfl
      have hG17 := yFr_o hG13 hYm14 rfl (.inr rfl) rfl
      replace hM := zE_p hM (by first | (have q1 := zhx q1; have q2 := zhx q2; have q6 := zhx q6; have q7 := zhx q7; omega) | (simp only [zhx q1, zhx q2, zhx q6, zhx q7] at h3 h8 ⊢ <;> omega))
      have th9 := (zu_at hYm14)
      have q18 := zhd (congrArg (Ym14 2 0 0) (show (2010 + 16 * a1 + 8) = 2018 + 16 * a1 from (by first | (omega) | (have q1 := zhx q1; have q2 := zhx q2; have q6 := zhx q6; have q7 := zhx q7; omega))))
      have q19 := zhd (((zu_ne (k' := 2) (b' := 0) (i' := 0) (j' := 2018 + 16 * a1) hYm14 (fun q => absurd q.1 (by decide))).trans (zu_ne (k' := 2) (b' := 0) (i' := 0) (j' := 2018 + 16 * a1) hYm10 (fun q => absurd q.1 (by decide)))))
      obtain rfl : C = _ := hC
      obtain rfl : M = _ := hM
      exact ⟨zRx_1 hR15, hV16, ⟨Z, _, .inl ⟨rfl, yFr_w hG17 (by decide)⟩, zFc_r, yFr_r⟩, zThr_a th9 (by first | rfl | (have q1 := zhx q1; have q2 := zhx q2; have q6 := zhx q6; have q7 := zhx q7; have q9 := zhx q9; have q18 := zhx q18; have q19 := zhx q19; omega) | (simp only [zhx q1, zhx q2, zhx q6, zhx q7, zhx q9, zhx q18, zhx q19] <;> omega) | (have q1 := zhx q1; have q2 := zhx q2; have q6 := zhx q6; have q7 := zhx q7; have q9 := zhx q9; have q18 := zhx q18; have q19 := zhx q19; refine w3z ?_ ?_ ?_ <;> omega) | (have q1 := zhx q1; have q2 := zhx q2; have q6 := zhx q6; have q7 := zhx q7; have q9 := zhx q9; have q18 := zhx q18; have q19 := zhx q19; refine w3y ?_ ?_ ?_ <;> omega) | (have q1 := zhx q1; have q2 := zhx q2; have q6 := zhx q6; have q7 := zhx q7; have q9 := zhx q9; have q18 := zhx q18; have q19 := zhx q19; refine z2o ?_ ?_ ?_ <;> omega))⟩
    · replace g4 := zE_p g4 (by first | (have q1 := zhx q1; have q2 := zhx q2; have q6 := zhx q6; have q7 := zhx q7; omega) | (simp only [zhx q1, zhx q2, zhx q6, zhx q7] at h3 h8 ⊢ <;> omega))
      have q20 := zhd ((zRl_47_8 (x := a1) (a := 2018 + 16 * a1) hRa (by first | (omega) | (have q1 := zhx q1; have q2 := zhx q2; have q6 := zhx q6; have q7 := zhx q7; omega)) (by first | (omega) | (have q1 := zhx q1; have q2 := zhx q2; have q6 := zhx q6; have q7 := zhx q7; omega)) (by first | (omega) | (have q1 := zhx q1; have q2 := zhx q2; have q6 := zhx q6; have q7 := zhx q7; omega))))
      have e9 : (Z 47 0 a1 8) = v5 := Eq.symm g4
      subst e9
      replace hM := zE_n hM (by first | (have q1 := zhx q1; have q2 := zhx q2; have q6 := zhx q6; have q7 := zhx q7; omega) | (simp only [zhx q1, zhx q2, zhx q6, zhx q7] at h3 h8 ⊢ <;> omega))
      replace hM := zE_n hM (by first | (have q1 := zhx q1; have q2 := zhx q2; have q6 := zhx q6; have q7 := zhx q7; omega) | (simp only [zhx q1, zhx q2, zhx q6, zhx q7] at h3 h8 ⊢ <;> omega))
      obtain ⟨Ym21, hYm21, hM⟩ := zl_x hM
      have hR22 : zRx [] 0 Z Ym21 := zRx_o hRb hYm21 rfl
      have hV23 : zV Ym21 := zV_o hV hYm21 rfl
      have hG24 := yFr_o hG hYm21 rfl (.inr rfl) rfl
      replace hM := zE_n hM (by first | (have q1 := zhx q1; have q2 := zhx q2; have q6 := zhx q6; have q7 := zhx q7; omega) | (simp only [zhx q1, zhx q2, zhx q6, zhx q7] at h3 h8 ⊢ <;> omega))
      replace hM := zE_n hM (by first | (have q1 := zhx q1; have q2 := zhx q2; have q6 := zhx q6; have q7 := zhx q7; omega) | (simp only [zhx q1, zhx q2, zhx q6, zhx q7] at h3 h8 ⊢ <;> omega))
      obtain ⟨Ym25, hYm25, hM⟩ := zl_x hM
      have hR26 : zRx [] 0 Z Ym25 := zRx_o hR22 hYm25 rfl
      have hV27 : zV Ym25 := zV_o hV23 hYm25 rfl
      have hG28 := yFr_o hG24 hYm25 rfl (.inr rfl) rfl
      replace hM := zE_p hM (by first | (have q1 := zhx q1; have q2 := zhx q2; have q6 := zhx q6; have q7 := zhx q7; omega) | (simp only [zhx q1, zhx q2, zhx q6, zhx q7] at h3 h8 ⊢ <;> omega))
      have th9 := (zu_at hYm25)
      have q29 := zhd (congrArg (Ym25 2 0 0) (show (2010 + 16 * a1 + 8) = 2018 + 16 * a1 from (by first | (omega) | (have q1 := zhx q1; have q2 := zhx q2; have q6 := zhx q6; have q7 := zhx q7; omega))))
      have q30 := zhd (((zu_ne (k' := 2) (b' := 0) (i' := 0) (j' := 2018 + 16 * a1) hYm25 (fun q => absurd q.1 (by decide))).trans (zu_ne (k' := 2) (b' := 0) (i' := 0) (j' := 2018 + 16 * a1) hYm21 (fun q => absurd q.1 (by decide)))))
      obtain rfl : C = _ := hC
      obtain rfl : M = _ := hM
      exact ⟨zRx_1 hR26, hV27, ⟨Z, _, .inl ⟨rfl, yFr_w hG28 (by decide)⟩, zFc_r, yFr_r⟩, zThr_a th9 (by first | rfl | (have q1 := zhx q1; have q2 := zhx q2; have q6 := zhx q6; have q7 := zhx q7; have q20 := zhx q20; have q29 := zhx q29; have q30 := zhx q30; omega) | (simp only [zhx q1, zhx q2, zhx q6, zhx q7, zhx q20, zhx q29, zhx q30] <;> omega) | (have q1 := zhx q1; have q2 := zhx q2; have q6 := zhx q6; have q7 := zhx q7; have q20 := zhx q20; have q29 := zhx q29; have q30 := zhx q30; refine w3z ?_ ?_ ?_ <;> omega) | (have q1 := zhx q1; have q2 := zhx q2; have q6 := zhx q6; have q7 := zhx q7; have q20 := zhx q20; have q29 := zhx q29; have q30 := zhx q30; refine w3y ?_ ?_ ?_ <;> omega) | (have q1 := zhx q1; have q2 := zhx q2; have q6 := zhx q6; have q7 := zhx q7; have q20 := zhx q20; have q29 := zhx q29; have q30 := zhx q30; refine z2o ?_ ?_ ?_ <;> omega))⟩
  · rcases zE_c hM with ⟨h31, hM⟩ | ⟨h31, hM⟩
    · obtain ⟨Ym32, hYm32, hM⟩ := zl_x hM
      have hR33 : zRx [] 0 Z Ym32 := zRx_o hRb hYm32 rfl
      have hV34 : zV Ym32 := zV_o hV hYm32 rfl
      have hG35 := yFr_o hG hYm32 rfl (.inr rfl) rfl
      have th9 := (zu_at hYm32)
      obtain rfl : C = _ := hC
      obtain rfl : M = _ := hM
      exact ⟨zRx_1 hR33, hV34, ⟨Z, _, .inl ⟨rfl, yFr_w hG35 (by decide)⟩, zFc_r, yFr_r⟩, zThr_e th9 (by decide)⟩
    · rcases zE_c hM with ⟨h36, hM⟩ | ⟨h36, hM⟩
      · obtain ⟨Ym37, hYm37, hM⟩ := zl_x hM
        have hR38 : zRx [] 0 Z Ym37 := zRx_o hRb hYm37 rfl
        have hV39 : zV Ym37 := zV_o hV hYm37 rfl
        have hG40 := yFr_o hG hYm37 rfl (.inr rfl) rfl
        have th9 := (zu_at hYm37)
        obtain rfl : C = _ := hC
        obtain rfl : M = _ := hM
        exact ⟨zRx_1 hR38, hV39, ⟨Z, _, .inl ⟨rfl, yFr_w hG40 (by decide)⟩, zFc_r, yFr_r⟩, zThr_e th9 (by decide)⟩
      · obtain ⟨Ym41, hYm41, hM⟩ := zl_x hM
        have hR42 : zRx [] 0 Z Ym41 := zRx_o hRb hYm41 rfl
        have hV43 : zV Ym41 := zV_o hV hYm41 rfl
        have hG44 := yFr_o hG hYm41 rfl (.inr rfl) rfl
        replace hM := zE_n hM (by first | (have q1 := zhx q1; have q2 := zhx q2; omega) | (simp only [zhx q1, zhx q2] at h3 h31 h36 ⊢ <;> omega))
        replace hM := zE_n hM (by first | (have q1 := zhx q1; have q2 := zhx q2; omega) | (simp only [zhx q1, zhx q2] at h3 h31 h36 ⊢ <;> omega))
        obtain ⟨Ym45, hYm45, hM⟩ := zl_x hM
        have hR46 : zRx [] 0 Z Ym45 := zRx_o hR42 hYm45 rfl
        have hV47 : zV Ym45 := zV_o hV43 hYm45 rfl
        have hG48 := yFr_o hG44 hYm45 rfl (.inr rfl) rfl
        replace hM := zE_p hM (by first | (have q1 := zhx q1; have q2 := zhx q2; omega) | (simp only [zhx q1, zhx q2] at h3 h31 h36 ⊢ <;> omega))
        exact False.elim (by have q1 := zhx q1; have q2 := zhx q2; first | omega | grind)

/- face parcel_9 -/
theorem rf_parcel_9 {Z Y : qz_Z} {dm : qz_Z → Int → Int → Int → Int → Int → Int → Int → qz_Z} {a1 : Int} (hRa : zR 0 Z Y) (hV : zV Y) (hI : zI none Z) (hd : zDf dm) (hD1 : zD1 0 Z Y) (hD4 : zD4 0 Z Y) (hN1 : zN1 Y) (hN4 : zN4 Y) (hDs : zDs 0 Z Y) (hDw : zDw 0 Z Y) (hDl : zDl 0 Z Y)  {C : qz_Z × Int × Int} {M : qz_Z × Int} (hC : zE C (zx_226 Z a1 9)) (hM : zE M (zy_449 Y a1 9)) : zR 0 C.1 M.1 ∧ zV M.1 ∧ zDd [] [99999] Z Y dm C.1 M.1 ∧ zThr [(24, 1), (13, 2)] C.2 (M.1 1 0 0 2) M.2 := by
  have hRb := zRx_0 hRa
  have hF : zFc [] 0 Z Z := zFc_r
  have hG : yFr [99999] Y Y := yFr_r
  unfold zx_226 at hC
  unfold zy_449 at hM
  have q1 := zhd (zVr_11_6 (a := 2000) hV (by omega))
  have q2 := zhd ((zRl_11_6 (a := 2000) hRa (by omega)))
  rcases zE_c hC with ⟨h3, hC⟩ | ⟨h3, hC⟩
  · replace hC := zE_p hC (by first | (have q1 := zhx q1; have q2 := zhx q2; omega) | (simp only [zhx q1, zhx q2] at h3 ⊢ <;> omega))
    obtain ⟨v5, g4, hC⟩ := zl_x hC
    replace g4 : zE _ _ := g4
    unfold zf_36 at g4
    have q6 := zhd (zVr_47_9 (x := a1) (a := 2019 + 16 * a1) hV (by have q1 := zhx q1; have q2 := zhx q2; omega) (by have q1 := zhx q1; have q2 := zhx q2; omega) (by have q1 := zhx q1; have q2 := zhx q2; omega))
    have q7 := zhd ((zRl_47_9 (x := a1) (a := 2019 + 16 * a1) hRa (by have q1 := zhx q1; have q2 := zhx q2; omega) (by have q1 := zhx q1; have q2 := zhx q2; omega) (by have q1 := zhx q1; have q2 := zhx q2; omega)))
    rcases zE_c g4 with ⟨h8, g4⟩ | ⟨h8, g4⟩
    · replace g4 := zE_p g4 (by first | (have q1 := zhx q1; have q2 := zhx q2; have q6 := zhx q6; have q7 := zhx q7; omega) | (simp only [zhx q1, zhx q2, zhx q6, zhx q7] at h3 h8 ⊢ <;> omega))
      have e9 : (Z 47 0 a1 9) = v5 := Eq.symm g4
      subst e9
      replace hM := zE_n hM (by first | (have q1 := zhx q1; have q2 := zhx q2; have q6 := zhx q6; have q7 := zhx q7; omega) | (simp only [zhx q1, zhx q2, zhx q6, zhx q7] at h3 h8 ⊢ <;> omega))
      replace hM := zE_n hM (by first | (have q1 := zhx q1; have q2 := zhx q2; have q6 := zhx q6; have q7 := zhx q7; omega) | (simp only [zhx q1, zhx q2, zhx q6, zhx q7] at h3 h8 ⊢ <;> omega))
      obtain ⟨Ym9, hYm9, hM⟩ := zl_x hM
      have hR10 : zRx [] 0 Z Ym9 := zRx_o hRb hYm9 rfl
      have hV11 : zV Ym9 := zV_o hV hYm9 rfl
      have hG12 := yFr_o hG hYm9 rfl (.inr rfl) rfl
      replace hM := zE_n hM (by first | (have q1 := zhx q1; have q2 := zhx q2; have q6 := zhx q6; have q7 := zhx q7; omega) | (simp only [zhx q1, zhx q2, zhx q6, zhx q7] at h3 h8 ⊢ <;> omega))
      replace hM := zE_n hM (by first | (have q1 := zhx q1; have q2 := zhx q2; have q6 := zhx q6; have q7 := zhx q7; omega) | (simp only [zhx q1, zhx q2, zhx q6, zhx q7] at h3 h8 ⊢ <;> omega))
      obtain ⟨Ym13, hYm13, hM⟩ := zl_x hM
      have hR14 : zRx [] 0 Z Ym13 := zRx_o hR10 hYm13 rfl
      have hV15 : zV Ym13 := zV_o hV11 hYm13 rfl
      have hG16 := yFr_o hG12 hYm13 rfl (.inr rfl) rfl
      replace hM := zE_p hM (by first | (have q1 := zhx q1; have q2 := zhx q2; have q6 := zhx q6; have q7 := zhx q7; omega) | (simp only [zhx q1, zhx q2, zhx q6, zhx q7] at h3 h8 ⊢ <;> omega))
      have th9 := (zu_at hYm13)
      have q17 := zhd (congrArg (Ym13 2 0 0) (show (2010 + 16 * a1 + 9) = 2019 + 16 * a1 from (by first | (omega) | (have q1 := zhx q1; have q2 := zhx q2; have q6 := zhx q6; have q7 := zhx q7; omega))))
      have q18 := zhd (((zu_ne (k' := 2) (b' := 0) (i' := 0) (j' := 2019 + 16 * a1) hYm13 (fun q => absurd q.1 (by decide))).trans (zu_ne (k' := 2) (b' := 0) (i' := 0) (j' := 2019 + 16 * a1) hYm9 (fun q => absurd q.1 (by decide)))))
      obtain rfl : C = _ := hC
      obtain rfl : M = _ := hM
      exact ⟨zRx_1 hR14, hV15, ⟨Z, _, .inl ⟨rfl, yFr_w hG16 (by decide)⟩, zFc_r, yFr_r⟩, zThr_a th9 (by first | rfl | (have q1 := zhx q1; have q2 := zhx q2; have q6 := zhx q6; have q7 := zhx q7; have q17 := zhx q17; have q18 := zhx q18; omega) | (simp only [zhx q1, zhx q2, zhx q6, zhx q7, zhx q17, zhx q18] <;> omega) | (have q1 := zhx q1; have q2 := zhx q2; have q6 := zhx q6; have q7 := zhx q7; have q17 := zhx q17; have q18 := zhx q18; refine w3z ?_ ?_ ?_ <;> omega) | (have q1 := zhx q1; have q2 := zhx q2; have q6 := zhx q6; have q7 := zhx q7; have q17 := zhx q17; have q18 := zhx q18; refine w3y ?_ ?_ ?_ <;> omega) | (have q1 := zhx q1; have q2 := zhx q2; have q6 := zhx q6; have q7 := zhx q7; have q17 := zhx q17; have q18 := zhx q18; refine z2o ?_ ?_ ?_ <;> omega))⟩
    · replace g4 := zE_p g4 (by first | (have q1 := zhx q1; have q2 := zhx q2; have q6 := zhx q6; have q7 := zhx q7; omega) | (simp only [zhx q1, zhx q2, zhx q6, zhx q7] at h3 h8 ⊢ <;> omega))
      have e9 : (Z 47 0 a1 9) = v5 := Eq.symm g4
      subst e9
      replace hM := zE_n hM (by first | (have q1 := zhx q1; have q2 := zhx q2; have q6 := zhx q6; have q7 := zhx q7; omega) | (simp only [zhx q1, zhx q2, zhx q6, zhx q7] at h3 h8 ⊢ <;> omega))
      replace hM := zE_n hM (by first | (have q1 := zhx q1; have q2 := zhx q2; have q6 := zhx q6; have q7 := zhx q7; omega) | (simp only [zhx q1, zhx q2, zhx q6, zhx q7] at h3 h8 ⊢ <;> omega))
      obtain ⟨Ym19, hYm19, hM⟩ := zl_x hM
      have hR20 : zRx [] 0 Z Ym19 := zRx_o hRb hYm19 rfl
      have hV21 : zV Ym19 := zV_o hV hYm19 rfl
      have hG22 := yFr_o hG hYm19 rfl (.inr rfl) rfl
      replace hM := zE_n hM (by first | (have q1 := zhx q1; have q2 := zhx q2; have q6 := zhx q6; have q7 := zhx q7; omega) | (simp only [zhx q1, zhx q2, zhx q6, zhx q7] at h3 h8 ⊢ <;> omega))
      replace hM := zE_n hM (by first | (have q1 := zhx q1; have q2 := zhx q2; have q6 := zhx q6; have q7 := zhx q7; omega) | (simp only [zhx q1, zhx q2, zhx q6, zhx q7] at h3 h8 ⊢ <;> omega))
      obtain ⟨Ym23, hYm23, hM⟩ := zl_x hM
      have hR24 : zRx [] 0 Z Ym23 := zRx_o hR20 hYm23 rfl
      have hV25 : zV Ym23 := zV_o hV21 hYm23 rfl
      have hG26 := yFr_o hG22 hYm23 rfl (.inr rfl) rfl
      replace hM := zE_p hM (by first | (have q1 := zhx q1; have q2 := zhx q2; have q6 := zhx q6; have q7 := zhx q7; omega) | (simp only [zhx q1, zhx q2, zhx q6, zhx q7] at h3 h8 ⊢ <;> omega))
      have th9 := (zu_at hYm23)
      have q27 := zhd (congrArg (Ym23 2 0 0) (show (2010 + 16 * a1 + 9) = 2019 + 16 * a1 from (by first | (omega) | (have q1 := zhx q1; have q2 := zhx q2; have q6 := zhx q6; have q7 := zhx q7; omega))))
      have q28 := zhd (((zu_ne (k' := 2) (b' := 0) (i' := 0) (j' := 2019 + 16 * a1) hYm23 (fun q => absurd q.1 (by decide))).trans (zu_ne (k' := 2) (b' := 0) (i' := 0) (j' := 2019 + 16 * a1) hYm19 (fun q => absurd q.1 (by decide)))))
      obtain rfl : C = _ := hC
      obtain rfl : M = _ := hM
      exact ⟨zRx_1 hR24, hV25, ⟨Z, _, .inl ⟨rfl, yFr_w hG26 (by decide)⟩, zFc_r, yFr_r⟩, zThr_a th9 (by first | rfl | (have q1 := zhx q1; have q2 := zhx q2; have q6 := zhx q6; have q7 := zhx q7; have q27 := zhx q27; have q28 := zhx q28; omega) | (simp only [zhx q1, zhx q2, zhx q6, zhx q7, zhx q27, zhx q28] <;> omega) | (have q1 := zhx q1; have q2 := zhx q2; have q6 := zhx q6; have q7 := zhx q7; have q27 := zhx q27; have q28 := zhx q28; refine w3z ?_ ?_ ?_ <;> omega) | (have q1 := zhx q1; have q2 := zhx q2; have q6 := zhx q6; have q7 := zhx q7; have q27 := zhx q27; have q28 := zhx q28; refine w3y ?_ ?_ ?_ <;> omega) | (have q1 := zhx q1; have q2 := zhx q2; have q6 := zhx q6; have q7 := zhx q7; have q27 := zhx q27; have q28 := zhx q28; refine z2o ?_ ?_ ?_ <;> omega))⟩
  · rcases zE_c hM with ⟨h29, hM⟩ | ⟨h29, hM⟩
    · obtain ⟨Ym30, hYm30, hM⟩ := zl_x hM
      have hR31 : zRx [] 0 Z Ym30 := zRx_o hRb hYm30 rfl
      have hV32 : zV Ym30 := zV_o hV hYm30 rfl
      have hG33 := yFr_o hG hYm30 rfl (.inr rfl) rfl
      have th9 := (zu_at hYm30)
      obtain rfl : C = _ := hC
      obtain rfl : M = _ := hM
      exact ⟨zRx_1 hR31, hV32, ⟨Z, _, .inl ⟨rfl, yFr_w hG33 (by decide)⟩, zFc_r, yFr_r⟩, zThr_e th9 (by decide)⟩
    · rcases zE_c hM with ⟨h34, hM⟩ | ⟨h34, hM⟩
      · obtain ⟨Ym35, hYm35, hM⟩ := zl_x hM
        have hR36 : zRx [] 0 Z Ym35 := zRx_o hRb hYm35 rfl
        have hV37 : zV Ym35 := zV_o hV hYm35 rfl
        have hG38 := yFr_o hG hYm35 rfl (.inr rfl) rfl
        have th9 := (zu_at hYm35)
        obtain rfl : C = _ := hC
        obtain rfl : M = _ := hM
        exact ⟨zRx_1 hR36, hV37, ⟨Z, _, .inl ⟨rfl, yFr_w hG38 (by decide)⟩, zFc_r, yFr_r⟩, zThr_e th9 (by decide)⟩
      · obtain ⟨Ym39, hYm39, hM⟩ := zl_x hM
        have hR40 : zRx [] 0 Z Ym39 := zRx_o hRb hYm39 rfl
        have hV41 : zV Ym39 := zV_o hV hYm39 rfl
        have hG42 := yFr_o hG hYm39 rfl (.inr rfl) rfl
        replace hM := zE_n hM (by first | (have q1 := zhx q1; have q2 := zhx q2; omega) | (simp only [zhx q1, zhx q2] at h3 h29 h34 ⊢ <;> omega))
        replace hM := zE_n hM (by first | (have q1 := zhx q1; have q2 := zhx q2; omega) | (simp only [zhx q1, zhx q2] at h3 h29 h34 ⊢ <;> omega))
        obtain ⟨Ym43, hYm43, hM⟩ := zl_x hM
        have hR44 : zRx [] 0 Z Ym43 := zRx_o hR40 hYm43 rfl
        have hV45 : zV Ym43 := zV_o hV41 hYm43 rfl
        have hG46 := yFr_o hG42 hYm43 rfl (.inr rfl) rfl
        replace hM := zE_p hM (by first | (have q1 := zhx q1; have q2 := zhx q2; omega) | (simp only [zhx q1, zhx q2] at h3 h29 h34 ⊢ <;> omega))
        exact False.elim (by have q1 := zhx q1; have q2 := zhx q2; first | omega | grind)

/- face parcel_10 -/
theorem rf_parcel_10 {Z Y : qz_Z} {dm : qz_Z → Int → Int → Int → Int → Int → Int → Int → qz_Z} {a1 : Int} (hRa : zR 0 Z Y) (hV : zV Y) (hI : zI none Z) (hd : zDf dm) (hD1 : zD1 0 Z Y) (hD4 : zD4 0 Z Y) (hN1 : zN1 Y) (hN4 : zN4 Y) (hDs : zDs 0 Z Y) (hDw : zDw 0 Z Y) (hDl : zDl 0 Z Y)  {C : qz_Z × Int × Int} {M : qz_Z × Int} (hC : zE C (zx_226 Z a1 10)) (hM : zE M (zy_449 Y a1 10)) : zR 0 C.1 M.1 ∧ zV M.1 ∧ zDd [] [99999] Z Y dm C.1 M.1 ∧ zThr [(24, 1), (13, 2)] C.2 (M.1 1 0 0 2) M.2 := by
  have hRb := zRx_0 hRa
  have hF : zFc [] 0 Z Z := zFc_r
  have hG : yFr [99999] Y Y := yFr_r
  unfold zx_226 at hC
  unfold zy_449 at hM
  have q1 := zhd (zVr_11_6 (a := 2000) hV (by omega))
  have q2 := zhd ((zRl_11_6 (a := 2000) hRa (by omega)))
  rcases zE_c hC with ⟨h3, hC⟩ | ⟨h3, hC⟩
  · replace hC := zE_p hC (by first | (have q1 := zhx q1; have q2 := zhx q2; omega) | (simp only [zhx q1, zhx q2] at h3 ⊢ <;> omega))
    obtain ⟨v5, g4, hC⟩ := zl_x hC
    replace g4 : zE _ _ := g4
    unfold zf_36 at g4
    have q6 := zhd (zVr_47_9 (x := a1) (a := 2019 + 16 * a1) hV (by have q1 := zhx q1; have q2 := zhx q2; omega) (by have q1 := zhx q1; have q2 := zhx q2; omega) (by have q1 := zhx q1; have q2 := zhx q2; omega))
    have q7 := zhd ((zRl_47_9 (x := a1) (a := 2019 + 16 * a1) hRa (by have q1 := zhx q1; have q2 := zhx q2; omega) (by have q1 := zhx q1; have q2 := zhx q2; omega) (by have q1 := zhx q1; have q2 := zhx q2; omega)))
    rcases zE_c g4 with ⟨h8, g4⟩ | ⟨h8, g4⟩
    · replace g4 := zE_p g4 (by first | (have q1 := zhx q1; have q2 := zhx q2; have q6 := zhx q6; have q7 := zhx q7; omega) | (simp only [zhx q1, zhx q2, zhx q6, zhx q7] at h3 h8 ⊢ <;> omega))
      have q9 := zhd (zVr_47_10 (x := a1) (a := 2020 + 16 * a1) hV (by first | (omega) | (have q1 := zhx q1; have q2 := zhx q2; have q6 := zhx q6; have q7 := zhx q7; omega)) (by first | (omega) | (have q1 := zhx q1; have q2 := zhx q2; have q6 := zhx q6; have q7 := zhx q7; omega)) (by first | (omega) | (have q1 := zhx q1; have q2 := zhx q2; have q6 := zhx q6; have q7 := zhx q7; omega)))
      have q10 := zhd ((zRl_47_10 (x := a1) (a := 2020 + 16 * a1) hRa (by first | (omega) | (have q1 := zhx q1; have q2 := zhx q2; have q6 := zhx q6; have q7 := zhx q7; omega)) (by first | (omega) | (have q1 := zhx q1; have q2 := zhx q2; have q6 := zhx q6; have q7 := zhx q7; omega)) (by first | (omega) | (have q1 := zhx q1; have q2 := zhx q2; have q6 := zhx q6; have q7 := zhx q7; omega))))
      have e9 : (Z 47 0 a1 10) = v5 := Eq.symm g4
      subst e9
      replace hM := zE_n hM (by first | (have q1 := zhx q1; have q2 := zhx q2; have q6 := zhx q6; have q7 := zhx q7; omega) | (simp only [zhx q1, zhx q2, zhx q6, zhx q7] at h3 h8 ⊢ <;> omega))
      replace hM := zE_n hM (by first | (have q1 := zhx q1; have q2 := zhx q2; have q6 := zhx q6; have q7 := zhx q7; omega) | (simp only [zhx q1, zhx q2, zhx q6, zhx q7] at h3 h8 ⊢ <;> omega))
      obtain ⟨Ym11, hYm11, hM⟩ := zl_x hM
      have hR12 : zRx [] 0 Z Ym11 := zRx_o hRb hYm11 rfl
      have hV13 : zV Ym11 := zV_o hV hYm11 rfl
      have hG14 := yFr_o hG hYm11 rfl (.inr rfl) rfl
      replace hM := zE_n hM (by first | (have q1 := zhx q1; have q2 := zhx q2; have q6 := zhx q6; have q7 := zhx q7; omega) | (simp only [zhx q1, zhx q2, zhx q6, zhx q7] at h3 h8 ⊢ <;> omega))
      replace hM := zE_n hM (by first | (have q1 := zhx q1; have q2 := zhx q2; have q6 := zhx q6; have q7 := zhx q7; omega) | (simp only [zhx q1, zhx q2, zhx q6, zhx q7] at h3 h8 ⊢ <;> omega))
      obtain ⟨Ym15, hYm15, hM⟩ := zl_x hM
      have hR16 : zRx [] 0 Z Ym15 := zRx_o hR12 hYm15 rfl
      have hV17 : zV Ym15 := zV_o hV13 hYm15 rfl
      have hG18 := yFr_o hG14 hYm15 rfl (.inr rfl) rfl
      replace hM := zE_p hM (by first | (have q1 := zhx q1; have q2 := zhx q2; have q6 := zhx q6; have q7 := zhx q7; omega) | (simp only [zhx q1, zhx q2, zhx q6, zhx q7] at h3 h8 ⊢ <;> omega))
      have th9 := (zu_at hYm15)
      have q19 := zhd (congrArg (Ym15 2 0 0) (show (2010 + 16 * a1 + 10) = 2020 + 16 * a1 from (by first | (omega) | (have q1 := zhx q1; have q2 := zhx q2; have q6 := zhx q6; have q7 := zhx q7; omega))))
      have q20 := zhd (((zu_ne (k' := 2) (b' := 0) (i' := 0) (j' := 2020 + 16 * a1) hYm15 (fun q => absurd q.1 (by decide))).trans (zu_ne (k' := 2) (b' := 0) (i' := 0) (j' := 2020 + 16 * a1) hYm11 (fun q => absurd q.1 (by decide)))))
      obtain rfl : C = _ := hC
      obtain rfl : M = _ := hM
      exact ⟨zRx_1 hR16, hV17, ⟨Z, _, .inl ⟨rfl, yFr_w hG18 (by decide)⟩, zFc_r, yFr_r⟩, zThr_a th9 (by first | rfl | (have q1 := zhx q1; have q2 := zhx q2; have q6 := zhx q6; have q7 := zhx q7; have q9 := zhx q9; have q10 := zhx q10; have q19 := zhx q19; have q20 := zhx q20; omega) | (simp only [zhx q1, zhx q2, zhx q6, zhx q7, zhx q9, zhx q10, zhx q19, zhx q20] <;> omega) | (have q1 := zhx q1; have q2 := zhx q2; have q6 := zhx q6; have q7 := zhx q7; have q9 := zhx q9; have q10 := zhx q10; have q19 := zhx q19; have q20 := zhx q20; refine w3z ?_ ?_ ?_ <;> omega) | (have q1 := zhx q1; have q2 := zhx q2; have q6 := zhx q6; have q7 := zhx q7; have q9 := zhx q9; have q10 := zhx q10; have q19 := zhx q19; have q20 := zhx q20; refine w3y ?_ ?_ ?_ <;> omega) | (have q1 := zhx q1; have q2 := zhx q2; have q6 := zhx q6; have q7 := zhx q7; have q9 := zhx q9; have q10 := zhx q10; have q19 := zhx q19; have q20 := zhx q20; refine z2o ?_ ?_ ?_ <;> omega))⟩
    · replace g4 := zE_p g4 (by first | (have q1 := zhx q1; have q2 := zhx q2; have q6 := zhx q6; have q7 := zhx q7; omega) | (simp only [zhx q1, zhx q2, zhx q6, zhx q7] at h3 h8 ⊢ <;> omega))
      have q21 := zhd (zVr_47_10 (x := a1) (a := 2020 + 16 * a1) hV (by first | (omega) | (have q1 := zhx q1; have q2 := zhx q2; have q6 := zhx q6; have q7 := zhx q7; omega)) (by first | (omega) | (have q1 := zhx q1; have q2 := zhx q2; have q6 := zhx q6; have q7 := zhx q7; omega)) (by first | (omega) | (have q1 := zhx q1; have q2 := zhx q2; have q6 := zhx q6; have q7 := zhx q7; omega)))
      have q22 := zhd ((zRl_47_10 (x := a1) (a := 2020 + 16 * a1) hRa (by first | (omega) | (have q1 := zhx q1; have q2 := zhx q2; have q6 := zhx q6; have q7 := zhx q7; omega)) (by first | (omega) | (have q1 := zhx q1; have q2 := zhx q2; have q6 := zhx q6; have q7 := zhx q7; omega)) (by first | (omega) | (have q1 := zhx q1; have q2 := zhx q2; have q6 := zhx q6; have q7 := zhx q7; omega))))
      have e9 : (Z 47 0 a1 10) = v5 := Eq.symm g4
      subst e9
      replace hM := zE_n hM (by first | (have q1 := zhx q1; have q2 := zhx q2; have q6 := zhx q6; have q7 := zhx q7; omega) | (simp only [zhx q1, zhx q2, zhx q6, zhx q7] at h3 h8 ⊢ <;> omega))
      replace hM := zE_n hM (by first | (have q1 := zhx q1; have q2 := zhx q2; have q6 := zhx q6; have q7 := zhx q7; omega) | (simp only [zhx q1, zhx q2, zhx q6, zhx q7] at h3 h8 ⊢ <;> omega))
      obtain ⟨Ym23, hYm23, hM⟩ := zl_x hM
      have hR24 : zRx [] 0 Z Ym23 := zRx_o hRb hYm23 rfl
      have hV25 : zV Ym23 := zV_o hV hYm23 rfl
      have hG26 := yFr_o hG hYm23 rfl (.inr rfl) rfl
      replace hM := zE_n hM (by first | (have q1 := zhx q1; have q2 := zhx q2; have q6 := zhx q6; have q7 := zhx q7; omega) | (simp only [zhx q1, zhx q2, zhx q6, zhx q7] at h3 h8 ⊢ <;> omega))
      replace hM := zE_n hM (by first | (have q1 := zhx q1; have q2 := zhx q2; have q6 := zhx q6; have q7 := zhx q7; omega) | (simp only [zhx q1, zhx q2, zhx q6, zhx q7] at h3 h8 ⊢ <;> omega))
      obtain ⟨Ym27, hYm27, hM⟩ := zl_x hM
      have hR28 : zRx [] 0 Z Ym27 := zRx_o hR24 hYm27 rfl
      have hV29 : zV Ym27 := zV_o hV25 hYm27 rfl
      have hG30 := yFr_o hG26 hYm27 rfl (.inr rfl) rfl
      replace hM := zE_p hM (by first | (have q1 := zhx q1; have q2 := zhx q2; have q6 := zhx q6; have q7 := zhx q7; omega) | (simp only [zhx q1, zhx q2, zhx q6, zhx q7] at h3 h8 ⊢ <;> omega))
      have th9 := (zu_at hYm27)
      have q31 := zhd (congrArg (Ym27 2 0 0) (show (2010 + 16 * a1 + 10) = 2020 + 16 * a1 from (by first | (omega) | (have q1 := zhx q1; have q2 := zhx q2; have q6 := zhx q6; have q7 := zhx q7; omega))))
      have q32 := zhd (((zu_ne (k' := 2) (b' := 0) (i' := 0) (j' := 2020 + 16 * a1) hYm27 (fun q => absurd q.1 (by decide))).trans (zu_ne (k' := 2) (b' := 0) (i' := 0) (j' := 2020 + 16 * a1) hYm23 (fun q => absurd q.1 (by decide)))))
      obtain rfl : C = _ := hC
      obtain rfl : M = _ := hM
      exact ⟨zRx_1 hR28, hV29, ⟨Z, _, .inl ⟨rfl, yFr_w hG30 (by decide)⟩, zFc_r, yFr_r⟩, zThr_a th9 (by first | rfl | (have q1 := zhx q1; have q2 := zhx q2; have q6 := zhx q6; have q7 := zhx q7; have q21 := zhx q21; have q22 := zhx q22; have q31 := zhx q31; have q32 := zhx q32; omega) | (simp only [zhx q1, zhx q2, zhx q6, zhx q7, zhx q21, zhx q22, zhx q31, zhx q32] <;> omega) | (have q1 := zhx q1; have q2 := zhx q2; have q6 := zhx q6; have q7 := zhx q7; have q21 := zhx q21; have q22 := zhx q22; have q31 := zhx q31; have q32 := zhx q32; refine w3z ?_ ?_ ?_ <;> omega) | (have q1 := zhx q1; have q2 := zhx q2; have q6 := zhx q6; have q7 := zhx q7; have q21 := zhx q21; have q22 := zhx q22; have q31 := zhx q31; have q32 := zhx q32; refine w3y ?_ ?_ ?_ <;> omega) | (have q1 := zhx q1; have q2 := zhx q2; have q6 := zhx q6; have q7 := zhx q7; have q21 := zhx q21; have q22 := zhx q22; have q31 := zhx q31; have q32 := zhx q32; refine z2o ?_ ?_ ?_ <;> omega))⟩
  · rcases zE_c hM with ⟨h33, hM⟩ | ⟨h33, hM⟩
    · obtain ⟨Ym34, hYm34, hM⟩ := zl_x hM
      have hR35 : zRx [] 0 Z Ym34 := zRx_o hRb hYm34 rfl
      have hV36 : zV Ym34 := zV_o hV hYm34 rfl
      have hG37 := yFr_o hG hYm34 rfl (.inr rfl) rfl
      have th9 := (zu_at hYm34)
      obtain rfl : C = _ := hC
      obtain rfl : M = _ := hM
      exact ⟨zRx_1 hR35, hV36, ⟨Z, _, .inl ⟨rfl, yFr_w hG37 (by decide)⟩, zFc_r, yFr_r⟩, zThr_e th9 (by decide)⟩
    · rcases zE_c hM with ⟨h38, hM⟩ | ⟨h38, hM⟩
      · obtain ⟨Ym39, hYm39, hM⟩ := zl_x hM
        have hR40 : zRx [] 0 Z Ym39 := zRx_o hRb hYm39 rfl
        have hV41 : zV Ym39 := zV_o hV hYm39 rfl
        have hG42 := yFr_o hG hYm39 rfl (.inr rfl) rfl
        have th9 := (zu_at hYm39)
        obtain rfl : C = _ := hC
        obtain rfl : M = _ := hM
        exact ⟨zRx_1 hR40, hV41, ⟨Z, _, .inl ⟨rfl, yFr_w hG42 (by decide)⟩, zFc_r, yFr_r⟩, zThr_e th9 (by decide)⟩
      · obtain ⟨Ym43, hYm43, hM⟩ := zl_x hM
        have hR44 : zRx [] 0 Z Ym43 := zRx_o hRb hYm43 rfl
        have hV45 : zV Ym43 := zV_o hV hYm43 rfl
        have hG46 := yFr_o hG hYm43 rfl (.inr rfl) rfl
        replace hM := zE_n hM (by first | (have q1 := zhx q1; have q2 := zhx q2; omega) | (simp only [zhx q1, zhx q2] at h3 h33 h38 ⊢ <;> omega))
        replace hM := zE_n hM (by first | (have q1 := zhx q1; have q2 := zhx q2; omega) | (simp only [zhx q1, zhx q2] at h3 h33 h38 ⊢ <;> omega))
        obtain ⟨Ym47, hYm47, hM⟩ := zl_x hM
        have hR48 : zRx [] 0 Z Ym47 := zRx_o hR44 hYm47 rfl
        have hV49 : zV Ym47 := zV_o hV45 hYm47 rfl
        have hG50 := yFr_o hG46 hYm47 rfl (.inr rfl) rfl
        replace hM := zE_p hM (by first | (have q1 := zhx q1; have q2 := zhx q2; omega) | (simp only [zhx q1, zhx q2] at h3 h33 h38 ⊢ <;> omega))
        exact False.elim (by have q1 := zhx q1; have q2 := zhx q2; first | omega | grind)

/- face parcel_11 -/
theorem rf_parcel_11 {Z Y : qz_Z} {dm : qz_Z → Int → Int → Int → Int → Int → Int → Int → qz_Z} {a1 : Int} (hRa : zR 0 Z Y) (hV : zV Y) (hI : zI none Z) (hd : zDf dm) (hD1 : zD1 0 Z Y) (hD4 : zD4 0 Z Y) (hN1 : zN1 Y) (hN4 : zN4 Y) (hDs : zDs 0 Z Y) (hDw : zDw 0 Z Y) (hDl : zDl 0 Z Y)  {C : qz_Z × Int × Int} {M : qz_Z × Int} (hC : zE C (zx_226 Z a1 11)) (hM : zE M (zy_449 Y a1 11)) : zR 0 C.1 M.1 ∧ zV M.1 ∧ zDd [] [99999] Z Y dm C.1 M.1 ∧ zThr [(24, 1), (13, 2)] C.2 (M.1 1 0 0 2) M.2 := by
  have hRb := zRx_0 hRa
  have hF : zFc [] 0 Z Z := zFc_r
  have hG : yFr [99999] Y Y := yFr_r
  unfold zx_226 at hC
  unfold zy_449 at hM
  have q1 := zhd (zVr_11_6 (a := 2000) hV (by omega))
  have q2 := zhd ((zRl_11_6 (a := 2000) hRa (by omega)))
  rcases zE_c hC with ⟨h3, hC⟩ | ⟨h3, hC⟩
  · replace hC := zE_p hC (by first | (have q1 := zhx q1; have q2 := zhx q2; omega) | (simp only [zhx q1, zhx q2] at h3 ⊢ <;> omega))
    obtain ⟨v5, g4, hC⟩ := zl_x hC
    replace g4 : zE _ _ := g4
    unfold zf_36 at g4
    have q6 := zhd (zVr_47_9 (x := a1) (a := 2019 + 16 * a1) hV (by have q1 := zhx q1; have q2 := zhx q2; omega) (by have q1 := zhx q1; have q2 := zhx q2; omega) (by have q1 := zhx q1; have q2 := zhx q2; omega))
    have q7 := zhd ((zRl_47_9 (x := a1) (a := 2019 + 16 * a1) hRa (by have q1 := zhx q1; have q2 := zhx q2; omega) (by have q1 := zhx q1; have q2 := zhx q2; omega) (by have q1 := zhx q1; have q2 := zhx q2; omega)))
    rcases zE_c g4 with ⟨h8, g4⟩ | ⟨h8, g4⟩
    · replace g4 := zE_n g4 (by first | (have q1 := zhx q1; have q2 := zhx q2; have q6 := zhx q6; have q7 := zhx q7; omega) | (simp only [zhx q1, zhx q2, zhx q6, zhx q7] at h3 h8 ⊢ <;> omega))
      replace g4 := zE_p g4 (by first | (have q1 := zhx q1; have q2 := zhx q2; have q6 := zhx q6; have q7 := zhx q7; omega) | (simp only [zhx q1, zhx q2, zhx q6, zhx q7] at h3 h8 ⊢ <;> omega))
      have q9 := zhd (((hD4 (a1) (by first | (omega) | (have q1 := zhx q1; have q2 := zhx q2; have q6 := zhx q6; have q7 := zhx q7; omega)) (by first | (omega) | (have q1 := zhx q1; have q2 := zhx q2; have q6 := zhx q6; have q7 := zhx q7; omega)) (by first | (have q6 := zhx q6; omega) | (have q1 := zhx q1; have q2 := zhx q2; have q6 := zhx q6; have q7 := zhx q7; omega))).1))
      have e9 : (Z 47 0 a1 11) = v5 := Eq.symm g4
      subst e9
      replace hM := zE_n hM (by first | (have q1 := zhx q1; have q2 := zhx q2; have q6 := zhx q6; have q7 := zhx q7; omega) | (simp only [zhx q1, zhx q2, zhx q6, zhx q7] at h3 h8 ⊢ <;> omega))
      replace hM := zE_n hM (by first | (have q1 := zhx q1; have q2 := zhx q2; have q6 := zhx q6; have q7 := zhx q7; omega) | (simp only [zhx q1, zhx q2, zhx q6, zhx q7] at h3 h8 ⊢ <;> omega))
      obtain ⟨Ym10, hYm10, hM⟩ := zl_x hM
      have hR11 : zRx [] 0 Z Ym10 := zRx_o hRb hYm10 rfl
      have hV12 : zV Ym10 := zV_o hV hYm10 rfl
      have hG13 := yFr_o hG hYm10 rfl (.inr rfl) rfl
      replace hM := zE_n hM (by first | (have q1 := zhx q1; have q2 := zhx q2; have q6 := zhx q6; have q7 := zhx q7; omega) | (simp only [zhx q1, zhx q2, zhx q6, zhx q7] at h3 h8 ⊢ <;> omega))
      replace hM := zE_n hM (by first | (have q1 := zhx q1; have q2 := zhx q2; have q6 := zhx q6; have q7 := zhx q7; omega) | (simp only [zhx q1, zhx q2, zhx q6, zhx q7] at h3 h8 ⊢ <;> omega))
      obtain ⟨Ym14, hYm14, hM⟩ := zl_x hM
      have hR15 : zRx [] 0 Z Ym14 := zRx_o hR11 hYm14 rfl
      have hV16 : zV Ym14 := zV_o hV12 hYm14 rfl
      have hG17 := yFr_o hG13 hYm14 rfl (.inr rfl) rfl
      replace hM := zE_n hM (by first | (have q1 := zhx q1; have q2 := zhx q2; have q6 := zhx q6; have q7 := zhx q7; omega) | (simp only [zhx q1, zhx q2, zhx q6, zhx q7] at h3 h8 ⊢ <;> omega))
      replace hM := zE_p hM (by first | (have q1 := zhx q1; have q2 := zhx q2; have q6 := zhx q6; have q7 := zhx q7; omega) | (simp only [zhx q1, zhx q2, zhx q6, zhx q7] at h3 h8 ⊢ <;> omega))
      have q18 := zhd (((zu_ne (k' := 2) (b' := 0) (i' := 0) (j' := 2019 + 16 * a1) hYm14 (fun q => absurd q.1 (by decide))).trans (zu_ne (k' := 2) (b' := 0) (i' := 0) (j' := 2019 + 16 * a1) hYm10 (fun q => absurd q.1 (by decide)))))
      replace hM := zE_p hM (by first | (have q1 := zhx q1; have q2 := zhx q2; have q6 := zhx q6; have q7 := zhx q7; have q18 := zhx q18; omega) | (simp only [zhx q1, zhx q2, zhx q6, zhx q7, zhx q18] at h3 h8 ⊢ <;> omega))
      have th9 := (zu_at hYm14)
      have q19 := zhd (((zu_ne (k' := 2) (b' := 0) (i' := 0) (j' := 2021 + 16 * a1) hYm14 (fun q => absurd q.1 (by decide))).trans (zu_ne (k' := 2) (b' := 0) (i' := 0) (j' := 2021 + 16 * a1) hYm10 (fun q => absurd q.1 (by decide)))))
      obtain rfl : C = _ := hC
      obtain rfl : M = _ := hM
      exact ⟨zRx_1 hR15, hV16, ⟨Z, _, .inl ⟨rfl, yFr_w hG17 (by decide)⟩, zFc_r, yFr_r⟩, zThr_a th9 (by first | rfl | (have q1 := zhx q1; have q2 := zhx q2; have q6 := zhx q6; have q7 := zhx q7; have q9 := zhx q9; have q19 := zhx q19; omega) | (simp only [zhx q1, zhx q2, zhx q6, zhx q7, zhx q9, zhx q19] <;> omega) | (have q1 := zhx q1; have q2 := zhx q2; have q6 := zhx q6; have q7 := zhx q7; have q9 := zhx q9; have q19 := zhx q19; refine w3z ?_ ?_ ?_ <;> omega) | (have q1 := zhx q1; have q2 := zhx q2; have q6 := zhx q6; have q7 := zhx q7; have q9 := zhx q9; have q19 := zhx q19; refine w3y ?_ ?_ ?_ <;> omega) | (have q1 := zhx q1; have q2 := zhx q2; have q6 := zhx q6; have q7 := zhx q7; have q9 := zhx q9; have q19 := zhx q19; refine z2o ?_ ?_ ?_ <;> omega))⟩
    · replace g4 := zE_n g4 (by first | (have q1 := zhx q1; have q2 := zhx q2; have q6 := zhx q6; have q7 := zhx q7; omega) | (simp only [zhx q1, zhx q2, zhx q6, zhx q7] at h3 h8 ⊢ <;> omega))
      replace g4 := zE_p g4 (by first | (have q1 := zhx q1; have q2 := zhx q2; have q6 := zhx q6; have q7 := zhx q7; omega) | (simp only [zhx q1, zhx q2, zhx q6, zhx q7] at h3 h8 ⊢ <;> omega))
      have q20 := zhd (zVr_47_0 (x := a1) (a := 2010 + 16 * a1) hV (by first | (omega) | (have q1 := zhx q1; have q2 := zhx q2; have q6 := zhx q6; have q7 := zhx q7; omega)) (by first | (omega) | (have q1 := zhx q1; have q2 := zhx q2; have q6 := zhx q6; have q7 := zhx q7; omega)) (by first | (omega) | (have q1 := zhx q1; have q2 := zhx q2; have q6 := zhx q6; have q7 := zhx q7; omega)))
      have q21 := zhd ((zRl_47_0 (x := a1) (a := 2010 + 16 * a1) hRa (by first | (omega) | (have q1 := zhx q1; have q2 := zhx q2; have q6 := zhx q6; have q7 := zhx q7; omega)) (by first | (omega) | (have q1 := zhx q1; have q2 := zhx q2; have q6 := zhx q6; have q7 := zhx q7; omega)) (by first | (omega) | (have q1 := zhx q1; have q2 := zhx q2; have q6 := zhx q6; have q7 := zhx q7; omega))))
      have q22 := zhd ((zRl_44_7 (x := (Z 47 0 a1 0)) (a := 207 + 20 * (Y 2 0 0 (2010 + 16 * a1))) hRa (by first | (have q20 := zhx q20; have q21 := zhx q21; omega) | (have q1 := zhx q1; have q2 := zhx q2; have q6 := zhx q6; have q7 := zhx q7; have q20 := zhx q20; have q21 := zhx q21; omega)) (by first | (have q20 := zhx q20; have q21 := zhx q21; omega) | (have q1 := zhx q1; have q2 := zhx q2; have q6 := zhx q6; have q7 := zhx q7; have q20 := zhx q20; have q21 := zhx q21; omega)) (by first | (have q20 := zhx q20; have q21 := zhx q21; omega) | (have q1 := zhx q1; have q2 := zhx q2; have q6 := zhx q6; have q7 := zhx q7; have q20 := zhx q20; have q21 := zhx q21; omega))))
      have q23 := zhd ((congrArg (fun x => Z 44 0 x 7) (show (Y 2 0 0 (2010 + 16 * a1)) = (Z 47 0 a1 0) from (by first | (have q20 := zhx q20; have q21 := zhx q21; omega) | (have q1 := zhx q1; have q2 := zhx q2; have q6 := zhx q6; have q7 := zhx q7; have q20 := zhx q20; have q21 := zhx q21; omega)))).trans (zhx q22))
      have e9 : (Z 44 0 (Z 47 0 a1 0) 7) = v5 := Eq.symm g4
      subst e9
      replace hM := zE_n hM (by first | (have q1 := zhx q1; have q2 := zhx q2; have q6 := zhx q6; have q7 := zhx q7; omega) | (simp only [zhx q1, zhx q2, zhx q6, zhx q7] at h3 h8 ⊢ <;> omega))
      replace hM := zE_n hM (by first | (have q1 := zhx q1; have q2 := zhx q2; have q6 := zhx q6; have q7 := zhx q7; omega) | (simp only [zhx q1, zhx q2, zhx q6, zhx q7] at h3 h8 ⊢ <;> omega))
      obtain ⟨Ym24, hYm24, hM⟩ := zl_x hM
      have hR25 : zRx [] 0 Z Ym24 := zRx_o hRb hYm24 rfl
      have hV26 : zV Ym24 := zV_o hV hYm24 rfl
      have hG27 := yFr_o hG hYm24 rfl (.inr rfl) rfl
      replace hM := zE_n hM (by first | (have q1 := zhx q1; have q2 := zhx q2; have q6 := zhx q6; have q7 := zhx q7; omega) | (simp only [zhx q1, zhx q2, zhx q6, zhx q7] at h3 h8 ⊢ <;> omega))
      replace hM := zE_n hM (by first | (have q1 := zhx q1; have q2 := zhx q2; have q6 := zhx q6; have q7 := zhx q7; omega) | (simp only [zhx q1, zhx q2, zhx q6, zhx q7] at h3 h8 ⊢ <;> omega))
      obtain ⟨Ym28, hYm28, hM⟩ := zl_x hM
      have hR29 : zRx [] 0 Z Ym28 := zRx_o hR25 hYm28 rfl
      have hV30 : zV Ym28 := zV_o hV26 hYm28 rfl
      have hG31 := yFr_o hG27 hYm28 rfl (.inr rfl) rfl
      replace hM := zE_n hM (by first | (have q1 := zhx q1; have q2 := zhx q2; have q6 := zhx q6; have q7 := zhx q7; omega) | (simp only [zhx q1, zhx q2, zhx q6, zhx q7] at h3 h8 ⊢ <;> omega))
      replace hM := zE_p hM (by first | (have q1 := zhx q1; have q2 := zhx q2; have q6 := zhx q6; have q7 := zhx q7; omega) | (simp only [zhx q1, zhx q2, zhx q6, zhx q7] at h3 h8 ⊢ <;> omega))
      have q32 := zhd (((zu_ne (k' := 2) (b' := 0) (i' := 0) (j' := 2019 + 16 * a1) hYm28 (fun q => absurd q.1 (by decide))).trans (zu_ne (k' := 2) (b' := 0) (i' := 0) (j' := 2019 + 16 * a1) hYm24 (fun q => absurd q.1 (by decide)))))
      replace hM := zE_n hM (by first | (have q1 := zhx q1; have q2 := zhx q2; have q6 := zhx q6; have q7 := zhx q7; have q32 := zhx q32; omega) | (simp only [zhx q1, zhx q2, zhx q6, zhx q7, zhx q32] at h3 h8 ⊢ <;> omega))
      have th9 := (zu_at hYm28)
      have q33 := zhd (((zu_ne (k' := 2) (b' := 0) (i' := 0) (j' := 2010 + 16 * a1) hYm28 (fun q => absurd q.1 (by decide))).trans (zu_ne (k' := 2) (b' := 0) (i' := 0) (j' := 2010 + 16 * a1) hYm24 (fun q => absurd q.1 (by decide)))))
      have q34 := zhd (congrArg (Ym28 2 0 0) (show (207 + 20 * (Ym28 2 0 0 (2010 + 16 * a1))) = 207 + 20 * (Y 2 0 0 (2010 + 16 * a1)) from (by first | (have q20 := zhx q20; have q33 := zhx q33; omega) | (have q1 := zhx q1; have q2 := zhx q2; have q6 := zhx q6; have q7 := zhx q7; have q20 := zhx q20; have q33 := zhx q33; omega))))
      have q35 := zhd (((zu_ne (k' := 2) (b' := 0) (i' := 0) (j' := 207 + 20 * (Y 2 0 0 (2010 + 16 * a1))) hYm28 (fun q => absurd q.1 (by decide))).trans (zu_ne (k' := 2) (b' := 0) (i' := 0) (j' := 207 + 20 * (Y 2 0 0 (2010 + 16 * a1))) hYm24 (fun q => absurd q.1 (by decide)))))
      obtain rfl : C = _ := hC
      obtain rfl : M = _ := hM
      exact ⟨zRx_1 hR29, hV30, ⟨Z, _, .inl ⟨rfl, yFr_w hG31 (by decide)⟩, zFc_r, yFr_r⟩, zThr_a th9 (by first | rfl | (have q1 := zhx q1; have q2 := zhx q2; have q6 := zhx q6; have q7 := zhx q7; have q20 := zhx q20; have q21 := zhx q21; have q22 := zhx q22; have q23 := zhx q23; have q33 := zhx q33; have q34 := zhx q34; have q35 := zhx q35; omega) | (simp only [zhx q1, zhx q2, zhx q6, zhx q7, zhx q20, zhx q21, zhx q22, zhx q23, zhx q33, zhx q34, zhx q35] <;> omega) | (have q1 := zhx q1; have q2 := zhx q2; have q6 := zhx q6; have q7 := zhx q7; have q20 := zhx q20; have q21 := zhx q21; have q22 := zhx q22; have q23 := zhx q23; have q33 := zhx q33; have q34 := zhx q34; have q35 := zhx q35; refine w3z ?_ ?_ ?_ <;> omega) | (have q1 := zhx q1; have q2 := zhx q2; have q6 := zhx q6; have q7 := zhx q7; have q20 := zhx q20; have q21 := zhx q21; have q22 := zhx q22; have q23 := zhx q23; have q33 := zhx q33; have q34 := zhx q34; have q35 := zhx q35; refine w3y ?_ ?_ ?_ <;> omega) | (have q1 := zhx q1; have q2 := zhx q2; have q6 := zhx q6; have q7 := zhx q7; have q20 := zhx q20; have q21 := zhx q21; have q22 := zhx q22; have q23 := zhx q23; have q33 := zhx q33; have q34 := zhx q34; have q35 := zhx q35; refine z2o ?_ ?_ ?_ <;> omega))⟩
  · rcases zE_c hM with ⟨h36, hM⟩ | ⟨h36, hM⟩
    · obtain ⟨Ym37, hYm37, hM⟩ := zl_x hM
      have hR38 : zRx [] 0 Z Ym37 := zRx_o hRb hYm37 rfl
      have hV39 : zV Ym37 := zV_o hV hYm37 rfl
      have hG40 := yFr_o hG hYm37 rfl (.inr rfl) rfl
      have th9 := (zu_at hYm37)
      obtain rfl : C = _ := hC
      obtain rfl : M = _ := hM
      exact ⟨zRx_1 hR38, hV39, ⟨Z, _, .inl ⟨rfl, yFr_w hG40 (by decide)⟩, zFc_r, yFr_r⟩, zThr_e th9 (by decide)⟩
    · rcases zE_c hM with ⟨h41, hM⟩ | ⟨h41, hM⟩
      · obtain ⟨Ym42, hYm42, hM⟩ := zl_x hM
        have hR43 : zRx [] 0 Z Ym42 := zRx_o hRb hYm42 rfl
        have hV44 : zV Ym42 := zV_o hV hYm42 rfl
        have hG45 := yFr_o hG hYm42 rfl (.inr rfl) rfl
        have th9 := (zu_at hYm42)
        obtain rfl : C = _ := hC
        obtain rfl : M = _ := hM
        exact ⟨zRx_1 hR43, hV44, ⟨Z, _, .inl ⟨rfl, yFr_w hG45 (by decide)⟩, zFc_r, yFr_r⟩, zThr_e th9 (by decide)⟩
      · obtain ⟨Ym46, hYm46, hM⟩ := zl_x hM
        have hR47 : zRx [] 0 Z Ym46 := zRx_o hRb hYm46 rfl
        have hV48 : zV Ym46 := zV_o hV hYm46 rfl
        have hG49 := yFr_o hG hYm46 rfl (.inr rfl) rfl
        replace hM := zE_n hM (by first | (have q1 := zhx q1; have q2 := zhx q2; omega) | (simp only [zhx q1, zhx q2] at h3 h36 h41 ⊢ <;> omega))
        replace hM := zE_n hM (by first | (have q1 := zhx q1; have q2 := zhx q2; omega) | (simp only [zhx q1, zhx q2] at h3 h36 h41 ⊢ <;> omega))
        obtain ⟨Ym50, hYm50, hM⟩ := zl_x hM
        have hR51 : zRx [] 0 Z Ym50 := zRx_o hR47 hYm50 rfl
        have hV52 : zV Ym50 := zV_o hV48 hYm50 rfl
        have hG53 := yFr_o hG49 hYm50 rfl (.inr rfl) rfl
        replace hM := zE_n hM (by first | (have q1 := zhx q1; have q2 := zhx q2; omega) | (simp only [zhx q1, zhx q2] at h3 h36 h41 ⊢ <;> omega))
        replace hM := zE_p hM (by first | (have q1 := zhx q1; have q2 := zhx q2; omega) | (simp only [zhx q1, zhx q2] at h3 h36 h41 ⊢ <;> omega))
        have q54 := zhd (zVr_47_9 (x := a1) (a := 2019 + 16 * a1) hV (by have q1 := zhx q1; have q2 := zhx q2; omega) (by have q1 := zhx q1; have q2 := zhx q2; omega) (by have q1 := zhx q1; have q2 := zhx q2; omega))
        have q55 := zhd (((zu_ne (k' := 2) (b' := 0) (i' := 0) (j' := 2019 + 16 * a1) hYm50 (fun q => absurd q.1 (by decide))).trans (zu_ne (k' := 2) (b' := 0) (i' := 0) (j' := 2019 + 16 * a1) hYm46 (fun q => absurd q.1 (by decide)))))
        rcases zE_c hM with ⟨h56, hM⟩ | ⟨h56, hM⟩
        · exact False.elim (by have q1 := zhx q1; have q2 := zhx q2; have q54 := zhx q54; have q55 := zhx q55; first | omega | grind)
        · exact False.elim (by have q1 := zhx q1; have q2 := zhx q2; have q54 := zhx q54; have q55 := zhx q55; first | omega | grind)

/- face parcel_12 -/
theorem rf_parcel_12 {Z Y : qz_Z} {dm : qz_Z → Int → Int → Int → Int → Int → Int → Int → qz_Z} {a1 : Int} (hRa : zR 0 Z Y) (hV : zV Y) (hI : zI none Z) (hd : zDf dm) (hD1 : zD1 0 Z Y) (hD4 : zD4 0 Z Y) (hN1 : zN1 Y) (hN4 : zN4 Y) (hDs : zDs 0 Z Y) (hDw : zDw 0 Z Y) (hDl : zDl 0 Z Y)  {C : qz_Z × Int × Int} {M : qz_Z × Int} (hC : zE C (zx_226 Z a1 12)) (hM : zE M (zy_449 Y a1 12)) : zR 0 C.1 M.1 ∧ zV M.1 ∧ zDd [] [99999] Z Y dm C.1 M.1 ∧ zThr [(24, 1), (13, 2)] C.2 (M.1 1 0 0 2) M.2 := by
  have hRb := zRx_0 hRa
  have hF : zFc [] 0 Z Z := zFc_r
  have hG : yFr [99999] Y Y := yFr_r
  unfold zx_226 at hC
  unfold zy_449 at hM
  have q1 := zhd (zVr_11_6 (a := 2000) hV (by omega))
  have q2 := zhd ((zRl_11_6 (a := 2000) hRa (by omega)))
  rcases zE_c hC with ⟨h3, hC⟩ | ⟨h3, hC⟩
  · replace hC := zE_p hC (by first | (have q1 := zhx q1; have q2 := zhx q2; omega) | (simp only [zhx q1, zhx q2] at h3 ⊢ <;> omega))
    obtain ⟨v5, g4, hC⟩ := zl_x hC
    replace g4 : zE _ _ := g4
    unfold zf_36 at g4
    have q6 := zhd (zVr_47_9 (x := a1) (a := 2019 + 16 * a1) hV (by have q1 := zhx q1; have q2 := zhx q2; omega) (by have q1 := zhx q1; have q2 := zhx q2; omega) (by have q1 := zhx q1; have q2 := zhx q2; omega))
    have q7 := zhd ((zRl_47_9 (x := a1) (a := 2019 + 16 * a1) hRa (by have q1 := zhx q1; have q2 := zhx q2; omega) (by have q1 := zhx q1; have q2 := zhx q2; omega) (by have q1 := zhx q1; have q2 := zhx q2; omega)))
    rcases zE_c g4 with ⟨h8, g4⟩ | ⟨h8, g4⟩
    · replace g4 := zE_n g4 (by first | (have q1 := zhx q1; have q2 := zhx q2; have q6 := zhx q6; have q7 := zhx q7; omega) | (simp only [zhx q1, zhx q2, zhx q6, zhx q7] at h3 h8 ⊢ <;> omega))
      replace g4 := zE_n g4 (by first | (have q1 := zhx q1; have q2 := zhx q2; have q6 := zhx q6; have q7 := zhx q7; omega) | (simp only [zhx q1, zhx q2, zhx q6, zhx q7] at h3 h8 ⊢ <;> omega))
      replace g4 := zE_p g4 (by first | (have q1 := zhx q1; have q2 := zhx q2; have q6 := zhx q6; have q7 := zhx q7; omega) | (simp only [zhx q1, zhx q2, zhx q6, zhx q7] at h3 h8 ⊢ <;> omega))
      have q9 := zhd (zVr_harm (x := a1) (a := 2022 + 16 * a1) hV (by first | (omega) | (have q1 := zhx q1; have q2 := zhx q2; have q6 := zhx q6; have q7 := zhx q7; omega)) (by first | (omega) | (have q1 := zhx q1; have q2 := zhx q2; have q6 := zhx q6; have q7 := zhx q7; omega)) (by first | (omega) | (have q1 := zhx q1; have q2 := zhx q2; have q6 := zhx q6; have q7 := zhx q7; omega)))
      have q10 := zhd (((hD4 (a1) (by first | (omega) | (have q1 := zhx q1; have q2 := zhx q2; have q6 := zhx q6; have q7 := zhx q7; omega)) (by first | (omega) | (have q1 := zhx q1; have q2 := zhx q2; have q6 := zhx q6; have q7 := zhx q7; omega)) (by first | (have q6 := zhx q6; omega) | (have q1 := zhx q1; have q2 := zhx q2; have q6 := zhx q6; have q7 := zhx q7; omega))).2))
      have e9 : (Z 47 0 a1 12) = v5 := Eq.symm g4
      subst e9
      replace hM := zE_n hM (by first | (have q1 := zhx q1; have q2 := zhx q2; have q6 := zhx q6; have q7 := zhx q7; omega) | (simp only [zhx q1, zhx q2, zhx q6, zhx q7] at h3 h8 ⊢ <;> omega))
      replace hM := zE_n hM (by first | (have q1 := zhx q1; have q2 := zhx q2; have q6 := zhx q6; have q7 := zhx q7; omega) | (simp only [zhx q1, zhx q2, zhx q6, zhx q7] at h3 h8 ⊢ <;> omega))
      obtain ⟨Ym11, hYm11, hM⟩ := zl_x hM
      have hR12 : zRx [] 0 Z Ym11 := zRx_o hRb hYm11 rfl
      have hV13 : zV Ym11 := zV_o hV hYm11 rfl
      have hG14 := yFr_o hG hYm11 rfl (.inr rfl) rfl
      replace hM := zE_n hM (by first | (have q1 := zhx q1; have q2 := zhx q2; have q6 := zhx q6; have q7 := zhx q7; omega) | (simp only [zhx q1, zhx q2, zhx q6, zhx q7] at h3 h8 ⊢ <;> omega))
      replace hM := zE_n hM (by first | (have q1 := zhx q1; have q2 := zhx q2; have q6 := zhx q6; have q7 := zhx q7; omega) | (simp only [zhx q1, zhx q2, zhx q6, zhx q7] at h3 h8 ⊢ <;> omega))
      obtain ⟨Ym15, hYm15, hM⟩ := zl_x hM
      have hR16 : zRx [] 0 Z Ym15 := zRx_o hR12 hYm15 rfl
      have hV17 : zV Ym15 := zV_o hV13 hYm15 rfl
      have hG18 := yFr_o hG14 hYm15 rfl (.inr rfl) rfl
      replace hM := zE_n hM (by first | (have q1 := zhx q1; have q2 := zhx q2; have q6 := zhx q6; have q7 := zhx q7; omega) | (simp only [zhx q1, zhx q2, zhx q6, zhx q7] at h3 h8 ⊢ <;> omega))
      replace hM := zE_n hM (by first | (have q1 := zhx q1; have q2 := zhx q2; have q6 := zhx q6; have q7 := zhx q7; omega) | (simp only [zhx q1, zhx q2, zhx q6, zhx q7] at h3 h8 ⊢ <;> omega))
      replace hM := zE_p hM (by first | (have q1 := zhx q1; have q2 := zhx q2; have q6 := zhx q6; have q7 := zhx q7; omega) | (simp only [zhx q1, zhx q2, zhx q6, zhx q7] at h3 h8 ⊢ <;> omega))
      have q19 := zhd (((zu_ne (k' := 2) (b' := 0) (i' := 0) (j' := 2019 + 16 * a1) hYm15 (fun q => absurd q.1 (by decide))).trans (zu_ne (k' := 2) (b' := 0) (i' := 0) (j' := 2019 + 16 * a1) hYm11 (fun q => absurd q.1 (by decide)))))
      replace hM := zE_p hM (by first | (have q1 := zhx q1; have q2 := zhx q2; have q6 := zhx q6; have q7 := zhx q7; have q19 := zhx q19; omega) | (simp only [zhx q1, zhx q2, zhx q6, zhx q7, zhx q19] at h3 h8 ⊢ <;> omega))
      have th9 := (zu_at hYm15)
      have q20 := zhd (((zu_ne (k' := 2) (b' := 0) (i' := 0) (j' := 2022 + 16 * a1) hYm15 (fun q => absurd q.1 (by decide))).trans (zu_ne (k' := 2) (b' := 0) (i' := 0) (j' := 2022 + 16 * a1) hYm11 (fun q => absurd q.1 (by decide)))))
      obtain rfl : C = _ := hC
      obtain rfl : M = _ := hM
      exact ⟨zRx_1 hR16, hV17, ⟨Z, _, .inl ⟨rfl, yFr_w hG18 (by decide)⟩, zFc_r, yFr_r⟩, zThr_a th9 (by first | rfl | (have q1 := zhx q1; have q2 := zhx q2; have q6 := zhx q6; have q7 := zhx q7; have q9 := zhx q9; have q10 := zhx q10; have q20 := zhx q20; omega) | (simp only [zhx q1, zhx q2, zhx q6, zhx q7, zhx q9, zhx q10, zhx q20] <;> omega) | (have q1 := zhx q1; have q2 := zhx q2; have q6 := zhx q6; have q7 := zhx q7; have q9 := zhx q9; have q10 := zhx q10; have q20 := zhx q20; refine w3z ?_ ?_ ?_ <;> omega) | (have q1 := zhx q1; have q2 := zhx q2; have q6 := zhx q6; have q7 := zhx q7; have q9 := zhx q9; have q10 := zhx q10; have q20 := zhx q20; refine w3y ?_ ?_ ?_ <;> omega) | (have q1 := zhx q1; have q2 := zhx q2; have q6 := zhx q6; have q7 := zhx q7; have q9 := zhx q9; have q10 := zhx q10; have q20 := zhx q20; refine z2o ?_ ?_ ?_ <;> omega))⟩
    · replace g4 := zE_n g4 (by first | (have q1 := zhx q1; have q2 := zhx q2; have q6 := zhx q6; have q7 := zhx q7; omega) | (simp only [zhx q1, zhx q2, zhx q6, zhx q7] at h3 h8 ⊢ <;> omega))
      replace g4 := zE_n g4 (by first | (have q1 := zhx q1; have q2 := zhx q2; have q6 := zhx q6; have q7 := zhx q7; omega) | (simp only [zhx q1, zhx q2, zhx q6, zhx q7] at h3 h8 ⊢ <;> omega))
      replace g4 := zE_p g4 (by first | (have q1 := zhx q1; have q2 := zhx q2; have q6 := zhx q6; have q7 := zhx q7; omega) | (simp only [zhx q1, zhx q2, zhx q6, zhx q7] at h3 h8 ⊢ <;> omega))
      have q21 := zhd (zVr_47_0 (x := a1) (a := 2010 + 16 * a1) hV (by first | (omega) | (have q1 := zhx q1; have q2 := zhx q2; have q6 := zhx q6; have q7 := zhx q7; omega)) (by first | (omega) | (have q1 := zhx q1; have q2 := zhx q2; have q6 := zhx q6; have q7 := zhx q7; omega)) (by first | (omega) | (have q1 := zhx q1; have q2 := zhx q2; have q6 := zhx q6; have q7 := zhx q7; omega)))
      have q22 := zhd ((zRl_47_0 (x := a1) (a := 2010 + 16 * a1) hRa (by first | (omega) | (have q1 := zhx q1; have q2 := zhx q2; have q6 := zhx q6; have q7 := zhx q7; omega)) (by first | (omega) | (have q1 := zhx q1; have q2 := zhx q2; have q6 := zhx q6; have q7 := zhx q7; omega)) (by first | (omega) | (have q1 := zhx q1; have q2 := zhx q2; have q6 := zhx q6; have q7 := zhx q7; omega))))
      have q23 := zhd (zVr_44_8 (x := (Y 2 0 0 (2010 + 16 * a1))) (a := 208 + 20 * (Y 2 0 0 (2010 + 16 * a1))) hV (by first | (have q21 := zhx q21; omega) | (have q1 := zhx q1; have q2 := zhx q2; have q6 := zhx q6; have q7 := zhx q7; have q21 := zhx q21; omega)) (by first | (have q21 := zhx q21; omega) | (have q1 := zhx q1; have q2 := zhx q2; have q6 := zhx q6; have q7 := zhx q7; have q21 := zhx q21; omega)) (by first | (have q21 := zhx q21; omega) | (have q1 := zhx q1; have q2 := zhx q2; have q6 := zhx q6; have q7 := zhx q7; have q21 := zhx q21; omega)))
      have q24 := zhd ((zRl_44_8 (x := (Z 47 0 a1 0)) (a := 208 + 20 * (Y 2 0 0 (2010 + 16 * a1))) hRa (by first | (have q21 := zhx q21; have q22 := zhx q22; omega) | (have q1 := zhx q1; have q2 := zhx q2; have q6 := zhx q6; have q7 := zhx q7; have q21 := zhx q21; have q22 := zhx q22; omega)) (by first | (have q21 := zhx q21; have q22 := zhx q22; omega) | (have q1 := zhx q1; have q2 := zhx q2; have q6 := zhx q6; have q7 := zhx q7; have q21 := zhx q21; have q22 := zhx q22; omega)) (by first | (have q21 := zhx q21; have q22 := zhx q22; omega) | (have q1 := zhx q1; have q2 := zhx q2; have q6 := zhx q6; have q7 := zhx q7; have q21 := zhx q21; have q22 := zhx q22; omega))))
      have q25 := zhd ((congrArg (fun x => Z 44 0 x 8) (show (Y 2 0 0 (2010 + 16 * a1)) = (Z 47 0 a1 0) from (by first | (have q21 := zhx q21; have q22 := zhx q22; omega) | (have q1 := zhx q1; have q2 := zhx q2; have q6 := zhx q6; have q7 := zhx q7; have q21 := zhx q21; have q22 := zhx q22; omega)))).trans (zhx q24))
      have e9 : (Z 44 0 (Z 47 0 a1 0) 8) = v5 := Eq.symm g4
      subst e9
      replace hM := zE_n hM (by first | (have q1 := zhx q1; have q2 := zhx q2; have q6 := zhx q6; have q7 := zhx q7; omega) | (simp only [zhx q1, zhx q2, zhx q6, zhx q7] at h3 h8 ⊢ <;> omega))
      replace hM := zE_n hM (by first | (have q1 := zhx q1; have q2 := zhx q2; have q6 := zhx q6; have q7 := zhx q7; omega) | (simp only [zhx q1, zhx q2, zhx q6, zhx q7] at h3 h8 ⊢ <;> omega))
      obtain ⟨Ym26, hYm26, hM⟩ := zl_x hM
      have hR27 : zRx [] 0 Z Ym26 := zRx_o hRb hYm26 rfl
      have hV28 : zV Ym26 := zV_o hV hYm26 rfl
      have hG29 := yFr_o hG hYm26 rfl (.inr rfl) rfl
      replace hM := zE_n hM (by first | (have q1 := zhx q1; have q2 := zhx q2; have q6 := zhx q6; have q7 := zhx q7; omega) | (simp only [zhx q1, zhx q2, zhx q6, zhx q7] at h3 h8 ⊢ <;> omega))
      replace hM := zE_n hM (by first | (have q1 := zhx q1; have q2 := zhx q2; have q6 := zhx q6; have q7 := zhx q7; omega) | (simp only [zhx q1, zhx q2, zhx q6, zhx q7] at h3 h8 ⊢ <;> omega))
      obtain ⟨Ym30, hYm30, hM⟩ := zl_x hM
      have hR31 : zRx [] 0 Z Ym30 := zRx_o hR27 hYm30 rfl
      have hV32 : zV Ym30 := zV_o hV28 hYm30 rfl
      have hG33 := yFr_o hG29 hYm30 rfl (.inr rfl) rfl
      replace hM := zE_n hM (by first | (have q1 := zhx q1; have q2 := zhx q2; have q6 := zhx q6; have q7 := zhx q7; omega) | (simp only [zhx q1, zhx q2, zhx q6, zhx q7] at h3 h8 ⊢ <;> omega))
      replace hM := zE_n hM (by first | (have q1 := zhx q1; have q2 := zhx q2; have q6 := zhx q6; have q7 := zhx q7; omega) | (simp only [zhx q1, zhx q2, zhx q6, zhx q7] at h3 h8 ⊢ <;> omega))
      replace hM := zE_p hM (by first | (have q1 := zhx q1; have q2 := zhx q2; have q6 := zhx q6; have q7 := zhx q7; omega) | (simp only [zhx q1, zhx q2, zhx q6, zhx q7] at h3 h8 ⊢ <;> omega))
      have q34 := zhd (((zu_ne (k' := 2) (b' := 0) (i' := 0) (j' := 2019 + 16 * a1) hYm30 (fun q => absurd q.1 (by decide))).trans (zu_ne (k' := 2) (b' := 0) (i' := 0) (j' := 2019 + 16 * a1) hYm26 (fun q => absurd q.1 (by decide)))))
      replace hM := zE_n hM (by first | (have q1 := zhx q1; have q2 := zhx q2; have q6 := zhx q6; have q7 := zhx q7; have q34 := zhx q34; omega) | (simp only [zhx q1, zhx q2, zhx q6, zhx q7, zhx q34] at h3 h8 ⊢ <;> omega))
      have th9 := (zu_at hYm30)
      have q35 := zhd (((zu_ne (k' := 2) (b' := 0) (i' := 0) (j' := 2010 + 16 * a1) hYm30 (fun q => absurd q.1 (by decide))).trans (zu_ne (k' := 2) (b' := 0) (i' := 0) (j' := 2010 + 16 * a1) hYm26 (fun q => absurd q.1 (by decide)))))
      have q36 := zhd (congrArg (Ym30 2 0 0) (show (208 + 20 * (Ym30 2 0 0 (2010 + 16 * a1))) = 208 + 20 * (Y 2 0 0 (2010 + 16 * a1)) from (by first | (have q21 := zhx q21; have q35 := zhx q35; omega) | (have q1 := zhx q1; have q2 := zhx q2; have q6 := zhx q6; have q7 := zhx q7; have q21 := zhx q21; have q35 := zhx q35; omega))))
      have q37 := zhd (((zu_ne (k' := 2) (b' := 0) (i' := 0) (j' := 208 + 20 * (Y 2 0 0 (2010 + 16 * a1))) hYm30 (fun q => absurd q.1 (by decide))).trans (zu_ne (k' := 2) (b' := 0) (i' := 0) (j' := 208 + 20 * (Y 2 0 0 (2010 + 16 * a1))) hYm26 (fun q => absurd q.1 (by decide)))))
      obtain rfl : C = _ := hC
      obtain rfl : M = _ := hM
      exact ⟨zRx_1 hR31, hV32, ⟨Z, _, .inl ⟨rfl, yFr_w hG33 (by decide)⟩, zFc_r, yFr_r⟩, zThr_a th9 (by first | rfl | (have q1 := zhx q1; have q2 := zhx q2; have q6 := zhx q6; have q7 := zhx q7; have q21 := zhx q21; have q22 := zhx q22; have q23 := zhx q23; have q24 := zhx q24; have q25 := zhx q25; have q35 := zhx q35; have q36 := zhx q36; have q37 := zhx q37; omega) | (simp only [zhx q1, zhx q2, zhx q6, zhx q7, zhx q21, zhx q22, zhx q23, zhx q24, zhx q25, zhx q35, zhx q36, zhx q37] <;> omega) | (have q1 := zhx q1; have q2 := zhx q2; have q6 := zhx q6; have q7 := zhx q7; have q21 := zhx q21; have q22 := zhx q22; have q23 := zhx q23; have q24 := zhx q24; have q25 := zhx q25; have q35 := zhx q35; have q36 := zhx q36; have q37 := zhx q37; refine w3z ?_ ?_ ?_ <;> omega) | (have q1 := zhx q1; have q2 := zhx q2; have q6 := zhx q6; have q7 := zhx q7; have q21 := zhx q21; have q22 := zhx q22; have q23 := zhx q23; have q24 := zhx q24; have q25 := zhx q25; have q35 := zhx q35; have q36 := zhx q36; have q37 := zhx q37; refine w3y ?_ ?_ ?_ <;> omega) | (have q1 := zhx q1; have q2 := zhx q2; have q6 := zhx q6; have q7 := zhx q7; have q21 := zhx q21; have q22 := zhx q22; have q23 := zhx q23; have q24 := zhx q24; have q25 := zhx q25; have q35 := zhx q35; have q36 := zhx q36; have q37 := zhx q37; refine z2o ?_ ?_ ?_ <;> omega))⟩
  · rcases zE_c hM with ⟨h38, hM⟩ | ⟨h38, hM⟩
    · obtain ⟨Ym39, hYm39, hM⟩ := zl_x hM
      have hR40 : zRx [] 0 Z Ym39 := zRx_o hRb hYm39 rfl
      have hV41 : zV Ym39 := zV_o hV hYm39 rfl
      have hG42 := yFr_o hG hYm39 rfl (.inr rfl) rfl
      have th9 := (zu_at hYm39)
      obtain rfl : C = _ := hC
      obtain rfl : M = _ := hM
      exact ⟨zRx_1 hR40, hV41, ⟨Z, _, .inl ⟨rfl, yFr_w hG42 (by decide)⟩, zFc_r, yFr_r⟩, zThr_e th9 (by decide)⟩
    · rcases zE_c hM with ⟨h43, hM⟩ | ⟨h43, hM⟩
      · obtain ⟨Ym44, hYm44, hM⟩ := zl_x hM
        have hR45 : zRx [] 0 Z Ym44 := zRx_o hRb hYm44 rfl
        have hV46 : zV Ym44 := zV_o hV hYm44 rfl
        have hG47 := yFr_o hG hYm44 rfl (.inr rfl) rfl
        have th9 := (zu_at hYm44)
        obtain rfl : C = _ := hC
        obtain rfl : M = _ := hM
        exact ⟨zRx_1 hR45, hV46, ⟨Z, _, .inl ⟨rfl, yFr_w hG47 (by decide)⟩, zFc_r, yFr_r⟩, zThr_e th9 (by decide)⟩
      · obtain ⟨Ym48, hYm48, hM⟩ := zl_x hM
        have hR49 : zRx [] 0 Z Ym48 := zRx_o hRb hYm48 rfl
        have hV50 : zV Ym48 := zV_o hV hYm48 rfl
        have hG51 := yFr_o hG hYm48 rfl (.inr rfl) rfl
        replace hM := zE_n hM (by first | (have q1 := zhx q1; have q2 := zhx q2; omega) | (simp only [zhx q1, zhx q2] at h3 h38 h43 ⊢ <;> omega))
        replace hM := zE_n hM (by first | (have q1 := zhx q1; have q2 := zhx q2; omega) | (simp only [zhx q1, zhx q2] at h3 h38 h43 ⊢ <;> omega))
        obtain ⟨Ym52, hYm52, hM⟩ := zl_x hM
        have hR53 : zRx [] 0 Z Ym52 := zRx_o hR49 hYm52 rfl
        have hV54 : zV Ym52 := zV_o hV50 hYm52 rfl
        have hG55 := yFr_o hG51 hYm52 rfl (.inr rfl) rfl
        replace hM := zE_n hM (by first | (have q1 := zhx q1; have q2 := zhx q2; omega) | (simp only [zhx q1, zhx q2] at h3 h38 h43 ⊢ <;> omega))
        replace hM := zE_n hM (by first | (have q1 := zhx q1; have q2 := zhx q2; omega) | (simp only [zhx q1, zhx q2] at h3 h38 h43 ⊢ <;> omega))
        replace hM := zE_p hM (by first | (have q1 := zhx q1; have q2 := zhx q2; omega) | (simp only [zhx q1, zhx q2] at h3 h38 h43 ⊢ <;> omega))
        have q56 := zhd (zVr_47_9 (x := a1) (a := 2019 + 16 * a1) hV (by have q1 := zhx q1; have q2 := zhx q2; omega) (by have q1 := zhx q1; have q2 := zhx q2; omega) (by have q1 := zhx q1; have q2 := zhx q2; omega))
        have q57 := zhd (((zu_ne (k' := 2) (b' := 0) (i' := 0) (j' := 2019 + 16 * a1) hYm52 (fun q => absurd q.1 (by decide))).trans (zu_ne (k' := 2) (b' := 0) (i' := 0) (j' := 2019 + 16 * a1) hYm48 (fun q => absurd q.1 (by decide)))))
        rcases zE_c hM with ⟨h58, hM⟩ | ⟨h58, hM⟩
        · exact False.elim (by have q1 := zhx q1; have q2 := zhx q2; have q56 := zhx q56; have q57 := zhx q57; first | omega | grind)
        · exact False.elim (by have q1 := zhx q1; have q2 := zhx q2; have q56 := zhx q56; have q57 := zhx q57; first | omega | grind)

/- face parcel_13 -/
theorem rf_parcel_13 {Z Y : qz_Z} {dm : qz_Z → Int → Int → Int → Int → Int → Int → Int → qz_Z} {a1 : Int} (hRa : zR 0 Z Y) (hV : zV Y) (hI : zI none Z) (hd : zDf dm) (hD1 : zD1 0 Z Y) (hD4 : zD4 0 Z Y) (hN1 : zN1 Y) (hN4 : zN4 Y) (hDs : zDs 0 Z Y) (hDw : zDw 0 Z Y) (hDl : zDl 0 Z Y)  {C : qz_Z × Int × Int} {M : qz_Z × Int} (hC : zE C (zx_226 Z a1 13)) (hM : zE M (zy_449 Y a1 13)) : zR 0 C.1 M.1 ∧ zV M.1 ∧ zDd [] [99999] Z Y dm C.1 M.1 ∧ zThr [(24, 1), (13, 2)] C.2 (M.1 1 0 0 2) M.2 := by
  have hRb := zRx_0 hRa
  have hF : zFc [] 0 Z Z := zFc_r
  have hG : yFr [99999] Y Y := yFr_r
  unfold zx_226 at hC
  unfold zy_449 at hM
  have q1 := zhd (zVr_11_6 (a := 2000) hV (by omega))
  have q2 := zhd ((zRl_11_6 (a := 2000) hRa (by omega)))
  rcases zE_c hC with ⟨h3, hC⟩ | ⟨h3, hC⟩
  · replace hC := zE_p hC (by first | (have q1 := zhx q1; have q2 := zhx q2; omega) | (simp only [zhx q1, zhx q2] at h3 ⊢ <;> omega))
    obtain ⟨v5, g4, hC⟩ := zl_x hC
    replace g4 : zE _ _ := g4
    unfold zf_36 at g4
    have q6 := zhd (zVr_47_9 (x := a1) (a := 2019 + 16 * a1) hV (by have q1 := zhx q1; have q2 := zhx q2; omega) (by have q1 := zhx q1; have q2 := zhx q2; omega) (by have q1 := zhx q1; have q2 := zhx q2; omega))
    have q7 := zhd ((zRl_47_9 (x := a1) (a := 2019 + 16 * a1) hRa (by have q1 := zhx q1; have q2 := zhx q2; omega) (by have q1 := zhx q1; have q2 := zhx q2; omega) (by have q1 := zhx q1; have q2 := zhx q2; omega)))
    rcases zE_c g4 with ⟨h8, g4⟩ | ⟨h8, g4⟩
    · replace g4 := zE_n g4 (by first | (have q1 := zhx q1; have q2 := zhx q2; have q6 := zhx q6; have q7 := zhx q7; omega) | (simp only [zhx q1, zhx q2, zhx q6, zhx q7] at h3 h8 ⊢ <;> omega))
      replace g4 := zE_n g4 (by first | (have q1 := zhx q1; have q2 := zhx q2; have q6 := zhx q6; have q7 := zhx q7; omega) | (simp only [zhx q1, zhx q2, zhx q6, zhx q7] at h3 h8 ⊢ <;> omega))
      replace g4 := zE_n g4 (by first | (have q1 := zhx q1; have q2 := zhx q2; have q6 := zhx q6; have q7 := zhx q7; omega) | (simp only [zhx q1, zhx q2, zhx q6, zhx q7] at h3 h8 ⊢ <;> omega))
      have q9 := zhd (zVr_47_0 (x := a1) (a := 2010 + 16 * a1) hV (by first | (omega) | (have q1 := zhx q1; have q2 := zhx q2; have q6 := zhx q6; have q7 := zhx q7; omega)) (by first | (omega) | (have q1 := zhx q1; have q2 := zhx q2; have q6 := zhx q6; have q7 := zhx q7; omega)) (by first | (omega) | (have q1 := zhx q1; have q2 := zhx q2; have q6 := zhx q6; have q7 := zhx q7; omega)))
      have q10 := zhd ((zRl_47_0 (x := a1) (a := 2010 + 16 * a1) hRa (by first | (omega) | (have q1 := zhx q1; have q2 := zhx q2; have q6 := zhx q6; have q7 := zhx q7; omega)) (by first | (omega) | (have q1 := zhx q1; have q2 := zhx q2; have q6 := zhx q6; have q7 := zhx q7; omega)) (by first | (omega) | (have q1 := zhx q1; have q2 := zhx q2; have q6 := zhx q6; have q7 := zhx q7; omega))))
      have q11 := zhd (zVr_44_1 (x := (Y 2 0 0 (2010 + 16 * a1))) (a := 201 + 20 * (Y 2 0 0 (2010 + 16 * a1))) hV (by first | (have q9 := zhx q9; omega) | (have q1 := zhx q1; have q2 := zhx q2; have q6 := zhx q6; have q7 := zhx q7; have q9 := zhx q9; omega)) (by first | (have q9 := zhx q9; omega) | (have q1 := zhx q1; have q2 := zhx q2; have q6 := zhx q6; have q7 := zhx q7; have q9 := zhx q9; omega)) (by first | (have q9 := zhx q9; omega) | (have q1 := zhx q1; have q2 := zhx q2; have q6 := zhx q6; have q7 := zhx q7; have q9 := zhx q9; omega)))
      have q12 := zhd ((zRl_44_1 (x := (Z 47 0 a1 0)) (a := 201 + 20 * (Y 2 0 0 (2010 + 16 * a1))) hRa (by first | (have q9 := zhx q9; have q10 := zhx q10; omega) | (have q1 := zhx q1; have q2 := zhx q2; have q6 := zhx q6; have q7 := zhx q7; have q9 := zhx q9; have q10 := zhx q10; omega)) (by first | (have q9 := zhx q9; have q10 := zhx q10; omega) | (have q1 := zhx q1; have q2 := zhx q2; have q6 := zhx q6; have q7 := zhx q7; have q9 := zhx q9; have q10 := zhx q10; omega)) (by first | (have q9 := zhx q9; have q10 := zhx q10; omega) | (have q1 := zhx q1; have q2 := zhx q2; have q6 := zhx q6; have q7 := zhx q7; have q9 := zhx q9; have q10 := zhx q10; omega))))
      have q13 := zhd ((congrArg (fun x => Z 44 0 x 1) (show (Y 2 0 0 (2010 + 16 * a1)) = (Z 47 0 a1 0) from (by first | (have q9 := zhx q9; have q10 := zhx q10; omega) | (have q1 := zhx q1; have q2 := zhx q2; have q6 := zhx q6; have q7 := zhx q7; have q9 := zhx q9; have q10 := zhx q10; omega)))).trans (zhx q12))
      have q14 := zhd ((zRl_41_3 (x := (Z 44 0 (Z 47 0 a1 0) 1)) (a := 113 + 5 * (Y 2 0 0 (201 + 20 * (Y 2 0 0 (2010 + 16 * a1))))) hRa (by first | (have q9 := zhx q9; have q10 := zhx q10; have q11 := zhx q11; have q12 := zhx q12; have q13 := zhx q13; omega) | (have q1 := zhx q1; have q2 := zhx q2; have q6 := zhx q6; have q7 := zhx q7; have q9 := zhx q9; have q10 := zhx q10; have q11 := zhx q11; have q12 := zhx q12; have q13 := zhx q13; omega)) (by first | (have q9 := zhx q9; have q10 := zhx q10; have q11 := zhx q11; have q12 := zhx q12; have q13 := zhx q13; omega) | (have q1 := zhx q1; have q2 := zhx q2; have q6 := zhx q6; have q7 := zhx q7; have q9 := zhx q9; have q10 := zhx q10; have q11 := zhx q11; have q12 := zhx q12; have q13 := zhx q13; omega)) (by first | (have q9 := zhx q9; have q10 := zhx q10; have q11 := zhx q11; have q12 := zhx q12; have q13 := zhx q13; omega) | (have q1 := zhx q1; have q2 := zhx q2; have q6 := zhx q6; have q7 := zhx q7; have q9 := zhx q9; have q10 := zhx q10; have q11 := zhx q11; have q12 := zhx q12; have q13 := zhx q13; omega))))
      have q15 := zhd ((congrArg (fun x => Z 41 0 x 3) (show (Y 2 0 0 (201 + 20 * (Y 2 0 0 (2010 + 16 * a1)))) = (Z 44 0 (Z 47 0 a1 0) 1) from (by first | (have q9 := zhx q9; have q10 := zhx q10; have q11 := zhx q11; have q12 := zhx q12; have q13 := zhx q13; omega) | (have q1 := zhx q1; have q2 := zhx q2; have q6 := zhx q6; have q7 := zhx q7; have q9 := zhx q9; have q10 := zhx q10; have q11 := zhx q11; have q12 := zhx q12; have q13 := zhx q13; omega)))).trans (zhx q14))
      have q16 := zhd ((zRl_41_4 (x := (Z 44 0 (Z 47 0 a1 0) 1)) (a := 114 + 5 * (Y 2 0 0 (201 + 20 * (Y 2 0 0 (2010 + 16 * a1))))) hRa (by first | (have q9 := zhx q9; have q10 := zhx q10; have q11 := zhx q11; have q12 := zhx q12; have q13 := zhx q13; omega) | (have q1 := zhx q1; have q2 := zhx q2; have q6 := zhx q6; have q7 := zhx q7; have q9 := zhx q9; have q10 := zhx q10; have q11 := zhx q11; have q12 := zhx q12; have q13 := zhx q13; omega)) (by first | (have q9 := zhx q9; have q10 := zhx q10; have q11 := zhx q11; have q12 := zhx q12; have q13 := zhx q13; omega) | (have q1 := zhx q1; have q2 := zhx q2; have q6 := zhx q6; have q7 := zhx q7; have q9 := zhx q9; have q10 := zhx q10; have q11 := zhx q11; have q12 := zhx q12; have q13 := zhx q13; omega)) (by first | (have q9 := zhx q9; have q10 := zhx q10; have q11 := zhx q11; have q12 := zhx q12; have q13 := zhx q13; omega) | (have q1 := zhx q1; have q2 := zhx q2; have q6 := zhx q6; have q7 := zhx q7; have q9 := zhx q9; have q10 := zhx q10; have q11 := zhx q11; have q12 := zhx q12; have q13 := zhx q13; omega))))
      have q17 := zhd ((congrArg (fun x => Z 41 0 x 4) (show (Y 2 0 0 (201 + 20 * (Y 2 0 0 (2010 + 16 * a1)))) = (Z 44 0 (Z 47 0 a1 0) 1) from (by first | (have q9 := zhx q9; have q10 := zhx q10; have q11 := zhx q11; have q12 := zhx q12; have q13 := zhx q13; omega) | (have q1 := zhx q1; have q2 := zhx q2; have q6 := zhx q6; have q7 := zhx q7; have q9 := zhx q9; have q10 := zhx q10; have q11 := zhx q11; have q12 := zhx q12; have q13 := zhx q13; omega)))).trans (zhx q16))
      have q18 := zhd (((hD4 (a1) (by first | (omega) | (have q1 := zhx q1; have q2 := zhx q2; have q6 := zhx q6; have q7 := zhx q7; omega)) (by first | (omega) | (have q1 := zhx q1; have q2 := zhx q2; have q6 := zhx q6; have q7 := zhx q7; omega)) (by first | (have q6 := zhx q6; omega) | (have q1 := zhx q1; have q2 := zhx q2; have q6 := zhx q6; have q7 := zhx q7; omega))).1))
      rcases zE_c g4 with ⟨h19, g4⟩ | ⟨h19, g4⟩
      · rcases zE_c g4 with ⟨h20, g4⟩ | ⟨h20, g4⟩
        · rcases zE_c g4 with ⟨h21, g4⟩ | ⟨h21, g4⟩
          · have e9 : 3 = v5 := Eq.symm g4
            subst e9
            replace hM := zE_n hM (by first | (have q1 := zhx q1; have q2 := zhx q2; have q6 := zhx q6; have q7 := zhx q7; have q9 := zhx q9; have q10 := zhx q10; have q11 := zhx q11; have q12 := zhx q12; have q13 := zhx q13; have q14 := zhx q14; have q15 := zhx q15; have q16 := zhx q16; have q17 := zhx q17; have q18 := zhx q18; omega) | (simp only [zhx q1, zhx q2, zhx q6, zhx q7, zhx q9, zhx q10, zhx q11, zhx q12, zhx q13, zhx q14, zhx q15, zhx q16, zhx q17, zhx q18] at h3 h8 h19 h20 h21 ⊢ <;> omega))
            replace hM := zE_n hM (by first | (have q1 := zhx q1; have q2 := zhx q2; have q6 := zhx q6; have q7 := zhx q7; have q9 := zhx q9; have q10 := zhx q10; have q11 := zhx q11; have q12 := zhx q12; have q13 := zhx q13; have q14 := zhx q14; have q15 := zhx q15; have q16 := zhx q16; have q17 := zhx q17; have q18 := zhx q18; omega) | (simp only [zhx q1, zhx q2, zhx q6, zhx q7, zhx q9, zhx q10, zhx q11, zhx q12, zhx q13, zhx q14, zhx q15, zhx q16, zhx q17, zhx q18] at h3 h8 h19 h20 h21 ⊢ <;> omega))
            obtain ⟨Ym22, hYm22, hM⟩ := zl_x hM
            have hR23 : zRx [] 0 Z Ym22 := zRx_o hRb hYm22 rfl
            have hV24 : zV Ym22 := zV_o hV hYm22 rfl
            have hG25 := yFr_o hG hYm22 rfl (.inr rfl) rfl
            replace hM := zE_n hM (by first | (have q1 := zhx q1; have q2 := zhx q2; have q6 := zhx q6; have q7 := zhx q7; have q9 := zhx q9; have q10 := zhx q10; have q11 := zhx q11; have q12 := zhx q12; have q13 := zhx q13; have q14 := zhx q14; have q15 := zhx q15; have q16 := zhx q16; have q17 := zhx q17; have q18 := zhx q18; omega) | (simp only [zhx q1, zhx q2, zhx q6, zhx q7, zhx q9, zhx q10, zhx q11, zhx q12, zhx q13, zhx q14, zhx q15, zhx q16, zhx q17, zhx q18] at h3 h8 h19 h20 h21 ⊢ <;> omega))
            replace hM := zE_n hM (by first | (have q1 := zhx q1; have q2 := zhx q2; have q6 := zhx q6; have q7 := zhx q7; have q9 := zhx q9; have q10 := zhx q10; have q11 := zhx q11; have q12 := zhx q12; have q13 := zhx q13; have q14 := zhx q14; have q15 := zhx q15; have q16 := zhx q16; have q17 := zhx q17; have q18 := zhx q18; omega) | (simp only [zhx q1, zhx q2, zhx q6, zhx q7, zhx q9, zhx q10, zhx q11, zhx q12, zhx q13, zhx q14, zhx q15, zhx q16, zhx q17, zhx q18] at h3 h8 h19 h20 h21 ⊢ <;> omega))
            obtain ⟨Ym26, hYm26, hM⟩ := zl_x hM
            have hR27 : zRx [] 0 Z Ym26 := zRx_o hR23 hYm26 rfl
            have hV28 : zV Ym26 := zV_o hV24 hYm26 rfl
            have hG29 := yFr_o hG25 hYm26 rfl (.inr rfl) rfl
            replace hM := zE_n hM (by first | (have q1 := zhx q1; have q2 := zhx q2; have q6 := zhx q6; have q7 := zhx q7; have q9 := zhx q9; have q10 := zhx q10; have q11 := zhx q11; have q12 := zhx q12; have q13 := zhx q13; have q14 := zhx q14; have q15 := zhx q15; have q16 := zhx q16; have q17 := zhx q17; have q18 := zhx q18; omega) | (simp only [zhx q1, zhx q2, zhx q6, zhx q7, zhx q9, zhx q10, zhx q11, zhx q12, zhx q13, zhx q14, zhx q15, zhx q16, zhx q17, zhx q18] at h3 h8 h19 h20 h21 ⊢ <;> omega))
            replace hM := zE_n hM (by first | (have q1 := zhx q1; have q2 := zhx q2; have q6 := zhx q6; have q7 := zhx q7; have q9 := zhx q9; have q10 := zhx q10; have q11 := zhx q11; have q12 := zhx q12; have q13 := zhx q13; have q14 := zhx q14; have q15 := zhx q15; have q16 := zhx q16; have q17 := zhx q17; have q18 := zhx q18; omega) | (simp only [zhx q1, zhx q2, zhx q6, zhx q7, zhx q9, zhx q10, zhx q11, zhx q12, zhx q13, zhx q14, zhx q15, zhx q16, zhx q17, zhx q18] at h3 h8 h19 h20 h21 ⊢ <;> omega))
            replace hM := zE_n hM (by first | (have q1 := zhx q1; have q2 := zhx q2; have q6 := zhx q6; have q7 := zhx q7; have q9 := zhx q9; have q10 := zhx q10; have q11 := zhx q11; have q12 := zhx q12; have q13 := zhx q13; have q14 := zhx q14; have q15 := zhx q15; have q16 := zhx q16; have q17 := zhx q17; have q18 := zhx q18; omega) | (simp only [zhx q1, zhx q2, zhx q6, zhx q7, zhx q9, zhx q10, zhx q11, zhx q12, zhx q13, zhx q14, zhx q15, zhx q16, zhx q17, zhx q18] at h3 h8 h19 h20 h21 ⊢ <;> omega))
            replace hM := zE_p hM (by first | (have q1 := zhx q1; have q2 := zhx q2; have q6 := zhx q6; have q7 := zhx q7; have q9 := zhx q9; have q10 := zhx q10; have q11 := zhx q11; have q12 := zhx q12; have q13 := zhx q13; have q14 := zhx q14; have q15 := zhx q15; have q16 := zhx q16; have q17 := zhx q17; have q18 := zhx q18; omega) | (simp only [zhx q1, zhx q2, zhx q6, zhx q7, zhx q9, zhx q10, zhx q11, zhx q12, zhx q13, zhx q14, zhx q15, zhx q16, zhx q17, zhx q18] at h3 h8 h19 h20 h21 ⊢ <;> omega))
            have q30 := zhd (((zu_ne (k' := 2) (b' := 0) (i' := 0) (j' := 2019 + 16 * a1) hYm26 (fun q => absurd q.1 (by decide))).trans (zu_ne (k' := 2) (b' := 0) (i' := 0) (j' := 2019 + 16 * a1) hYm22 (fun q => absurd q.1 (by decide)))))
            replace hM := zE_p hM (by first | (have q1 := zhx q1; have q2 := zhx q2; have q6 := zhx q6; have q7 := zhx q7; have q9 := zhx q9; have q10 := zhx q10; have q11 := zhx q11; have q12 := zhx q12; have q13 := zhx q13; have q14 := zhx q14; have q15 := zhx q15; have q16 := zhx q16; have q17 := zhx q17; have q18 := zhx q18; have q30 := zhx q30; omega) | (simp only [zhx q1, zhx q2, zhx q6, zhx q7, zhx q9, zhx q10, zhx q11, zhx q12, zhx q13, zhx q14, zhx q15, zhx q16, zhx q17, zhx q18, zhx q30] at h3 h8 h19 h20 h21 ⊢ <;> omega))
            have q31 := zhd (((zu_ne (k' := 2) (b' := 0) (i' := 0) (j' := 2010 + 16 * a1) hYm26 (fun q => absurd q.1 (by decide))).trans (zu_ne (k' := 2) (b' := 0) (i' := 0) (j' := 2010 + 16 * a1) hYm22 (fun q => absurd q.1 (by decide)))))
            have q32 := zhd (congrArg (Ym26 2 0 0) (show (201 + 20 * (Ym26 2 0 0 (2010 + 16 * a1))) = 201 + 20 * (Y 2 0 0 (2010 + 16 * a1)) from (by first | (have q9 := zhx q9; have q31 := zhx q31; omega) | (have q1 := zhx q1; have q2 := zhx q2; have q6 := zhx q6; have q7 := zhx q7; have q9 := zhx q9; have q10 := zhx q10; have q11 := zhx q11; have q12 := zhx q12; have q13 := zhx q13; have q14 := zhx q14; have q15 := zhx q15; have q16 := zhx q16; have q17 := zhx q17; have q18 := zhx q18; have q31 := zhx q31; omega))))
            have q33 := zhd (((zu_ne (k' := 2) (b' := 0) (i' := 0) (j' := 201 + 20 * (Y 2 0 0 (2010 + 16 * a1))) hYm26 (fun q => absurd q.1 (by decide))).trans (zu_ne (k' := 2) (b' := 0) (i' := 0) (j' := 201 + 20 * (Y 2 0 0 (2010 + 16 * a1))) hYm22 (fun q => absurd q.1 (by decide)))))
            have q34 := zhd (congrArg (Ym26 2 0 0) (show (113 + 5 * (Ym26 2 0 0 (201 + 20 * (Ym26 2 0 0 (2010 + 16 * a1))))) = 113 + 5 * (Y 2 0 0 (201 + 20 * (Y 2 0 0 (2010 + 16 * a1)))) from (by first | (have q9 := zhx q9; have q11 := zhx q11; have q31 := zhx q31; have q32 := zhx q32; have q33 := zhx q33; omega) | (have q1 := zhx q1; have q2 := zhx q2; have q6 := zhx q6; have q7 := zhx q7; have q9 := zhx q9; have q10 := zhx q10; have q11 := zhx q11; have q12 := zhx q12; have q13 := zhx q13; have q14 := zhx q14; have q15 := zhx q15; have q16 := zhx q16; have q17 := zhx q17; have q18 := zhx q18; have q31 := zhx q31; have q32 := zhx q32; have q33 := zhx q33; omega))))
            have q35 := zhd (((zu_ne (k' := 2) (b' := 0) (i' := 0) (j' := 113 + 5 * (Y 2 0 0 (201 + 20 * (Y 2 0 0 (2010 + 16 * a1))))) hYm26 (fun q => absurd q.1 (by decide))).trans (zu_ne (k' := 2) (b' := 0) (i' := 0) (j' := 113 + 5 * (Y 2 0 0 (201 + 20 * (Y 2 0 0 (2010 + 16 * a1))))) hYm22 (fun q => absurd q.1 (by decide)))))
            have q36 := zhd (congrArg (Ym26 2 0 0) (show (114 + 5 * (Ym26 2 0 0 (201 + 20 * (Ym26 2 0 0 (2010 + 16 * a1))))) = 114 + 5 * (Y 2 0 0 (201 + 20 * (Y 2 0 0 (2010 + 16 * a1)))) from (by first | (have q9 := zhx q9; have q11 := zhx q11; have q31 := zhx q31; have q32 := zhx q32; have q33 := zhx q33; omega) | (have q1 := zhx q1; have q2 := zhx q2; have q6 := zhx q6; have q7 := zhx q7; have q9 := zhx q9; have q10 := zhx q10; have q11 := zhx q11; have q12 := zhx q12; have q13 := zhx q13; have q14 := zhx q14; have q15 := zhx q15; have q16 := zhx q16; have q17 := zhx q17; have q18 := zhx q18; have q31 := zhx q31; have q32 := zhx q32; have q33 := zhx q33; omega))))
            have q37 := zhd (((zu_ne (k' := 2) (b' := 0) (i' := 0) (j' := 114 + 5 * (Y 2 0 0 (201 + 20 * (Y 2 0 0 (2010 + 16 * a1))))) hYm26 (fun q => absurd q.1 (by decide))).trans (zu_ne (k' := 2) (b' := 0) (i' := 0) (j' := 114 + 5 * (Y 2 0 0 (201 + 20 * (Y 2 0 0 (2010 + 16 * a1))))) hYm22 (fun q => absurd q.1 (by decide)))))
            have q38 := zhd (((zu_ne (k' := 2) (b' := 0) (i' := 0) (j' := 2021 + 16 * a1) hYm26 (fun q => absurd q.1 (by decide))).trans (zu_ne (k' := 2) (b' := 0) (i' := 0) (j' := 2021 + 16 * a1) hYm22 (fun q => absurd q.1 (by decide)))))
            replace hM := zE_p hM (by first | (have q1 := zhx q1; have q2 := zhx q2; have q6 := zhx q6; have q7 := zhx q7; have q9 := zhx q9; have q10 := zhx q10; have q11 := zhx q11; have q12 := zhx q12; have q13 := zhx q13; have q14 := zhx q14; have q15 := zhx q15; have q16 := zhx q16; have q17 := zhx q17; have q18 := zhx q18; have q31 := zhx q31; have q32 := zhx q32; have q33 := zhx q33; have q34 := zhx q34; have q35 := zhx q35; have q36 := zhx q36; have q37 := zhx q37; have q38 := zhx q38; omega) | (simp only [zhx q1, zhx q2, zhx q6, zhx q7, zhx q9, zhx q10, zhx q11, zhx q12, zhx q13, zhx q14, zhx q15, zhx q16, zhx q17, zhx q18, zhx q31, zhx q32, zhx q33, zhx q34, zhx q35, zhx q36, zhx q37, zhx q38] at h3 h8 h19 h20 h21 ⊢ <;> omega))
            replace hM := zE_p hM (by first | (have q1 := zhx q1; have q2 := zhx q2; have q6 := zhx q6; have q7 := zhx q7; have q9 := zhx q9; have q10 := zhx q10; have q11 := zhx q11; have q12 := zhx q12; have q13 := zhx q13; have q14 := zhx q14; have q15 := zhx q15; have q16 := zhx q16; have q17 := zhx q17; have q18 := zhx q18; have q31 := zhx q31; have q32 := zhx q32; have q33 := zhx q33; have q34 := zhx q34; have q35 := zhx q35; have q36 := zhx q36; have q37 := zhx q37; have q38 := zhx q38; omega) | (simp only [zhx q1, zhx q2, zhx q6, zhx q7, zhx q9, zhx q10, zhx q11, zhx q12, zhx q13, zhx q14, zhx q15, zhx q16, zhx q17, zhx q18, zhx q31, zhx q32, zhx q33, zhx q34, zhx q35, zhx q36, zhx q37, zhx q38] at h3 h8 h19 h20 h21 ⊢ <;> omega))
            replace hM := zE_p hM (by first | (have q1 := zhx q1; have q2 := zhx q2; have q6 := zhx q6; have q7 := zhx q7; have q9 := zhx q9; have q10 := zhx q10; have q11 := zhx q11; have q12 := zhx q12; have q13 := zhx q13; have q14 := zhx q14; have q15 := zhx q15; have q16 := zhx q16; have q17 := zhx q17; have q18 := zhx q18; have q31 := zhx q31; have q32 := zhx q32; have q33 := zhx q33; have q34 := zhx q34; have q35 := zhx q35; have q36 := zhx q36; have q37 := zhx q37; have q38 := zhx q38; omega) | (simp only [zhx q1, zhx q2, zhx q6, zhx q7, zhx q9, zhx q10, zhx q11, zhx q12, zhx q13, zhx q14, zhx q15, zhx q16, zhx q17, zhx q18, zhx q31, zhx q32, zhx q33, zhx q34, zhx q35, zhx q36, zhx q37, zhx q38] at h3 h8 h19 h20 h21 ⊢ <;> omega))
            have th9 := (zu_at hYm26)
            obtain rfl : C = _ := hC
            obtain rfl : M = _ := hM
            exact ⟨zRx_1 hR27, hV28, ⟨Z, _, .inl ⟨rfl, yFr_w hG29 (by decide)⟩, zFc_r, yFr_r⟩, zThr_a th9 (by first | rfl | (have q1 := zhx q1; have q2 := zhx q2; have q6 := zhx q6; have q7 := zhx q7; have q9 := zhx q9; have q10 := zhx q10; have q11 := zhx q11; have q12 := zhx q12; have q13 := zhx q13; have q14 := zhx q14; have q15 := zhx q15; have q16 := zhx q16; have q17 := zhx q17; have q18 := zhx q18; omega) | (simp only [zhx q1, zhx q2, zhx q6, zhx q7, zhx q9, zhx q10, zhx q11, zhx q12, zhx q13, zhx q14, zhx q15, zhx q16, zhx q17, zhx q18] <;> omega) | (have q1 := zhx q1; have q2 := zhx q2; have q6 := zhx q6; have q7 := zhx q7; have q9 := zhx q9; have q10 := zhx q10; have q11 := zhx q11; have q12 := zhx q12; have q13 := zhx q13; have q14 := zhx q14; have q15 := zhx q15; have q16 := zhx q16; have q17 := zhx q17; have q18 := zhx q18; refine w3z ?_ ?_ ?_ <;> omega) | (have q1 := zhx q1; have q2 := zhx q2; have q6 := zhx q6; have q7 := zhx q7; have q9 := zhx q9; have q10 := zhx q10; have q11 := zhx q11; have q12 := zhx q12; have q13 := zhx q13; have q14 := zhx q14; have q15 := zhx q15; have q16 := zhx q16; have q17 := zhx q17; have q18 := zhx q18; refine w3y ?_ ?_ ?_ <;> omega) | (have q1 := zhx q1; have q2 := zhx q2; have q6 := zhx q6; have q7 := zhx q7; have q9 := zhx q9; have q10 := zhx q10; have q11 := zhx q11; have q12 := zhx q12; have q13 := zhx q13; have q14 := zhx q14; have q15 := zhx q15; have q16 := zhx q16; have q17 := zhx q17; have q18 := zhx q18; refine z2o ?_ ?_ ?_ <;> omega))⟩
          · have e9 : 2 = v5 := Eq.symm g4
            subst e9
            replace hM := zE_n hM (by first | (have q1 := zhx q1; have q2 := zhx q2; have q6 := zhx q6; have q7 := zhx q7; have q9 := zhx q9; have q10 := zhx q10; have q11 := zhx q11; have q12 := zhx q12; have q13 := zhx q13; have q14 := zhx q14; have q15 := zhx q15; have q16 := zhx q16; have q17 := zhx q17; have q18 := zhx q18; omega) | (simp only [zhx q1, zhx q2, zhx q6, zhx q7, zhx q9, zhx q10, zhx q11, zhx q12, zhx q13, zhx q14, zhx q15, zhx q16, zhx q17, zhx q18] at h3 h8 h19 h20 h21 ⊢ <;> omega))
            replace hM := zE_n hM (by first | (have q1 := zhx q1; have q2 := zhx q2; have q6 := zhx q6; have q7 := zhx q7; have q9 := zhx q9; have q10 := zhx q10; have q11 := zhx q11; have q12 := zhx q12; have q13 := zhx q13; have q14 := zhx q14; have q15 := zhx q15; have q16 := zhx q16; have q17 := zhx q17; have q18 := zhx q18; omega) | (simp only [zhx q1, zhx q2, zhx q6, zhx q7, zhx q9, zhx q10, zhx q11, zhx q12, zhx q13, zhx q14, zhx q15, zhx q16, zhx q17, zhx q18] at h3 h8 h19 h20 h21 ⊢ <;> omega))
            obtain ⟨Ym39, hYm39, hM⟩ := zl_x hM
            have hR40 : zRx [] 0 Z Ym39 := zRx_o hRb hYm39 rfl
            have hV41 : zV Ym39 := zV_o hV hYm39 rfl
            have hG42 := yFr_o hG hYm39 rfl (.inr rfl) rfl
            replace hM := zE_n hM (by first | (have q1 := zhx q1; have q2 := zhx q2; have q6 := zhx q6; have q7 := zhx q7; have q9 := zhx q9; have q10 := zhx q10; have q11 := zhx q11; have q12 := zhx q12; have q13 := zhx q13; have q14 := zhx q14; have q15 := zhx q15; have q16 := zhx q16; have q17 := zhx q17; have q18 := zhx q18; omega) | (simp only [zhx q1, zhx q2, zhx q6, zhx q7, zhx q9, zhx q10, zhx q11, zhx q12, zhx q13, zhx q14, zhx q15, zhx q16, zhx q17, zhx q18] at h3 h8 h19 h20 h21 ⊢ <;> omega))
            replace hM := zE_n hM (by first | (have q1 := zhx q1; have q2 := zhx q2; have q6 := zhx q6; have q7 := zhx q7; have q9 := zhx q9; have q10 := zhx q10; have q11 := zhx q11; have q12 := zhx q12; have q13 := zhx q13; have q14 := zhx q14; have q15 := zhx q15; have q16 := zhx q16; have q17 := zhx q17; have q18 := zhx q18; omega) | (simp only [zhx q1, zhx q2, zhx q6, zhx q7, zhx q9, zhx q10, zhx q11, zhx q12, zhx q13, zhx q14, zhx q15, zhx q16, zhx q17, zhx q18] at h3 h8 h19 h20 h21 ⊢ <;> omega))
            obtain ⟨Ym43, hYm43, hM⟩ := zl_x hM
            have hR44 : zRx [] 0 Z Ym43 := zRx_o hR40 hYm43 rfl
            have hV45 : zV Ym43 := zV_o hV41 hYm43 rfl
            have hG46 := yFr_o hG42 hYm43 rfl (.inr rfl) rfl
            replace hM := zE_n hM (by first | (have q1 := zhx q1; have q2 := zhx q2; have q6 := zhx q6; have q7 := zhx q7; have q9 := zhx q9; have q10 := zhx q10; have q11 := zhx q11; have q12 := zhx q12; have q13 := zhx q13; have q14 := zhx q14; have q15 := zhx q15; have q16 := zhx q16; have q17 := zhx q17; have q18 := zhx q18; omega) | (simp only [zhx q1, zhx q2, zhx q6, zhx q7, zhx q9, zhx q10, zhx q11, zhx q12, zhx q13, zhx q14, zhx q15, zhx q16, zhx q17, zhx q18] at h3 h8 h19 h20 h21 ⊢ <;> omega))
            replace hM := zE_n hM (by first | (have q1 := zhx q1; have q2 := zhx q2; have q6 := zhx q6; have q7 := zhx q7; have q9 := zhx q9; have q10 := zhx q10; have q11 := zhx q11; have q12 := zhx q12; have q13 := zhx q13; have q14 := zhx q14; have q15 := zhx q15; have q16 := zhx q16; have q17 := zhx q17; have q18 := zhx q18; omega) | (simp only [zhx q1, zhx q2, zhx q6, zhx q7, zhx q9, zhx q10, zhx q11, zhx q12, zhx q13, zhx q14, zhx q15, zhx q16, zhx q17, zhx q18] at h3 h8 h19 h20 h21 ⊢ <;> omega))
            replace hM := zE_n hM (by first | (have q1 := zhx q1; have q2 := zhx q2; have q6 := zhx q6; have q7 := zhx q7; have q9 := zhx q9; have q10 := zhx q10; have q11 := zhx q11; have q12 := zhx q12; have q13 := zhx q13; have q14 := zhx q14; have q15 := zhx q15; have q16 := zhx q16; have q17 := zhx q17; have q18 := zhx q18; omega) | (simp only [zhx q1, zhx q2, zhx q6, zhx q7, zhx q9, zhx q10, zhx q11, zhx q12, zhx q13, zhx q14, zhx q15, zhx q16, zhx q17, zhx q18] at h3 h8 h19 h20 h21 ⊢ <;> omega))
            replace hM := zE_p hM (by first | (have q1 := zhx q1; have q2 := zhx q2; have q6 := zhx q6; have q7 := zhx q7; have q9 := zhx q9; have q10 := zhx q10; have q11 := zhx q11; have q12 := zhx q12; have q13 := zhx q13; have q14 := zhx q14; have q15 := zhx q15; have q16 := zhx q16; have q17 := zhx q17; have q18 := zhx q18; omega) | (simp only [zhx q1, zhx q2, zhx q6, zhx q7, zhx q9, zhx q10, zhx q11, zhx q12, zhx q13, zhx q14, zhx q15, zhx q16, zhx q17, zhx q18] at h3 h8 h19 h20 h21 ⊢ <;> omega))
            have q47 := zhd (((zu_ne (k' := 2) (b' := 0) (i' := 0) (j' := 2019 + 16 * a1) hYm43 (fun q => absurd q.1 (by decide))).trans (zu_ne (k' := 2) (b' := 0) (i' := 0) (j' := 2019 + 16 * a1) hYm39 (fun q => absurd q.1 (by decide)))))
            replace hM := zE_p hM (by first | (have q1 := zhx q1; have q2 := zhx q2; have q6 := zhx q6; have q7 := zhx q7; have q9 := zhx q9; have q10 := zhx q10; have q11 := zhx q11; have q12 := zhx q12; have q13 := zhx q13; have q14 := zhx q14; have q15 := zhx q15; have q16 := zhx q16; have q17 := zhx q17; have q18 := zhx q18; have q47 := zhx q47; omega) | (simp only [zhx q1, zhx q2, zhx q6, zhx q7, zhx q9, zhx q10, zhx q11, zhx q12, zhx q13, zhx q14, zhx q15, zhx q16, zhx q17, zhx q18, zhx q47] at h3 h8 h19 h20 h21 ⊢ <;> omega))
            have q48 := zhd (((zu_ne (k' := 2) (b' := 0) (i' := 0) (j' := 2010 + 16 * a1) hYm43 (fun q => absurd q.1 (by decide))).trans (zu_ne (k' := 2) (b' := 0) (i' := 0) (j' := 2010 + 16 * a1) hYm39 (fun q => absurd q.1 (by decide)))))
            have q49 := zhd (congrArg (Ym43 2 0 0) (show (201 + 20 * (Ym43 2 0 0 (2010 + 16 * a1))) = 201 + 20 * (Y 2 0 0 (2010 + 16 * a1)) from (by first | (have q9 := zhx q9; have q48 := zhx q48; omega) | (have q1 := zhx q1; have q2 := zhx q2; have q6 := zhx q6; have q7 := zhx q7; have q9 := zhx q9; have q10 := zhx q10; have q11 := zhx q11; have q12 := zhx q12; have q13 := zhx q13; have q14 := zhx q14; have q15 := zhx q15; have q16 := zhx q16; have q17 := zhx q17; have q18 := zhx q18; have q48 := zhx q48; omega))))
            have q50 := zhd (((zu_ne (k' := 2) (b' := 0) (i' := 0) (j' := 201 + 20 * (Y 2 0 0 (2010 + 16 * a1))) hYm43 (fun q => absurd q.1 (by decide))).trans (zu_ne (k' := 2) (b' := 0) (i' := 0) (j' := 201 + 20 * (Y 2 0 0 (2010 + 16 * a1))) hYm39 (fun q => absurd q.1 (by decide)))))
            have q51 := zhd (congrArg (Ym43 2 0 0) (show (113 + 5 * (Ym43 2 0 0 (201 + 20 * (Ym43 2 0 0 (2010 + 16 * a1))))) = 113 + 5 * (Y 2 0 0 (201 + 20 * (Y 2 0 0 (2010 + 16 * a1)))) from (by first | (have q9 := zhx q9; have q11 := zhx q11; have q48 := zhx q48; have q49 := zhx q49; have q50 := zhx q50; omega) | (have q1 := zhx q1; have q2 := zhx q2; have q6 := zhx q6; have q7 := zhx q7; have q9 := zhx q9; have q10 := zhx q10; have q11 := zhx q11; have q12 := zhx q12; have q13 := zhx q13; have q14 := zhx q14; have q15 := zhx q15; have q16 := zhx q16; have q17 := zhx q17; have q18 := zhx q18; have q48 := zhx q48; have q49 := zhx q49; have q50 := zhx q50; omega))))
            have q52 := zhd (((zu_ne (k' := 2) (b' := 0) (i' := 0) (j' := 113 + 5 * (Y 2 0 0 (201 + 20 * (Y 2 0 0 (2010 + 16 * a1))))) hYm43 (fun q => absurd q.1 (by decide))).trans (zu_ne (k' := 2) (b' := 0) (i' := 0) (j' := 113 + 5 * (Y 2 0 0 (201 + 20 * (Y 2 0 0 (2010 + 16 * a1))))) hYm39 (fun q => absurd q.1 (by decide)))))
            have q53 := zhd (congrArg (Ym43 2 0 0) (show (114 + 5 * (Ym43 2 0 0 (201 + 20 * (Ym43 2 0 0 (2010 + 16 * a1))))) = 114 + 5 * (Y 2 0 0 (201 + 20 * (Y 2 0 0 (2010 + 16 * a1)))) from (by first | (have q9 := zhx q9; have q11 := zhx q11; have q48 := zhx q48; have q49 := zhx q49; have q50 := zhx q50; omega) | (have q1 := zhx q1; have q2 := zhx q2; have q6 := zhx q6; have q7 := zhx q7; have q9 := zhx q9; have q10 := zhx q10; have q11 := zhx q11; have q12 := zhx q12; have q13 := zhx q13; have q14 := zhx q14; have q15 := zhx q15; have q16 := zhx q16; have q17 := zhx q17; have q18 := zhx q18; have q48 := zhx q48; have q49 := zhx q49; have q50 := zhx q50; omega))))
            have q54 := zhd (((zu_ne (k' := 2) (b' := 0) (i' := 0) (j' := 114 + 5 * (Y 2 0 0 (201 + 20 * (Y 2 0 0 (2010 + 16 * a1))))) hYm43 (fun q => absurd q.1 (by decide))).trans (zu_ne (k' := 2) (b' := 0) (i' := 0) (j' := 114 + 5 * (Y 2 0 0 (201 + 20 * (Y 2 0 0 (2010 + 16 * a1))))) hYm39 (fun q => absurd q.1 (by decide)))))
            have q55 := zhd (((zu_ne (k' := 2) (b' := 0) (i' := 0) (j' := 2021 + 16 * a1) hYm43 (fun q => absurd q.1 (by decide))).trans (zu_ne (k' := 2) (b' := 0) (i' := 0) (j' := 2021 + 16 * a1) hYm39 (fun q => absurd q.1 (by decide)))))
            replace hM := zE_p hM (by first | (have q1 := zhx q1; have q2 := zhx q2; have q6 := zhx q6; have q7 := zhx q7; have q9 := zhx q9; have q10 := zhx q10; have q11 := zhx q11; have q12 := zhx q12; have q13 := zhx q13; have q14 := zhx q14; have q15 := zhx q15; have q16 := zhx q16; have q17 := zhx q17; have q18 := zhx q18; have q48 := zhx q48; have q49 := zhx q49; have q50 := zhx q50; have q51 := zhx q51; have q52 := zhx q52; have q53 := zhx q53; have q54 := zhx q54; have q55 := zhx q55; omega) | (simp only [zhx q1, zhx q2, zhx q6, zhx q7, zhx q9, zhx q10, zhx q11, zhx q12, zhx q13, zhx q14, zhx q15, zhx q16, zhx q17, zhx q18, zhx q48, zhx q49, zhx q50, zhx q51, zhx q52, zhx q53, zhx q54, zhx q55] at h3 h8 h19 h20 h21 ⊢ <;> omega))
            replace hM := zE_p hM (by first | (have q1 := zhx q1; have q2 := zhx q2; have q6 := zhx q6; have q7 := zhx q7; have q9 := zhx q9; have q10 := zhx q10; have q11 := zhx q11; have q12 := zhx q12; have q13 := zhx q13; have q14 := zhx q14; have q15 := zhx q15; have q16 := zhx q16; have q17 := zhx q17; have q18 := zhx q18; have q48 := zhx q48; have q49 := zhx q49; have q50 := zhx q50; have q51 := zhx q51; have q52 := zhx q52; have q53 := zhx q53; have q54 := zhx q54; have q55 := zhx q55; omega) | (simp only [zhx q1, zhx q2, zhx q6, zhx q7, zhx q9, zhx q10, zhx q11, zhx q12, zhx q13, zhx q14, zhx q15, zhx q16, zhx q17, zhx q18, zhx q48, zhx q49, zhx q50, zhx q51, zhx q52, zhx q53, zhx q54, zhx q55] at h3 h8 h19 h20 h21 ⊢ <;> omega))
            replace hM := zE_n hM (by first | (have q1 := zhx q1; have q2 := zhx q2; have q6 := zhx q6; have q7 := zhx q7; have q9 := zhx q9; have q10 := zhx q10; have q11 := zhx q11; have q12 := zhx q12; have q13 := zhx q13; have q14 := zhx q14; have q15 := zhx q15; have q16 := zhx q16; have q17 := zhx q17; have q18 := zhx q18; have q48 := zhx q48; have q49 := zhx q49; have q50 := zhx q50; have q51 := zhx q51; have q52 := zhx q52; have q53 := zhx q53; have q54 := zhx q54; have q55 := zhx q55; omega) | (simp only [zhx q1, zhx q2, zhx q6, zhx q7, zhx q9, zhx q10, zhx q11, zhx q12, zhx q13, zhx q14, zhx q15, zhx q16, zhx q17, zhx q18, zhx q48, zhx q49, zhx q50, zhx q51, zhx q52, zhx q53, zhx q54, zhx q55] at h3 h8 h19 h20 h21 ⊢ <;> omega))
            have th9 := (zu_at hYm43)
            obtain rfl : C = _ := hC
            obtain rfl : M = _ := hM
            exact ⟨zRx_1 hR44, hV45, ⟨Z, _, .inl ⟨rfl, yFr_w hG46 (by decide)⟩, zFc_r, yFr_r⟩, zThr_a th9 (by first | rfl | (have q1 := zhx q1; have q2 := zhx q2; have q6 := zhx q6; have q7 := zhx q7; have q9 := zhx q9; have q10 := zhx q10; have q11 := zhx q11; have q12 := zhx q12; have q13 := zhx q13; have q14 := zhx q14; have q15 := zhx q15; have q16 := zhx q16; have q17 := zhx q17; have q18 := zhx q18; omega) | (simp only [zhx q1, zhx q2, zhx q6, zhx q7, zhx q9, zhx q10, zhx q11, zhx q12, zhx q13, zhx q14, zhx q15, zhx q16, zhx q17, zhx q18] <;> omega) | (have q1 := zhx q1; have q2 := zhx q2; have q6 := zhx q6; have q7 := zhx q7; have q9 := zhx q9; have q10 := zhx q10; have q11 := zhx q11; have q12 := zhx q12; have q13 := zhx q13; have q14 := zhx q14; have q15 := zhx q15; have q16 := zhx q16; have q17 := zhx q17; have q18 := zhx q18; refine w3z ?_ ?_ ?_ <;> omega) | (have q1 := zhx q1; have q2 := zhx q2; have q6 := zhx q6; have q7 := zhx q7; have q9 := zhx q9; have q10 := zhx q10; have q11 := zhx q11; have q12 := zhx q12; have q13 := zhx q13; have q14 := zhx q14; have q15 := zhx q15; have q16 := zhx q16; have q17 := zhx q17; have q18 := zhx q18; refine w3y ?_ ?_ ?_ <;> omega) | (have q1 := zhx q1; have q2 := zhx q2; have q6 := zhx q6; have q7 := zhx q7; have q9 := zhx q9; have q10 := zhx q10; have q11 := zhx q11; have q12 := zhx q12; have q13 := zhx q13; have q14 := zhx q14; have q15 := zhx q15; have q16 := zhx q16; have q17 := zhx q17; have q18 := zhx q18; refine z2o ?_ ?_ ?_ <;> omega))⟩
        · have e9 : 1 = v5 := Eq.symm g4
          subst e9
          replace hM := zE_n hM (by first | (have q1 := zhx q1; have q2 := zhx q2; have q6 := zhx q6; have q7 := zhx q7; have q9 := zhx q9; have q10 := zhx q10; have q11 := zhx q11; have q12 := zhx q12; have q13 := zhx q13; have q14 := zhx q14; have q15 := zhx q15; have q16 := zhx q16; have q17 := zhx q17; have q18 := zhx q18; omega) | (simp only [zhx q1, zhx q2, zhx q6, zhx q7, zhx q9, zhx q10, zhx q11, zhx q12, zhx q13, zhx q14, zhx q15, zhx q16, zhx q17, zhx q18] at h3 h8 h19 h20 ⊢ <;> omega))
          replace hM := zE_n hM (by first | (have q1 := zhx q1; have q2 := zhx q2; have q6 := zhx q6; have q7 := zhx q7; have q9 := zhx q9; have q10 := zhx q10; have q11 := zhx q11; have q12 := zhx q12; have q13 := zhx q13; have q14 := zhx q14; have q15 := zhx q15; have q16 := zhx q16; have q17 := zhx q17; have q18 := zhx q18; omega) | (simp only [zhx q1, zhx q2, zhx q6, zhx q7, zhx q9, zhx q10, zhx q11, zhx q12, zhx q13, zhx q14, zhx q15, zhx q16, zhx q17, zhx q18] at h3 h8 h19 h20 ⊢ <;> omega))
          obtain ⟨Ym56, hYm56, hM⟩ := zl_x hM
          have hR57 : zRx [] 0 Z Ym56 := zRx_o hRb hYm56 rfl
          have hV58 : zV Ym56 := zV_o hV hYm56 rfl
          have hG59 := yFr_o hG hYm56 rfl (.inr rfl) rfl
          replace hM := zE_n hM (by first | (have q1 := zhx q1; have q2 := zhx q2; have q6 := zhx q6; have q7 := zhx q7; have q9 := zhx q9; have q10 := zhx q10; have q11 := zhx q11; have q12 := zhx q12; have q13 := zhx q13; have q14 := zhx q14; have q15 := zhx q15; have q16 := zhx q16; have q17 := zhx q17; have q18 := zhx q18; omega) | (simp only [zhx q1, zhx q2, zhx q6, zhx q7, zhx q9, zhx q10, zhx q11, zhx q12, zhx q13, zhx q14, zhx q15, zhx q16, zhx q17, zhx q18] at h3 h8 h19 h20 ⊢ <;> omega))
          replace hM := zE_n hM (by first | (have q1 := zhx q1; have q2 := zhx q2; have q6 := zhx q6; have q7 := zhx q7; have q9 := zhx q9; have q10 := zhx q10; have q11 := zhx q11; have q12 := zhx q12; have q13 := zhx q13; have q14 := zhx q14; have q15 := zhx q15; have q16 := zhx q16; have q17 := zhx q17; have q18 := zhx q18; omega) | (simp only [zhx q1, zhx q2, zhx q6, zhx q7, zhx q9, zhx q10, zhx q11, zhx q12, zhx q13, zhx q14, zhx q15, zhx q16, zhx q17, zhx q18] at h3 h8 h19 h20 ⊢ <;> omega))
          obtain ⟨Ym60, hYm60, hM⟩ := zl_x hM
          have hR61 : zRx [] 0 Z Ym60 := zRx_o hR57 hYm60 rfl
          have hV62 : zV Ym60 := zV_o hV58 hYm60 rfl
          have hG63 := yFr_o hG59 hYm60 rfl (.inr rfl) rfl
          replace hM := zE_n hM (by first | (have q1 := zhx q1; have q2 := zhx q2; have q6 := zhx q6; have q7 := zhx q7; have q9 := zhx q9; have q10 := zhx q10; have q11 := zhx q11; have q12 := zhx q12; have q13 := zhx q13; have q14 := zhx q14; have q15 := zhx q15; have q16 := zhx q16; have q17 := zhx q17; have q18 := zhx q18; omega) | (simp only [zhx q1, zhx q2, zhx q6, zhx q7, zhx q9, zhx q10, zhx q11, zhx q12, zhx q13, zhx q14, zhx q15, zhx q16, zhx q17, zhx q18] at h3 h8 h19 h20 ⊢ <;> omega))
          replace hM := zE_n hM (by first | (have q1 := zhx q1; have q2 := zhx q2; have q6 := zhx q6; have q7 := zhx q7; have q9 := zhx q9; have q10 := zhx q10; have q11 := zhx q11; have q12 := zhx q12; have q13 := zhx q13; have q14 := zhx q14; have q15 := zhx q15; have q16 := zhx q16; have q17 := zhx q17; have q18 := zhx q18; omega) | (simp only [zhx q1, zhx q2, zhx q6, zhx q7, zhx q9, zhx q10, zhx q11, zhx q12, zhx q13, zhx q14, zhx q15, zhx q16, zhx q17, zhx q18] at h3 h8 h19 h20 ⊢ <;> omega))
          replace hM := zE_n hM (by first | (have q1 := zhx q1; have q2 := zhx q2; have q6 := zhx q6; have q7 := zhx q7; have q9 := zhx q9; have q10 := zhx q10; have q11 := zhx q11; have q12 := zhx q12; have q13 := zhx q13; have q14 := zhx q14; have q15 := zhx q15; have q16 := zhx q16; have q17 := zhx q17; have q18 := zhx q18; omega) | (simp only [zhx q1, zhx q2, zhx q6, zhx q7, zhx q9, zhx q10, zhx q11, zhx q12, zhx q13, zhx q14, zhx q15, zhx q16, zhx q17, zhx q18] at h3 h8 h19 h20 ⊢ <;> omega))
          replace hM := zE_p hM (by first | (have q1 := zhx q1; have q2 := zhx q2; have q6 := zhx q6; have q7 := zhx q7; have q9 := zhx q9; have q10 := zhx q10; have q11 := zhx q11; have q12 := zhx q12; have q13 := zhx q13; have q14 := zhx q14; have q15 := zhx q15; have q16 := zhx q16; have q17 := zhx q17; have q18 := zhx q18; omega) | (simp only [zhx q1, zhx q2, zhx q6, zhx q7, zhx q9, zhx q10, zhx q11, zhx q12, zhx q13, zhx q14, zhx q15, zhx q16, zhx q17, zhx q18] at h3 h8 h19 h20 ⊢ <;> omega))
          have q64 := zhd (((zu_ne (k' := 2) (b' := 0) (i' := 0) (j' := 2019 + 16 * a1) hYm60 (fun q => absurd q.1 (by decide))).trans (zu_ne (k' := 2) (b' := 0) (i' := 0) (j' := 2019 + 16 * a1) hYm56 (fun q => absurd q.1 (by decide)))))
          replace hM := zE_p hM (by first | (have q1 := zhx q1; have q2 := zhx q2; have q6 := zhx q6; have q7 := zhx q7; have q9 := zhx q9; have q10 := zhx q10; have q11 := zhx q11; have q12 := zhx q12; have q13 := zhx q13; have q14 := zhx q14; have q15 := zhx q15; have q16 := zhx q16; have q17 := zhx q17; have q18 := zhx q18; have q64 := zhx q64; omega) | (simp only [zhx q1, zhx q2, zhx q6, zhx q7, zhx q9, zhx q10, zhx q11, zhx q12, zhx q13, zhx q14, zhx q15, zhx q16, zhx q17, zhx q18, zhx q64] at h3 h8 h19 h20 ⊢ <;> omega))
          have q65 := zhd (((zu_ne (k' := 2) (b' := 0) (i' := 0) (j' := 2010 + 16 * a1) hYm60 (fun q => absurd q.1 (by decide))).trans (zu_ne (k' := 2) (b' := 0) (i' := 0) (j' := 2010 + 16 * a1) hYm56 (fun q => absurd q.1 (by decide)))))
          have q66 := zhd (congrArg (Ym60 2 0 0) (show (201 + 20 * (Ym60 2 0 0 (2010 + 16 * a1))) = 201 + 20 * (Y 2 0 0 (2010 + 16 * a1)) from (by first | (have q9 := zhx q9; have q65 := zhx q65; omega) | (have q1 := zhx q1; have q2 := zhx q2; have q6 := zhx q6; have q7 := zhx q7; have q9 := zhx q9; have q10 := zhx q10; have q11 := zhx q11; have q12 := zhx q12; have q13 := zhx q13; have q14 := zhx q14; have q15 := zhx q15; have q16 := zhx q16; have q17 := zhx q17; have q18 := zhx q18; have q65 := zhx q65; omega))))
          have q67 := zhd (((zu_ne (k' := 2) (b' := 0) (i' := 0) (j' := 201 + 20 * (Y 2 0 0 (2010 + 16 * a1))) hYm60 (fun q => absurd q.1 (by decide))).trans (zu_ne (k' := 2) (b' := 0) (i' := 0) (j' := 201 + 20 * (Y 2 0 0 (2010 + 16 * a1))) hYm56 (fun q => absurd q.1 (by decide)))))
          have q68 := zhd (congrArg (Ym60 2 0 0) (show (113 + 5 * (Ym60 2 0 0 (201 + 20 * (Ym60 2 0 0 (2010 + 16 * a1))))) = 113 + 5 * (Y 2 0 0 (201 + 20 * (Y 2 0 0 (2010 + 16 * a1)))) from (by first | (have q9 := zhx q9; have q11 := zhx q11; have q65 := zhx q65; have q66 := zhx q66; have q67 := zhx q67; omega) | (have q1 := zhx q1; have q2 := zhx q2; have q6 := zhx q6; have q7 := zhx q7; have q9 := zhx q9; have q10 := zhx q10; have q11 := zhx q11; have q12 := zhx q12; have q13 := zhx q13; have q14 := zhx q14; have q15 := zhx q15; have q16 := zhx q16; have q17 := zhx q17; have q18 := zhx q18; have q65 := zhx q65; have q66 := zhx q66; have q67 := zhx q67; omega))))
          have q69 := zhd (((zu_ne (k' := 2) (b' := 0) (i' := 0) (j' := 113 + 5 * (Y 2 0 0 (201 + 20 * (Y 2 0 0 (2010 + 16 * a1))))) hYm60 (fun q => absurd q.1 (by decide))).trans (zu_ne (k' := 2) (b' := 0) (i' := 0) (j' := 113 + 5 * (Y 2 0 0 (201 + 20 * (Y 2 0 0 (2010 + 16 * a1))))) hYm56 (fun q => absurd q.1 (by decide)))))
          have q70 := zhd (congrArg (Ym60 2 0 0) (show (114 + 5 * (Ym60 2 0 0 (201 + 20 * (Ym60 2 0 0 (2010 + 16 * a1))))) = 114 + 5 * (Y 2 0 0 (201 + 20 * (Y 2 0 0 (2010 + 16 * a1)))) from (by first | (have q9 := zhx q9; have q11 := zhx q11; have q65 := zhx q65; have q66 := zhx q66; have q67 := zhx q67; omega) | (have q1 := zhx q1; have q2 := zhx q2; have q6 := zhx q6; have q7 := zhx q7; have q9 := zhx q9; have q10 := zhx q10; have q11 := zhx q11; have q12 := zhx q12; have q13 := zhx q13; have q14 := zhx q14; have q15 := zhx q15; have q16 := zhx q16; have q17 := zhx q17; have q18 := zhx q18; have q65 := zhx q65; have q66 := zhx q66; have q67 := zhx q67; omega))))
          have q71 := zhd (((zu_ne (k' := 2) (b' := 0) (i' := 0) (j' := 114 + 5 * (Y 2 0 0 (201 + 20 * (Y 2 0 0 (2010 + 16 * a1))))) hYm60 (fun q => absurd q.1 (by decide))).trans (zu_ne (k' := 2) (b' := 0) (i' := 0) (j' := 114 + 5 * (Y 2 0 0 (201 + 20 * (Y 2 0 0 (2010 + 16 * a1))))) hYm56 (fun q => absurd q.1 (by decide)))))
          have q72 := zhd (((zu_ne (k' := 2) (b' := 0) (i' := 0) (j' := 2021 + 16 * a1) hYm60 (fun q => absurd q.1 (by decide))).trans (zu_ne (k' := 2) (b' := 0) (i' := 0) (j' := 2021 + 16 * a1) hYm56 (fun q => absurd q.1 (by decide)))))
          replace hM := zE_p hM (by first | (have q1 := zhx q1; have q2 := zhx q2; have q6 := zhx q6; have q7 := zhx q7; have q9 := zhx q9; have q10 := zhx q10; have q11 := zhx q11; have q12 := zhx q12; have q13 := zhx q13; have q14 := zhx q14; have q15 := zhx q15; have q16 := zhx q16; have q17 := zhx q17; have q18 := zhx q18; have q65 := zhx q65; have q66 := zhx q66; have q67 := zhx q67; have q68 := zhx q68; have q69 := zhx q69; have q70 := zhx q70; have q71 := zhx q71; have q72 := zhx q72; omega) | (simp only [zhx q1, zhx q2, zhx q6, zhx q7, zhx q9, zhx q10, zhx q11, zhx q12, zhx q13, zhx q14, zhx q15, zhx q16, zhx q17, zhx q18, zhx q65, zhx q66, zhx q67, zhx q68, zhx q69, zhx q70, zhx q71, zhx q72] at h3 h8 h19 h20 ⊢ <;> omega))
          replace hM := zE_n hM (by first | (have q1 := zhx q1; have q2 := zhx q2; have q6 := zhx q6; have q7 := zhx q7; have q9 := zhx q9; have q10 := zhx q10; have q11 := zhx q11; have q12 := zhx q12; have q13 := zhx q13; have q14 := zhx q14; have q15 := zhx q15; have q16 := zhx q16; have q17 := zhx q17; have q18 := zhx q18; have q65 := zhx q65; have q66 := zhx q66; have q67 := zhx q67; have q68 := zhx q68; have q69 := zhx q69; have q70 := zhx q70; have q71 := zhx q71; have q72 := zhx q72; omega) | (simp only [zhx q1, zhx q2, zhx q6, zhx q7, zhx q9, zhx q10, zhx q11, zhx q12, zhx q13, zhx q14, zhx q15, zhx q16, zhx q17, zhx q18, zhx q65, zhx q66, zhx q67, zhx q68, zhx q69, zhx q70, zhx q71, zhx q72] at h3 h8 h19 h20 ⊢ <;> omega))
          have th9 := (zu_at hYm60)
          obtain rfl : C = _ := hC
          obtain rfl : M = _ := hM
          exact ⟨zRx_1 hR61, hV62, ⟨Z, _, .inl ⟨rfl, yFr_w hG63 (by decide)⟩, zFc_r, yFr_r⟩, zThr_a th9 (by first | rfl | (have q1 := zhx q1; have q2 := zhx q2; have q6 := zhx q6; have q7 := zhx q7; have q9 := zhx q9; have q10 := zhx q10; have q11 := zhx q11; have q12 := zhx q12; have q13 := zhx q13; have q14 := zhx q14; have q15 := zhx q15; have q16 := zhx q16; have q17 := zhx q17; have q18 := zhx q18; omega) | (simp only [zhx q1, zhx q2, zhx q6, zhx q7, zhx q9, zhx q10, zhx q11, zhx q12, zhx q13, zhx q14, zhx q15, zhx q16, zhx q17, zhx q18] <;> omega) | (have q1 := zhx q1; have q2 := zhx q2; have q6 := zhx q6; have q7 := zhx q7; have q9 := zhx q9; have q10 := zhx q10; have q11 := zhx q11; have q12 := zhx q12; have q13 := zhx q13; have q14 := zhx q14; have q15 := zhx q15; have q16 := zhx q16; have q17 := zhx q17; have q18 := zhx q18; refine w3z ?_ ?_ ?_ <;> omega) | (have q1 := zhx q1; have q2 := zhx q2; have q6 := zhx q6; have q7 := zhx q7; have q9 := zhx q9; have q10 := zhx q10; have q11 := zhx q11; have q12 := zhx q12; have q13 := zhx q13; have q14 := zhx q14; have q15 := zhx q15; have q16 := zhx q16; have q17 := zhx q17; have q18 := zhx q18; refine w3y ?_ ?_ ?_ <;> omega) | (have q1 := zhx q1; have q2 := zhx q2; have q6 := zhx q6; have q7 := zhx q7; have q9 := zhx q9; have q10 := zhx q10; have q11 := zhx q11; have q12 := zhx q12; have q13 := zhx q13; have q14 := zhx q14; have q15 := zhx q15; have q16 := zhx q16; have q17 := zhx q17; have q18 := zhx q18; refine z2o ?_ ?_ ?_ <;> omega))⟩
      · have e9 : 0 = v5 := Eq.symm g4
        subst e9
        replace hM := zE_n hM (by first | (have q1 := zhx q1; have q2 := zhx q2; have q6 := zhx q6; have q7 := zhx q7; have q9 := zhx q9; have q10 := zhx q10; have q11 := zhx q11; have q12 := zhx q12; have q13 := zhx q13; have q14 := zhx q14; have q15 := zhx q15; have q16 := zhx q16; have q17 := zhx q17; have q18 := zhx q18; omega) | (simp only [zhx q1, zhx q2, zhx q6, zhx q7, zhx q9, zhx q10, zhx q11, zhx q12, zhx q13, zhx q14, zhx q15, zhx q16, zhx q17, zhx q18] at h3 h8 h19 ⊢ <;> omega))
        replace hM := zE_n hM (by first | (have q1 := zhx q1; have q2 := zhx q2; have q6 := zhx q6; have q7 := zhx q7; have q9 := zhx q9; have q10 := zhx q10; have q11 := zhx q11; have q12 := zhx q12; have q13 := zhx q13; have q14 := zhx q14; have q15 := zhx q15; have q16 := zhx q16; have q17 := zhx q17; have q18 := zhx q18; omega) | (simp only [zhx q1, zhx q2, zhx q6, zhx q7, zhx q9, zhx q10, zhx q11, zhx q12, zhx q13, zhx q14, zhx q15, zhx q16, zhx q17, zhx q18] at h3 h8 h19 ⊢ <;> omega))
        obtain ⟨Ym73, hYm73, hM⟩ := zl_x hM
        have hR74 : zRx [] 0 Z Ym73 := zRx_o hRb hYm73 rfl
        have hV75 : zV Ym73 := zV_o hV hYm73 rfl
        have hG76 := yFr_o hG hYm73 rfl (.inr rfl) rfl
        replace hM := zE_n hM (by first | (have q1 := zhx q1; have q2 := zhx q2; have q6 := zhx q6; have q7 := zhx q7; have q9 := zhx q9; have q10 := zhx q10; have q11 := zhx q11; have q12 := zhx q12; have q13 := zhx q13; have q14 := zhx q14; have q15 := zhx q15; have q16 := zhx q16; have q17 := zhx q17; have q18 := zhx q18; omega) | (simp only [zhx q1, zhx q2, zhx q6, zhx q7, zhx q9, zhx q10, zhx q11, zhx q12, zhx q13, zhx q14, zhx q15, zhx q16, zhx q17, zhx q18] at h3 h8 h19 ⊢ <;> omega))
        replace hM := zE_n hM (by first | (have q1 := zhx q1; have q2 := zhx q2; have q6 := zhx q6; have q7 := zhx q7; have q9 := zhx q9; have q10 := zhx q10; have q11 := zhx q11; have q12 := zhx q12; have q13 := zhx q13; have q14 := zhx q14; have q15 := zhx q15; have q16 := zhx q16; have q17 := zhx q17; have q18 := zhx q18; omega) | (simp only [zhx q1, zhx q2, zhx q6, zhx q7, zhx q9, zhx q10, zhx q11, zhx q12, zhx q13, zhx q14, zhx q15, zhx q16, zhx q17, zhx q18] at h3 h8 h19 ⊢ <;> omega))
        obtain ⟨Ym77, hYm77, hM⟩ := zl_x hM
        have hR78 : zRx [] 0 Z Ym77 := zRx_o hR74 hYm77 rfl
        have hV79 : zV Ym77 := zV_o hV75 hYm77 rfl
        have hG80 := yFr_o hG76 hYm77 rfl (.inr rfl) rfl
        replace hM := zE_n hM (by first | (have q1 := zhx q1; have q2 := zhx q2; have q6 := zhx q6; have q7 := zhx q7; have q9 := zhx q9; have q10 := zhx q10; have q11 := zhx q11; have q12 := zhx q12; have q13 := zhx q13; have q14 := zhx q14; have q15 := zhx q15; have q16 := zhx q16; have q17 := zhx q17; have q18 := zhx q18; omega) | (simp only [zhx q1, zhx q2, zhx q6, zhx q7, zhx q9, zhx q10, zhx q11, zhx q12, zhx q13, zhx q14, zhx q15, zhx q16, zhx q17, zhx q18] at h3 h8 h19 ⊢ <;> omega))
        replace hM := zE_n hM (by first | (have q1 := zhx q1; have q2 := zhx q2; have q6 := zhx q6; have q7 := zhx q7; have q9 := zhx q9; have q10 := zhx q10; have q11 := zhx q11; have q12 := zhx q12; have q13 := zhx q13; have q14 := zhx q14; have q15 := zhx q15; have q16 := zhx q16; have q17 := zhx q17; have q18 := zhx q18; omega) | (simp only [zhx q1, zhx q2, zhx q6, zhx q7, zhx q9, zhx q10, zhx q11, zhx q12, zhx q13, zhx q14, zhx q15, zhx q16, zhx q17, zhx q18] at h3 h8 h19 ⊢ <;> omega))
        replace hM := zE_n hM (by first | (have q1 := zhx q1; have q2 := zhx q2; have q6 := zhx q6; have q7 := zhx q7; have q9 := zhx q9; have q10 := zhx q10; have q11 := zhx q11; have q12 := zhx q12; have q13 := zhx q13; have q14 := zhx q14; have q15 := zhx q15; have q16 := zhx q16; have q17 := zhx q17; have q18 := zhx q18; omega) | (simp only [zhx q1, zhx q2, zhx q6, zhx q7, zhx q9, zhx q10, zhx q11, zhx q12, zhx q13, zhx q14, zhx q15, zhx q16, zhx q17, zhx q18] at h3 h8 h19 ⊢ <;> omega))
        replace hM := zE_p hM (by first | (have q1 := zhx q1; have q2 := zhx q2; have q6 := zhx q6; have q7 := zhx q7; have q9 := zhx q9; have q10 := zhx q10; have q11 := zhx q11; have q12 := zhx q12; have q13 := zhx q13; have q14 := zhx q14; have q15 := zhx q15; have q16 := zhx q16; have q17 := zhx q17; have q18 := zhx q18; omega) | (simp only [zhx q1, zhx q2, zhx q6, zhx q7, zhx q9, zhx q10, zhx q11, zhx q12, zhx q13, zhx q14, zhx q15, zhx q16, zhx q17, zhx q18] at h3 h8 h19 ⊢ <;> omega))
        have q81 := zhd (((zu_ne (k' := 2) (b' := 0) (i' := 0) (j' := 2019 + 16 * a1) hYm77 (fun q => absurd q.1 (by decide))).trans (zu_ne (k' := 2) (b' := 0) (i' := 0) (j' := 2019 + 16 * a1) hYm73 (fun q => absurd q.1 (by decide)))))
        replace hM := zE_p hM (by first | (have q1 := zhx q1; have q2 := zhx q2; have q6 := zhx q6; have q7 := zhx q7; have q9 := zhx q9; have q10 := zhx q10; have q11 := zhx q11; have q12 := zhx q12; have q13 := zhx q13; have q14 := zhx q14; have q15 := zhx q15; have q16 := zhx q16; have q17 := zhx q17; have q18 := zhx q18; have q81 := zhx q81; omega) | (simp only [zhx q1, zhx q2, zhx q6, zhx q7, zhx q9, zhx q10, zhx q11, zhx q12, zhx q13, zhx q14, zhx q15, zhx q16, zhx q17, zhx q18, zhx q81] at h3 h8 h19 ⊢ <;> omega))
        have q82 := zhd (((zu_ne (k' := 2) (b' := 0) (i' := 0) (j' := 2010 + 16 * a1) hYm77 (fun q => absurd q.1 (by decide))).trans (zu_ne (k' := 2) (b' := 0) (i' := 0) (j' := 2010 + 16 * a1) hYm73 (fun q => absurd q.1 (by decide)))))
        have q83 := zhd (congrArg (Ym77 2 0 0) (show (201 + 20 * (Ym77 2 0 0 (2010 + 16 * a1))) = 201 + 20 * (Y 2 0 0 (2010 + 16 * a1)) from (by first | (have q9 := zhx q9; have q82 := zhx q82; omega) | (have q1 := zhx q1; have q2 := zhx q2; have q6 := zhx q6; have q7 := zhx q7; have q9 := zhx q9; have q10 := zhx q10; have q11 := zhx q11; have q12 := zhx q12; have q13 := zhx q13; have q14 := zhx q14; have q15 := zhx q15; have q16 := zhx q16; have q17 := zhx q17; have q18 := zhx q18; have q82 := zhx q82; omega))))
        have q84 := zhd (((zu_ne (k' := 2) (b' := 0) (i' := 0) (j' := 201 + 20 * (Y 2 0 0 (2010 + 16 * a1))) hYm77 (fun q => absurd q.1 (by decide))).trans (zu_ne (k' := 2) (b' := 0) (i' := 0) (j' := 201 + 20 * (Y 2 0 0 (2010 + 16 * a1))) hYm73 (fun q => absurd q.1 (by decide)))))
        have q85 := zhd (congrArg (Ym77 2 0 0) (show (113 + 5 * (Ym77 2 0 0 (201 + 20 * (Ym77 2 0 0 (2010 + 16 * a1))))) = 113 + 5 * (Y 2 0 0 (201 + 20 * (Y 2 0 0 (2010 + 16 * a1)))) from (by first | (have q9 := zhx q9; have q11 := zhx q11; have q82 := zhx q82; have q83 := zhx q83; have q84 := zhx q84; omega) | (have q1 := zhx q1; have q2 := zhx q2; have q6 := zhx q6; have q7 := zhx q7; have q9 := zhx q9; have q10 := zhx q10; have q11 := zhx q11; have q12 := zhx q12; have q13 := zhx q13; have q14 := zhx q14; have q15 := zhx q15; have q16 := zhx q16; have q17 := zhx q17; have q18 := zhx q18; have q82 := zhx q82; have q83 := zhx q83; have q84 := zhx q84; omega))))
        have q86 := zhd (((zu_ne (k' := 2) (b' := 0) (i' := 0) (j' := 113 + 5 * (Y 2 0 0 (201 + 20 * (Y 2 0 0 (2010 + 16 * a1))))) hYm77 (fun q => absurd q.1 (by decide))).trans (zu_ne (k' := 2) (b' := 0) (i' := 0) (j' := 113 + 5 * (Y 2 0 0 (201 + 20 * (Y 2 0 0 (2010 + 16 * a1))))) hYm73 (fun q => absurd q.1 (by decide)))))
        have q87 := zhd (congrArg (Ym77 2 0 0) (show (114 + 5 * (Ym77 2 0 0 (201 + 20 * (Ym77 2 0 0 (2010 + 16 * a1))))) = 114 + 5 * (Y 2 0 0 (201 + 20 * (Y 2 0 0 (2010 + 16 * a1)))) from (by first | (have q9 := zhx q9; have q11 := zhx q11; have q82 := zhx q82; have q83 := zhx q83; have q84 := zhx q84; omega) | (have q1 := zhx q1; have q2 := zhx q2; have q6 := zhx q6; have q7 := zhx q7; have q9 := zhx q9; have q10 := zhx q10; have q11 := zhx q11; have q12 := zhx q12; have q13 := zhx q13; have q14 := zhx q14; have q15 := zhx q15; have q16 := zhx q16; have q17 := zhx q17; have q18 := zhx q18; have q82 := zhx q82; have q83 := zhx q83; have q84 := zhx q84; omega))))
        have q88 := zhd (((zu_ne (k' := 2) (b' := 0) (i' := 0) (j' := 114 + 5 * (Y 2 0 0 (201 + 20 * (Y 2 0 0 (2010 + 16 * a1))))) hYm77 (fun q => absurd q.1 (by decide))).trans (zu_ne (k' := 2) (b' := 0) (i' := 0) (j' := 114 + 5 * (Y 2 0 0 (201 + 20 * (Y 2 0 0 (2010 + 16 * a1))))) hYm73 (fun q => absurd q.1 (by decide)))))
        have q89 := zhd (((zu_ne (k' := 2) (b' := 0) (i' := 0) (j' := 2021 + 16 * a1) hYm77 (fun q => absurd q.1 (by decide))).trans (zu_ne (k' := 2) (b' := 0) (i' := 0) (j' := 2021 + 16 * a1) hYm73 (fun q => absurd q.1 (by decide)))))
        replace hM := zE_n hM (by first | (have q1 := zhx q1; have q2 := zhx q2; have q6 := zhx q6; have q7 := zhx q7; have q9 := zhx q9; have q10 := zhx q10; have q11 := zhx q11; have q12 := zhx q12; have q13 := zhx q13; have q14 := zhx q14; have q15 := zhx q15; have q16 := zhx q16; have q17 := zhx q17; have q18 := zhx q18; have q82 := zhx q82; have q83 := zhx q83; have q84 := zhx q84; have q85 := zhx q85; have q86 := zhx q86; have q87 := zhx q87; have q88 := zhx q88; have q89 := zhx q89; omega) | (simp only [zhx q1, zhx q2, zhx q6, zhx q7, zhx q9, zhx q10, zhx q11, zhx q12, zhx q13, zhx q14, zhx q15, zhx q16, zhx q17, zhx q18, zhx q82, zhx q83, zhx q84, zhx q85, zhx q86, zhx q87, zhx q88, zhx q89] at h3 h8 h19 ⊢ <;> omega))
        have th9 := (zu_at hYm77)
        obtain rfl : C = _ := hC
        obtain rfl : M = _ := hM
        exact ⟨zRx_1 hR78, hV79, ⟨Z, _, .inl ⟨rfl, yFr_w hG80 (by decide)⟩, zFc_r, yFr_r⟩, zThr_a th9 (by first | rfl | (have q1 := zhx q1; have q2 := zhx q2; have q6 := zhx q6; have q7 := zhx q7; have q9 := zhx q9; have q10 := zhx q10; have q11 := zhx q11; have q12 := zhx q12; have q13 := zhx q13; have q14 := zhx q14; have q15 := zhx q15; have q16 := zhx q16; have q17 := zhx q17; have q18 := zhx q18; omega) | (simp only [zhx q1, zhx q2, zhx q6, zhx q7, zhx q9, zhx q10, zhx q11, zhx q12, zhx q13, zhx q14, zhx q15, zhx q16, zhx q17, zhx q18] <;> omega) | (have q1 := zhx q1; have q2 := zhx q2; have q6 := zhx q6; have q7 := zhx q7; have q9 := zhx q9; have q10 := zhx q10; have q11 := zhx q11; have q12 := zhx q12; have q13 := zhx q13; have q14 := zhx q14; have q15 := zhx q15; have q16 := zhx q16; have q17 := zhx q17; have q18 := zhx q18; refine w3z ?_ ?_ ?_ <;> omega) | (have q1 := zhx q1; have q2 := zhx q2; have q6 := zhx q6; have q7 := zhx q7; have q9 := zhx q9; have q10 := zhx q10; have q11 := zhx q11; have q12 := zhx q12; have q13 := zhx q13; have q14 := zhx q14; have q15 := zhx q15; have q16 := zhx q16; have q17 := zhx q17; have q18 := zhx q18; refine w3y ?_ ?_ ?_ <;> omega) | (have q1 := zhx q1; have q2 := zhx q2; have q6 := zhx q6; have q7 := zhx q7; have q9 := zhx q9; have q10 := zhx q10; have q11 := zhx q11; have q12 := zhx q12; have q13 := zhx q13; have q14 := zhx q14; have q15 := zhx q15; have q16 := zhx q16; have q17 := zhx q17; have q18 := zhx q18; refine z2o ?_ ?_ ?_ <;> omega))⟩
    · replace g4 := zE_n g4 (by first | (have q1 := zhx q1; have q2 := zhx q2; have q6 := zhx q6; have q7 := zhx q7; omega) | (simp only [zhx q1, zhx q2, zhx q6, zhx q7] at h3 h8 ⊢ <;> omega))
      replace g4 := zE_n g4 (by first | (have q1 := zhx q1; have q2 := zhx q2; have q6 := zhx q6; have q7 := zhx q7; omega) | (simp only [zhx q1, zhx q2, zhx q6, zhx q7] at h3 h8 ⊢ <;> omega))
      replace g4 := zE_n g4 (by first | (have q1 := zhx q1; have q2 := zhx q2; have q6 := zhx q6; have q7 := zhx q7; omega) | (simp only [zhx q1, zhx q2, zhx q6, zhx q7] at h3 h8 ⊢ <;> omega))
      have q90 := zhd (zVr_47_0 (x := a1) (a := 2010 + 16 * a1) hV (by first | (omega) | (have q1 := zhx q1; have q2 := zhx q2; have q6 := zhx q6; have q7 := zhx q7; omega)) (by first | (omega) | (have q1 := zhx q1; have q2 := zhx q2; have q6 := zhx q6; have q7 := zhx q7; omega)) (by first | (omega) | (have q1 := zhx q1; have q2 := zhx q2; have q6 := zhx q6; have q7 := zhx q7; omega)))
      have q91 := zhd ((zRl_47_0 (x := a1) (a := 2010 + 16 * a1) hRa (by first | (omega) | (have q1 := zhx q1; have q2 := zhx q2; have q6 := zhx q6; have q7 := zhx q7; omega)) (by first | (omega) | (have q1 := zhx q1; have q2 := zhx q2; have q6 := zhx q6; have q7 := zhx q7; omega)) (by first | (omega) | (have q1 := zhx q1; have q2 := zhx q2; have q6 := zhx q6; have q7 := zhx q7; omega))))
      have q92 := zhd (zVr_44_1 (x := (Y 2 0 0 (2010 + 16 * a1))) (a := 201 + 20 * (Y 2 0 0 (2010 + 16 * a1))) hV (by first | (have q90 := zhx q90; omega) | (have q1 := zhx q1; have q2 := zhx q2; have q6 := zhx q6; have q7 := zhx q7; have q90 := zhx q90; omega)) (by first | (have q90 := zhx q90; omega) | (have q1 := zhx q1; have q2 := zhx q2; have q6 := zhx q6; have q7 := zhx q7; have q90 := zhx q90; omega)) (by first | (have q90 := zhx q90; omega) | (have q1 := zhx q1; have q2 := zhx q2; have q6 := zhx q6; have q7 := zhx q7; have q90 := zhx q90; omega)))
      have q93 := zhd ((zRl_44_1 (x := (Z 47 0 a1 0)) (a := 201 + 20 * (Y 2 0 0 (2010 + 16 * a1))) hRa (by first | (have q90 := zhx q90; have q91 := zhx q91; omega) | (have q1 := zhx q1; have q2 := zhx q2; have q6 := zhx q6; have q7 := zhx q7; have q90 := zhx q90; have q91 := zhx q91; omega)) (by first | (have q90 := zhx q90; have q91 := zhx q91; omega) | (have q1 := zhx q1; have q2 := zhx q2; have q6 := zhx q6; have q7 := zhx q7; have q90 := zhx q90; have q91 := zhx q91; omega)) (by first | (have q90 := zhx q90; have q91 := zhx q91; omega) | (have q1 := zhx q1; have q2 := zhx q2; have q6 := zhx q6; have q7 := zhx q7; have q90 := zhx q90; have q91 := zhx q91; omega))))
      have q94 := zhd ((congrArg (fun x => Z 44 0 x 1) (show (Y 2 0 0 (2010 + 16 * a1)) = (Z 47 0 a1 0) from (by first | (have q90 := zhx q90; have q91 := zhx q91; omega) | (have q1 := zhx q1; have q2 := zhx q2; have q6 := zhx q6; have q7 := zhx q7; have q90 := zhx q90; have q91 := zhx q91; omega)))).trans (zhx q93))
      have q95 := zhd ((zRl_41_3 (x := (Z 44 0 (Z 47 0 a1 0) 1)) (a := 113 + 5 * (Y 2 0 0 (201 + 20 * (Y 2 0 0 (2010 + 16 * a1))))) hRa (by first | (have q90 := zhx q90; have q91 := zhx q91; have q92 := zhx q92; have q93 := zhx q93; have q94 := zhx q94; omega) | (have q1 := zhx q1; have q2 := zhx q2; have q6 := zhx q6; have q7 := zhx q7; have q90 := zhx q90; have q91 := zhx q91; have q92 := zhx q92; have q93 := zhx q93; have q94 := zhx q94; omega)) (by first | (have q90 := zhx q90; have q91 := zhx q91; have q92 := zhx q92; have q93 := zhx q93; have q94 := zhx q94; omega) | (have q1 := zhx q1; have q2 := zhx q2; have q6 := zhx q6; have q7 := zhx q7; have q90 := zhx q90; have q91 := zhx q91; have q92 := zhx q92; have q93 := zhx q93; have q94 := zhx q94; omega)) (by first | (have q90 := zhx q90; have q91 := zhx q91; have q92 := zhx q92; have q93 := zhx q93; have q94 := zhx q94; omega) | (have q1 := zhx q1; have q2 := zhx q2; have q6 := zhx q6; have q7 := zhx q7; have q90 := zhx q90; have q91 := zhx q91; have q92 := zhx q92; have q93 := zhx q93; have q94 := zhx q94; omega))))
      have q96 := zhd ((congrArg (fun x => Z 41 0 x 3) (show (Y 2 0 0 (201 + 20 * (Y 2 0 0 (2010 + 16 * a1)))) = (Z 44 0 (Z 47 0 a1 0) 1) from (by first | (have q90 := zhx q90; have q91 := zhx q91; have q92 := zhx q92; have q93 := zhx q93; have q94 := zhx q94; omega) | (have q1 := zhx q1; have q2 := zhx q2; have q6 := zhx q6; have q7 := zhx q7; have q90 := zhx q90; have q91 := zhx q91; have q92 := zhx q92; have q93 := zhx q93; have q94 := zhx q94; omega)))).trans (zhx q95))
      have q97 := zhd ((zRl_41_4 (x := (Z 44 0 (Z 47 0 a1 0) 1)) (a := 114 + 5 * (Y 2 0 0 (201 + 20 * (Y 2 0 0 (2010 + 16 * a1))))) hRa (by first | (have q90 := zhx q90; have q91 := zhx q91; have q92 := zhx q92; have q93 := zhx q93; have q94 := zhx q94; omega) | (have q1 := zhx q1; have q2 := zhx q2; have q6 := zhx q6; have q7 := zhx q7; have q90 := zhx q90; have q91 := zhx q91; have q92 := zhx q92; have q93 := zhx q93; have q94 := zhx q94; omega)) (by first | (have q90 := zhx q90; have q91 := zhx q91; have q92 := zhx q92; have q93 := zhx q93; have q94 := zhx q94; omega) | (have q1 := zhx q1; have q2 := zhx q2; have q6 := zhx q6; have q7 := zhx q7; have q90 := zhx q90; have q91 := zhx q91; have q92 := zhx q92; have q93 := zhx q93; have q94 := zhx q94; omega)) (by first | (have q90 := zhx q90; have q91 := zhx q91; have q92 := zhx q92; have q93 := zhx q93; have q94 := zhx q94; omega) | (have q1 := zhx q1; have q2 := zhx q2; have q6 := zhx q6; have q7 := zhx q7; have q90 := zhx q90; have q91 := zhx q91; have q92 := zhx q92; have q93 := zhx q93; have q94 := zhx q94; omega))))
      have q98 := zhd ((congrArg (fun x => Z 41 0 x 4) (show (Y 2 0 0 (201 + 20 * (Y 2 0 0 (2010 + 16 * a1)))) = (Z 44 0 (Z 47 0 a1 0) 1) from (by first | (have q90 := zhx q90; have q91 := zhx q91; have q92 := zhx q92; have q93 := zhx q93; have q94 := zhx q94; omega) | (have q1 := zhx q1; have q2 := zhx q2; have q6 := zhx q6; have q7 := zhx q7; have q90 := zhx q90; have q91 := zhx q91; have q92 := zhx q92; have q93 := zhx q93; have q94 := zhx q94; omega)))).trans (zhx q97))
      have q99 := zhd ((zRl_44_7 (x := (Z 47 0 a1 0)) (a := 207 + 20 * (Y 2 0 0 (2010 + 16 * a1))) hRa (by first | (have q90 := zhx q90; have q91 := zhx q91; omega) | (have q1 := zhx q1; have q2 := zhx q2; have q6 := zhx q6; have q7 := zhx q7; have q90 := zhx q90; have q91 := zhx q91; omega)) (by first | (have q90 := zhx q90; have q91 := zhx q91; omega) | (have q1 := zhx q1; have q2 := zhx q2; have q6 := zhx q6; have q7 := zhx q7; have q90 := zhx q90; have q91 := zhx q91; omega)) (by first | (have q90 := zhx q90; have q91 := zhx q91; omega) | (have q1 := zhx q1; have q2 := zhx q2; have q6 := zhx q6; have q7 := zhx q7; have q90 := zhx q90; have q91 := zhx q91; omega))))
      have q100 := zhd ((congrArg (fun x => Z 44 0 x 7) (show (Y 2 0 0 (2010 + 16 * a1)) = (Z 47 0 a1 0) from (by first | (have q90 := zhx q90; have q91 := zhx q91; omega) | (have q1 := zhx q1; have q2 := zhx q2; have q6 := zhx q6; have q7 := zhx q7; have q90 := zhx q90; have q91 := zhx q91; omega)))).trans (zhx q99))
      rcases zE_c g4 with ⟨h101, g4⟩ | ⟨h101, g4⟩
      · rcases zE_c g4 with ⟨h102, g4⟩ | ⟨h102, g4⟩
        · rcases zE_c g4 with ⟨h103, g4⟩ | ⟨h103, g4⟩
          · have e9 : 3 = v5 := Eq.symm g4
            subst e9
            replace hM := zE_n hM (by first | (have q1 := zhx q1; have q2 := zhx q2; have q6 := zhx q6; have q7 := zhx q7; have q90 := zhx q90; have q91 := zhx q91; have q92 := zhx q92; have q93 := zhx q93; have q94 := zhx q94; have q95 := zhx q95; have q96 := zhx q96; have q97 := zhx q97; have q98 := zhx q98; have q99 := zhx q99; have q100 := zhx q100; omega) | (simp only [zhx q1, zhx q2, zhx q6, zhx q7, zhx q90, zhx q91, zhx q92, zhx q93, zhx q94, zhx q95, zhx q96, zhx q97, zhx q98, zhx q99, zhx q100] at h3 h8 h101 h102 h103 ⊢ <;> omega))
            replace hM := zE_n hM (by first | (have q1 := zhx q1; have q2 := zhx q2; have q6 := zhx q6; have q7 := zhx q7; have q90 := zhx q90; have q91 := zhx q91; have q92 := zhx q92; have q93 := zhx q93; have q94 := zhx q94; have q95 := zhx q95; have q96 := zhx q96; have q97 := zhx q97; have q98 := zhx q98; have q99 := zhx q99; have q100 := zhx q100; omega) | (simp only [zhx q1, zhx q2, zhx q6, zhx q7, zhx q90, zhx q91, zhx q92, zhx q93, zhx q94, zhx q95, zhx q96, zhx q97, zhx q98, zhx q99, zhx q100] at h3 h8 h101 h102 h103 ⊢ <;> omega))
            obtain ⟨Ym104, hYm104, hM⟩ := zl_x hM
            have hR105 : zRx [] 0 Z Ym104 := zRx_o hRb hYm104 rfl
            have hV106 : zV Ym104 := zV_o hV hYm104 rfl
            have hG107 := yFr_o hG hYm104 rfl (.inr rfl) rfl
            replace hM := zE_n hM (by first | (have q1 := zhx q1; have q2 := zhx q2; have q6 := zhx q6; have q7 := zhx q7; have q90 := zhx q90; have q91 := zhx q91; have q92 := zhx q92; have q93 := zhx q93; have q94 := zhx q94; have q95 := zhx q95; have q96 := zhx q96; have q97 := zhx q97; have q98 := zhx q98; have q99 := zhx q99; have q100 := zhx q100; omega) | (simp only [zhx q1, zhx q2, zhx q6, zhx q7, zhx q90, zhx q91, zhx q92, zhx q93, zhx q94, zhx q95, zhx q96, zhx q97, zhx q98, zhx q99, zhx q100] at h3 h8 h101 h102 h103 ⊢ <;> omega))
            replace hM := zE_n hM (by first | (have q1 := zhx q1; have q2 := zhx q2; have q6 := zhx q6; have q7 := zhx q7; have q90 := zhx q90; have q91 := zhx q91; have q92 := zhx q92; have q93 := zhx q93; have q94 := zhx q94; have q95 := zhx q95; have q96 := zhx q96; have q97 := zhx q97; have q98 := zhx q98; have q99 := zhx q99; have q100 := zhx q100; omega) | (simp only [zhx q1, zhx q2, zhx q6, zhx q7, zhx q90, zhx q91, zhx q92, zhx q93, zhx q94, zhx q95, zhx q96, zhx q97, zhx q98, zhx q99, zhx q100] at h3 h8 h101 h102 h103 ⊢ <;> omega))
            obtain ⟨Ym108, hYm108, hM⟩ := zl_x hM
            have hR109 : zRx [] 0 Z Ym108 := zRx_o hR105 hYm108 rfl
            have hV110 : zV Ym108 := zV_o hV106 hYm108 rfl
            have hG111 := yFr_o hG107 hYm108 rfl (.inr rfl) rfl
            replace hM := zE_n hM (by first | (have q1 := zhx q1; have q2 := zhx q2; have q6 := zhx q6; have q7 := zhx q7; have q90 := zhx q90; have q91 := zhx q91; have q92 := zhx q92; have q93 := zhx q93; have q94 := zhx q94; have q95 := zhx q95; have q96 := zhx q96; have q97 := zhx q97; have q98 := zhx q98; have q99 := zhx q99; have q100 := zhx q100; omega) | (simp only [zhx q1, zhx q2, zhx q6, zhx q7, zhx q90, zhx q91, zhx q92, zhx q93, zhx q94, zhx q95, zhx q96, zhx q97, zhx q98, zhx q99, zhx q100] at h3 h8 h101 h102 h103 ⊢ <;> omega))
            replace hM := zE_n hM (by first | (have q1 := zhx q1; have q2 := zhx q2; have q6 := zhx q6; have q7 := zhx q7; have q90 := zhx q90; have q91 := zhx q91; have q92 := zhx q92; have q93 := zhx q93; have q94 := zhx q94; have q95 := zhx q95; have q96 := zhx q96; have q97 := zhx q97; have q98 := zhx q98; have q99 := zhx q99; have q100 := zhx q100; omega) | (simp only [zhx q1, zhx q2, zhx q6, zhx q7, zhx q90, zhx q91, zhx q92, zhx q93, zhx q94, zhx q95, zhx q96, zhx q97, zhx q98, zhx q99, zhx q100] at h3 h8 h101 h102 h103 ⊢ <;> omega))
            replace hM := zE_n hM (by first | (have q1 := zhx q1; have q2 := zhx q2; have q6 := zhx q6; have q7 := zhx q7; have q90 := zhx q90; have q91 := zhx q91; have q92 := zhx q92; have q93 := zhx q93; have q94 := zhx q94; have q95 := zhx q95; have q96 := zhx q96; have q97 := zhx q97; have q98 := zhx q98; have q99 := zhx q99; have q100 := zhx q100; omega) | (simp only [zhx q1, zhx q2, zhx q6, zhx q7, zhx q90, zhx q91, zhx q92, zhx q93, zhx q94, zhx q95, zhx q96, zhx q97, zhx q98, zhx q99, zhx q100] at h3 h8 h101 h102 h103 ⊢ <;> omega))
            replace hM := zE_p hM (by first | (have q1 := zhx q1; have q2 := zhx q2; have q6 := zhx q6; have q7 := zhx q7; have q90 := zhx q90; have q91 := zhx q91; have q92 := zhx q92; have q93 := zhx q93; have q94 := zhx q94; have q95 := zhx q95; have q96 := zhx q96; have q97 := zhx q97; have q98 := zhx q98; have q99 := zhx q99; have q100 := zhx q100; omega) | (simp only [zhx q1, zhx q2, zhx q6, zhx q7, zhx q90, zhx q91, zhx q92, zhx q93, zhx q94, zhx q95, zhx q96, zhx q97, zhx q98, zhx q99, zhx q100] at h3 h8 h101 h102 h103 ⊢ <;> omega))
            have q112 := zhd (((zu_ne (k' := 2) (b' := 0) (i' := 0) (j' := 2019 + 16 * a1) hYm108 (fun q => absurd q.1 (by decide))).trans (zu_ne (k' := 2) (b' := 0) (i' := 0) (j' := 2019 + 16 * a1) hYm104 (fun q => absurd q.1 (by decide)))))
            replace hM := zE_n hM (by first | (have q1 := zhx q1; have q2 := zhx q2; have q6 := zhx q6; have q7 := zhx q7; have q90 := zhx q90; have q91 := zhx q91; have q92 := zhx q92; have q93 := zhx q93; have q94 := zhx q94; have q95 := zhx q95; have q96 := zhx q96; have q97 := zhx q97; have q98 := zhx q98; have q99 := zhx q99; have q100 := zhx q100; have q112 := zhx q112; omega) | (simp only [zhx q1, zhx q2, zhx q6, zhx q7, zhx q90, zhx q91, zhx q92, zhx q93, zhx q94, zhx q95, zhx q96, zhx q97, zhx q98, zhx q99, zhx q100, zhx q112] at h3 h8 h101 h102 h103 ⊢ <;> omega))
            have q113 := zhd (((zu_ne (k' := 2) (b' := 0) (i' := 0) (j' := 2010 + 16 * a1) hYm108 (fun q => absurd q.1 (by decide))).trans (zu_ne (k' := 2) (b' := 0) (i' := 0) (j' := 2010 + 16 * a1) hYm104 (fun q => absurd q.1 (by decide)))))
            have q114 := zhd (congrArg (Ym108 2 0 0) (show (201 + 20 * (Ym108 2 0 0 (2010 + 16 * a1))) = 201 + 20 * (Y 2 0 0 (2010 + 16 * a1)) from (by first | (have q90 := zhx q90; have q113 := zhx q113; omega) | (have q1 := zhx q1; have q2 := zhx q2; have q6 := zhx q6; have q7 := zhx q7; have q90 := zhx q90; have q91 := zhx q91; have q92 := zhx q92; have q93 := zhx q93; have q94 := zhx q94; have q95 := zhx q95; have q96 := zhx q96; have q97 := zhx q97; have q98 := zhx q98; have q99 := zhx q99; have q100 := zhx q100; have q113 := zhx q113; omega))))
            have q115 := zhd (((zu_ne (k' := 2) (b' := 0) (i' := 0) (j' := 201 + 20 * (Y 2 0 0 (2010 + 16 * a1))) hYm108 (fun q => absurd q.1 (by decide))).trans (zu_ne (k' := 2) (b' := 0) (i' := 0) (j' := 201 + 20 * (Y 2 0 0 (2010 + 16 * a1))) hYm104 (fun q => absurd q.1 (by decide)))))
            have q116 := zhd (congrArg (Ym108 2 0 0) (show (113 + 5 * (Ym108 2 0 0 (201 + 20 * (Ym108 2 0 0 (2010 + 16 * a1))))) = 113 + 5 * (Y 2 0 0 (201 + 20 * (Y 2 0 0 (2010 + 16 * a1)))) from (by first | (have q90 := zhx q90; have q92 := zhx q92; have q113 := zhx q113; have q114 := zhx q114; have q115 := zhx q115; omega) | (have q1 := zhx q1; have q2 := zhx q2; have q6 := zhx q6; have q7 := zhx q7; have q90 := zhx q90; have q91 := zhx q91; have q92 := zhx q92; have q93 := zhx q93; have q94 := zhx q94; have q95 := zhx q95; have q96 := zhx q96; have q97 := zhx q97; have q98 := zhx q98; have q99 := zhx q99; have q100 := zhx q100; have q113 := zhx q113; have q114 := zhx q114; have q115 := zhx q115; omega))))
            have q117 := zhd (((zu_ne (k' := 2) (b' := 0) (i' := 0) (j' := 113 + 5 * (Y 2 0 0 (201 + 20 * (Y 2 0 0 (2010 + 16 * a1))))) hYm108 (fun q => absurd q.1 (by decide))).trans (zu_ne (k' := 2) (b' := 0) (i' := 0) (j' := 113 + 5 * (Y 2 0 0 (201 + 20 * (Y 2 0 0 (2010 + 16 * a1))))) hYm104 (fun q => absurd q.1 (by decide)))))
            have q118 := zhd (congrArg (Ym108 2 0 0) (show (114 + 5 * (Ym108 2 0 0 (201 + 20 * (Ym108 2 0 0 (2010 + 16 * a1))))) = 114 + 5 * (Y 2 0 0 (201 + 20 * (Y 2 0 0 (2010 + 16 * a1)))) from (by first | (have q90 := zhx q90; have q92 := zhx q92; have q113 := zhx q113; have q114 := zhx q114; have q115 := zhx q115; omega) | (have q1 := zhx q1; have q2 := zhx q2; have q6 := zhx q6; have q7 := zhx q7; have q90 := zhx q90; have q91 := zhx q91; have q92 := zhx q92; have q93 := zhx q93; have q94 := zhx q94; have q95 := zhx q95; have q96 := zhx q96; have q97 := zhx q97; have q98 := zhx q98; have q99 := zhx q99; have q100 := zhx q100; have q113 := zhx q113; have q114 := zhx q114; have q115 := zhx q115; omega))))
            have q119 := zhd (((zu_ne (k' := 2) (b' := 0) (i' := 0) (j' := 114 + 5 * (Y 2 0 0 (201 + 20 * (Y 2 0 0 (2010 + 16 * a1))))) hYm108 (fun q => absurd q.1 (by decide))).trans (zu_ne (k' := 2) (b' := 0) (i' := 0) (j' := 114 + 5 * (Y 2 0 0 (201 + 20 * (Y 2 0 0 (2010 + 16 * a1))))) hYm104 (fun q => absurd q.1 (by decide)))))
            have q120 := zhd (congrArg (Ym108 2 0 0) (show (207 + 20 * (Ym108 2 0 0 (2010 + 16 * a1))) = 207 + 20 * (Y 2 0 0 (2010 + 16 * a1)) from (by first | (have q90 := zhx q90; have q113 := zhx q113; omega) | (have q1 := zhx q1; have q2 := zhx q2; have q6 := zhx q6; have q7 := zhx q7; have q90 := zhx q90; have q91 := zhx q91; have q92 := zhx q92; have q93 := zhx q93; have q94 := zhx q94; have q95 := zhx q95; have q96 := zhx q96; have q97 := zhx q97; have q98 := zhx q98; have q99 := zhx q99; have q100 := zhx q100; have q113 := zhx q113; omega))))
            have q121 := zhd (((zu_ne (k' := 2) (b' := 0) (i' := 0) (j' := 207 + 20 * (Y 2 0 0 (2010 + 16 * a1))) hYm108 (fun q => absurd q.1 (by decide))).trans (zu_ne (k' := 2) (b' := 0) (i' := 0) (j' := 207 + 20 * (Y 2 0 0 (2010 + 16 * a1))) hYm104 (fun q => absurd q.1 (by decide)))))
            replace hM := zE_p hM (by first | (have q1 := zhx q1; have q2 := zhx q2; have q6 := zhx q6; have q7 := zhx q7; have q90 := zhx q90; have q91 := zhx q91; have q92 := zhx q92; have q93 := zhx q93; have q94 := zhx q94; have q95 := zhx q95; have q96 := zhx q96; have q97 := zhx q97; have q98 := zhx q98; have q99 := zhx q99; have q100 := zhx q100; have q113 := zhx q113; have q114 := zhx q114; have q115 := zhx q115; have q116 := zhx q116; have q117 := zhx q117; have q118 := zhx q118; have q119 := zhx q119; have q120 := zhx q120; have q121 := zhx q121; omega) | (simp only [zhx q1, zhx q2, zhx q6, zhx q7, zhx q90, zhx q91, zhx q92, zhx q93, zhx q94, zhx q95, zhx q96, zhx q97, zhx q98, zhx q99, zhx q100, zhx q113, zhx q114, zhx q115, zhx q116, zhx q117, zhx q118, zhx q119, zhx q120, zhx q121] at h3 h8 h101 h102 h103 ⊢ <;> omega))
            replace hM := zE_p hM (by first | (have q1 := zhx q1; have q2 := zhx q2; have q6 := zhx q6; have q7 := zhx q7; have q90 := zhx q90; have q91 := zhx q91; have q92 := zhx q92; have q93 := zhx q93; have q94 := zhx q94; have q95 := zhx q95; have q96 := zhx q96; have q97 := zhx q97; have q98 := zhx q98; have q99 := zhx q99; have q100 := zhx q100; have q113 := zhx q113; have q114 := zhx q114; have q115 := zhx q115; have q116 := zhx q116; have q117 := zhx q117; have q118 := zhx q118; have q119 := zhx q119; have q120 := zhx q120; have q121 := zhx q121; omega) | (simp only [zhx q1, zhx q2, zhx q6, zhx q7, zhx q90, zhx q91, zhx q92, zhx q93, zhx q94, zhx q95, zhx q96, zhx q97, zhx q98, zhx q99, zhx q100, zhx q113, zhx q114, zhx q115, zhx q116, zhx q117, zhx q118, zhx q119, zhx q120, zhx q121] at h3 h8 h101 h102 h103 ⊢ <;> omega))
            replace hM := zE_p hM (by first | (have q1 := zhx q1; have q2 := zhx q2; have q6 := zhx q6; have q7 := zhx q7; have q90 := zhx q90; have q91 := zhx q91; have q92 := zhx q92; have q93 := zhx q93; have q94 := zhx q94; have q95 := zhx q95; have q96 := zhx q96; have q97 := zhx q97; have q98 := zhx q98; have q99 := zhx q99; have q100 := zhx q100; have q113 := zhx q113; have q114 := zhx q114; have q115 := zhx q115; have q116 := zhx q116; have q117 := zhx q117; have q118 := zhx q118; have q119 := zhx q119; have q120 := zhx q120; have q121 := zhx q121; omega) | (simp only [zhx q1, zhx q2, zhx q6, zhx q7, zhx q90, zhx q91, zhx q92, zhx q93, zhx q94, zhx q95, zhx q96, zhx q97, zhx q98, zhx q99, zhx q100, zhx q113, zhx q114, zhx q115, zhx q116, zhx q117, zhx q118, zhx q119, zhx q120, zhx q121] at h3 h8 h101 h102 h103 ⊢ <;> omega))
            have th9 := (zu_at hYm108)
            obtain rfl : C = _ := hC
            obtain rfl : M = _ := hM
            exact ⟨zRx_1 hR109, hV110, ⟨Z, _, .inl ⟨rfl, yFr_w hG111 (by decide)⟩, zFc_r, yFr_r⟩, zThr_a th9 (by first | rfl | (have q1 := zhx q1; have q2 := zhx q2; have q6 := zhx q6; have q7 := zhx q7; have q90 := zhx q90; have q91 := zhx q91; have q92 := zhx q92; have q93 := zhx q93; have q94 := zhx q94; have q95 := zhx q95; have q96 := zhx q96; have q97 := zhx q97; have q98 := zhx q98; have q99 := zhx q99; have q100 := zhx q100; omega) | (simp only [zhx q1, zhx q2, zhx q6, zhx q7, zhx q90, zhx q91, zhx q92, zhx q93, zhx q94, zhx q95, zhx q96, zhx q97, zhx q98, zhx q99, zhx q100] <;> omega) | (have q1 := zhx q1; have q2 := zhx q2; have q6 := zhx q6; have q7 := zhx q7; have q90 := zhx q90; have q91 := zhx q91; have q92 := zhx q92; have q93 := zhx q93; have q94 := zhx q94; have q95 := zhx q95; have q96 := zhx q96; have q97 := zhx q97; have q98 := zhx q98; have q99 := zhx q99; have q100 := zhx q100; refine w3z ?_ ?_ ?_ <;> omega) | (have q1 := zhx q1; have q2 := zhx q2; have q6 := zhx q6; have q7 := zhx q7; have q90 := zhx q90; have q91 := zhx q91; have q92 := zhx q92; have q93 := zhx q93; have q94 := zhx q94; have q95 := zhx q95; have q96 := zhx q96; have q97 := zhx q97; have q98 := zhx q98; have q99 := zhx q99; have q100 := zhx q100; refine w3y ?_ ?_ ?_ <;> omega) | (have q1 := zhx q1; have q2 := zhx q2; have q6 := zhx q6; have q7 := zhx q7; have q90 := zhx q90; have q91 := zhx q91; have q92 := zhx q92; have q93 := zhx q93; have q94 := zhx q94; have q95 := zhx q95; have q96 := zhx q96; have q97 := zhx q97; have q98 := zhx q98; have q99 := zhx q99; have q100 := zhx q100; refine z2o ?_ ?_ ?_ <;> omega))⟩
          · have e9 : 2 = v5 := Eq.symm g4
            subst e9
            replace hM := zE_n hM (by first | (have q1 := zhx q1; have q2 := zhx q2; have q6 := zhx q6; have q7 := zhx q7; have q90 := zhx q90; have q91 := zhx q91; have q92 := zhx q92; have q93 := zhx q93; have q94 := zhx q94; have q95 := zhx q95; have q96 := zhx q96; have q97 := zhx q97; have q98 := zhx q98; have q99 := zhx q99; have q100 := zhx q100; omega) | (simp only [zhx q1, zhx q2, zhx q6, zhx q7, zhx q90, zhx q91, zhx q92, zhx q93, zhx q94, zhx q95, zhx q96, zhx q97, zhx q98, zhx q99, zhx q100] at h3 h8 h101 h102 h103 ⊢ <;> omega))
            replace hM := zE_n hM (by first | (have q1 := zhx q1; have q2 := zhx q2; have q6 := zhx q6; have q7 := zhx q7; have q90 := zhx q90; have q91 := zhx q91; have q92 := zhx q92; have q93 := zhx q93; have q94 := zhx q94; have q95 := zhx q95; have q96 := zhx q96; have q97 := zhx q97; have q98 := zhx q98; have q99 := zhx q99; have q100 := zhx q100; omega) | (simp only [zhx q1, zhx q2, zhx q6, zhx q7, zhx q90, zhx q91, zhx q92, zhx q93, zhx q94, zhx q95, zhx q96, zhx q97, zhx q98, zhx q99, zhx q100] at h3 h8 h101 h102 h103 ⊢ <;> omega))
            obtain ⟨Ym122, hYm122, hM⟩ := zl_x hM
            have hR123 : zRx [] 0 Z Ym122 := zRx_o hRb hYm122 rfl
            have hV124 : zV Ym122 := zV_o hV hYm122 rfl
            have hG125 := yFr_o hG hYm122 rfl (.inr rfl) rfl
            replace hM := zE_n hM (by first | (have q1 := zhx q1; have q2 := zhx q2; have q6 := zhx q6; have q7 := zhx q7; have q90 := zhx q90; have q91 := zhx q91; have q92 := zhx q92; have q93 := zhx q93; have q94 := zhx q94; have q95 := zhx q95; have q96 := zhx q96; have q97 := zhx q97; have q98 := zhx q98; have q99 := zhx q99; have q100 := zhx q100; omega) | (simp only [zhx q1, zhx q2, zhx q6, zhx q7, zhx q90, zhx q91, zhx q92, zhx q93, zhx q94, zhx q95, zhx q96, zhx q97, zhx q98, zhx q99, zhx q100] at h3 h8 h101 h102 h103 ⊢ <;> omega))
            replace hM := zE_n hM (by first | (have q1 := zhx q1; have q2 := zhx q2; have q6 := zhx q6; have q7 := zhx q7; have q90 := zhx q90; have q91 := zhx q91; have q92 := zhx q92; have q93 := zhx q93; have q94 := zhx q94; have q95 := zhx q95; have q96 := zhx q96; have q97 := zhx q97; have q98 := zhx q98; have q99 := zhx q99; have q100 := zhx q100; omega) | (simp only [zhx q1, zhx q2, zhx q6, zhx q7, zhx q90, zhx q91, zhx q92, zhx q93, zhx q94, zhx q95, zhx q96, zhx q97, zhx q98, zhx q99, zhx q100] at h3 h8 h101 h102 h103 ⊢ <;> omega))
            obtain ⟨Ym126, hYm126, hM⟩ := zl_x hM
            have hR127 : zRx [] 0 Z Ym126 := zRx_o hR123 hYm126 rfl
            have hV128 : zV Ym126 := zV_o hV124 hYm126 rfl
            have hG129 := yFr_o hG125 hYm126 rfl (.inr rfl) rfl
            replace hM := zE_n hM (by first | (have q1 := zhx q1; have q2 := zhx q2; have q6 := zhx q6; have q7 := zhx q7; have q90 := zhx q90; have q91 := zhx q91; have q92 := zhx q92; have q93 := zhx q93; have q94 := zhx q94; have q95 := zhx q95; have q96 := zhx q96; have q97 := zhx q97; have q98 := zhx q98; have q99 := zhx q99; have q100 := zhx q100; omega) | (simp only [zhx q1, zhx q2, zhx q6, zhx q7, zhx q90, zhx q91, zhx q92, zhx q93, zhx q94, zhx q95, zhx q96, zhx q97, zhx q98, zhx q99, zhx q100] at h3 h8 h101 h102 h103 ⊢ <;> omega))
            replace hM := zE_n hM (by first | (have q1 := zhx q1; have q2 := zhx q2; have q6 := zhx q6; have q7 := zhx q7; have q90 := zhx q90; have q91 := zhx q91; have q92 := zhx q92; have q93 := zhx q93; have q94 := zhx q94; have q95 := zhx q95; have q96 := zhx q96; have q97 := zhx q97; have q98 := zhx q98; have q99 := zhx q99; have q100 := zhx q100; omega) | (simp only [zhx q1, zhx q2, zhx q6, zhx q7, zhx q90, zhx q91, zhx q92, zhx q93, zhx q94, zhx q95, zhx q96, zhx q97, zhx q98, zhx q99, zhx q100] at h3 h8 h101 h102 h103 ⊢ <;> omega))
            replace hM := zE_n hM (by first | (have q1 := zhx q1; have q2 := zhx q2; have q6 := zhx q6; have q7 := zhx q7; have q90 := zhx q90; have q91 := zhx q91; have q92 := zhx q92; have q93 := zhx q93; have q94 := zhx q94; have q95 := zhx q95; have q96 := zhx q96; have q97 := zhx q97; have q98 := zhx q98; have q99 := zhx q99; have q100 := zhx q100; omega) | (simp only [zhx q1, zhx q2, zhx q6, zhx q7, zhx q90, zhx q91, zhx q92, zhx q93, zhx q94, zhx q95, zhx q96, zhx q97, zhx q98, zhx q99, zhx q100] at h3 h8 h101 h102 h103 ⊢ <;> omega))
            replace hM := zE_p hM (by first | (have q1 := zhx q1; have q2 := zhx q2; have q6 := zhx q6; have q7 := zhx q7; have q90 := zhx q90; have q91 := zhx q91; have q92 := zhx q92; have q93 := zhx q93; have q94 := zhx q94; have q95 := zhx q95; have q96 := zhx q96; have q97 := zhx q97; have q98 := zhx q98; have q99 := zhx q99; have q100 := zhx q100; omega) | (simp only [zhx q1, zhx q2, zhx q6, zhx q7, zhx q90, zhx q91, zhx q92, zhx q93, zhx q94, zhx q95, zhx q96, zhx q97, zhx q98, zhx q99, zhx q100] at h3 h8 h101 h102 h103 ⊢ <;> omega))
            have q130 := zhd (((zu_ne (k' := 2) (b' := 0) (i' := 0) (j' := 2019 + 16 * a1) hYm126 (fun q => absurd q.1 (by decide))).trans (zu_ne (k' := 2) (b' := 0) (i' := 0) (j' := 2019 + 16 * a1) hYm122 (fun q => absurd q.1 (by decide)))))
            replace hM := zE_n hM (by first | (have q1 := zhx q1; have q2 := zhx q2; have q6 := zhx q6; have q7 := zhx q7; have q90 := zhx q90; have q91 := zhx q91; have q92 := zhx q92; have q93 := zhx q93; have q94 := zhx q94; have q95 := zhx q95; have q96 := zhx q96; have q97 := zhx q97; have q98 := zhx q98; have q99 := zhx q99; have q100 := zhx q100; have q130 := zhx q130; omega) | (simp only [zhx q1, zhx q2, zhx q6, zhx q7, zhx q90, zhx q91, zhx q92, zhx q93, zhx q94, zhx q95, zhx q96, zhx q97, zhx q98, zhx q99, zhx q100, zhx q130] at h3 h8 h101 h102 h103 ⊢ <;> omega))
            have q131 := zhd (((zu_ne (k' := 2) (b' := 0) (i' := 0) (j' := 2010 + 16 * a1) hYm126 (fun q => absurd q.1 (by decide))).trans (zu_ne (k' := 2) (b' := 0) (i' := 0) (j' := 2010 + 16 * a1) hYm122 (fun q => absurd q.1 (by decide)))))
            have q132 := zhd (congrArg (Ym126 2 0 0) (show (201 + 20 * (Ym126 2 0 0 (2010 + 16 * a1))) = 201 + 20 * (Y 2 0 0 (2010 + 16 * a1)) from (by first | (have q90 := zhx q90; have q131 := zhx q131; omega) | (have q1 := zhx q1; have q2 := zhx q2; have q6 := zhx q6; have q7 := zhx q7; have q90 := zhx q90; have q91 := zhx q91; have q92 := zhx q92; have q93 := zhx q93; have q94 := zhx q94; have q95 := zhx q95; have q96 := zhx q96; have q97 := zhx q97; have q98 := zhx q98; have q99 := zhx q99; have q100 := zhx q100; have q131 := zhx q131; omega))))
            have q133 := zhd (((zu_ne (k' := 2) (b' := 0) (i' := 0) (j' := 201 + 20 * (Y 2 0 0 (2010 + 16 * a1))) hYm126 (fun q => absurd q.1 (by decide))).trans (zu_ne (k' := 2) (b' := 0) (i' := 0) (j' := 201 + 20 * (Y 2 0 0 (2010 + 16 * a1))) hYm122 (fun q => absurd q.1 (by decide)))))
            have q134 := zhd (congrArg (Ym126 2 0 0) (show (113 + 5 * (Ym126 2 0 0 (201 + 20 * (Ym126 2 0 0 (2010 + 16 * a1))))) = 113 + 5 * (Y 2 0 0 (201 + 20 * (Y 2 0 0 (2010 + 16 * a1)))) from (by first | (have q90 := zhx q90; have q92 := zhx q92; have q131 := zhx q131; have q132 := zhx q132; have q133 := zhx q133; omega) | (have q1 := zhx q1; have q2 := zhx q2; have q6 := zhx q6; have q7 := zhx q7; have q90 := zhx q90; have q91 := zhx q91; have q92 := zhx q92; have q93 := zhx q93; have q94 := zhx q94; have q95 := zhx q95; have q96 := zhx q96; have q97 := zhx q97; have q98 := zhx q98; have q99 := zhx q99; have q100 := zhx q100; have q131 := zhx q131; have q132 := zhx q132; have q133 := zhx q133; omega))))
            have q135 := zhd (((zu_ne (k' := 2) (b' := 0) (i' := 0) (j' := 113 + 5 * (Y 2 0 0 (201 + 20 * (Y 2 0 0 (2010 + 16 * a1))))) hYm126 (fun q => absurd q.1 (by decide))).trans (zu_ne (k' := 2) (b' := 0) (i' := 0) (j' := 113 + 5 * (Y 2 0 0 (201 + 20 * (Y 2 0 0 (2010 + 16 * a1))))) hYm122 (fun q => absurd q.1 (by decide)))))
            have q136 := zhd (congrArg (Ym126 2 0 0) (show (114 + 5 * (Ym126 2 0 0 (201 + 20 * (Ym126 2 0 0 (2010 + 16 * a1))))) = 114 + 5 * (Y 2 0 0 (201 + 20 * (Y 2 0 0 (2010 + 16 * a1)))) from (by first | (have q90 := zhx q90; have q92 := zhx q92; have q131 := zhx q131; have q132 := zhx q132; have q133 := zhx q133; omega) | (have q1 := zhx q1; have q2 := zhx q2; have q6 := zhx q6; have q7 := zhx q7; have q90 := zhx q90; have q91 := zhx q91; have q92 := zhx q92; have q93 := zhx q93; have q94 := zhx q94; have q95 := zhx q95; have q96 := zhx q96; have q97 := zhx q97; have q98 := zhx q98; have q99 := zhx q99; have q100 := zhx q100; have q131 := zhx q131; have q132 := zhx q132; have q133 := zhx q133; omega))))
            have q137 := zhd (((zu_ne (k' := 2) (b' := 0) (i' := 0) (j' := 114 + 5 * (Y 2 0 0 (201 + 20 * (Y 2 0 0 (2010 + 16 * a1))))) hYm126 (fun q => absurd q.1 (by decide))).trans (zu_ne (k' := 2) (b' := 0) (i' := 0) (j' := 114 + 5 * (Y 2 0 0 (201 + 20 * (Y 2 0 0 (2010 + 16 * a1))))) hYm122 (fun q => absurd q.1 (by decide)))))
            have q138 := zhd (congrArg (Ym126 2 0 0) (show (207 + 20 * (Ym126 2 0 0 (2010 + 16 * a1))) = 207 + 20 * (Y 2 0 0 (2010 + 16 * a1)) from (by first | (have q90 := zhx q90; have q131 := zhx q131; omega) | (have q1 := zhx q1; have q2 := zhx q2; have q6 := zhx q6; have q7 := zhx q7; have q90 := zhx q90; have q91 := zhx q91; have q92 := zhx q92; have q93 := zhx q93; have q94 := zhx q94; have q95 := zhx q95; have q96 := zhx q96; have q97 := zhx q97; have q98 := zhx q98; have q99 := zhx q99; have q100 := zhx q100; have q131 := zhx q131; omega))))
            have q139 := zhd (((zu_ne (k' := 2) (b' := 0) (i' := 0) (j' := 207 + 20 * (Y 2 0 0 (2010 + 16 * a1))) hYm126 (fun q => absurd q.1 (by decide))).trans (zu_ne (k' := 2) (b' := 0) (i' := 0) (j' := 207 + 20 * (Y 2 0 0 (2010 + 16 * a1))) hYm122 (fun q => absurd q.1 (by decide)))))
            replace hM := zE_p hM (by first | (have q1 := zhx q1; have q2 := zhx q2; have q6 := zhx q6; have q7 := zhx q7; have q90 := zhx q90; have q91 := zhx q91; have q92 := zhx q92; have q93 := zhx q93; have q94 := zhx q94; have q95 := zhx q95; have q96 := zhx q96; have q97 := zhx q97; have q98 := zhx q98; have q99 := zhx q99; have q100 := zhx q100; have q131 := zhx q131; have q132 := zhx q132; have q133 := zhx q133; have q134 := zhx q134; have q135 := zhx q135; have q136 := zhx q136; have q137 := zhx q137; have q138 := zhx q138; have q139 := zhx q139; omega) | (simp only [zhx q1, zhx q2, zhx q6, zhx q7, zhx q90, zhx q91, zhx q92, zhx q93, zhx q94, zhx q95, zhx q96, zhx q97, zhx q98, zhx q99, zhx q100, zhx q131, zhx q132, zhx q133, zhx q134, zhx q135, zhx q136, zhx q137, zhx q138, zhx q139] at h3 h8 h101 h102 h103 ⊢ <;> omega))
            replace hM := zE_p hM (by first | (have q1 := zhx q1; have q2 := zhx q2; have q6 := zhx q6; have q7 := zhx q7; have q90 := zhx q90; have q91 := zhx q91; have q92 := zhx q92; have q93 := zhx q93; have q94 := zhx q94; have q95 := zhx q95; have q96 := zhx q96; have q97 := zhx q97; have q98 := zhx q98; have q99 := zhx q99; have q100 := zhx q100; have q131 := zhx q131; have q132 := zhx q132; have q133 := zhx q133; have q134 := zhx q134; have q135 := zhx q135; have q136 := zhx q136; have q137 := zhx q137; have q138 := zhx q138; have q139 := zhx q139; omega) | (simp only [zhx q1, zhx q2, zhx q6, zhx q7, zhx q90, zhx q91, zhx q92, zhx q93, zhx q94, zhx q95, zhx q96, zhx q97, zhx q98, zhx q99, zhx q100, zhx q131, zhx q132, zhx q133, zhx q134, zhx q135, zhx q136, zhx q137, zhx q138, zhx q139] at h3 h8 h101 h102 h103 ⊢ <;> omega))
            replace hM := zE_n hM (by first | (have q1 := zhx q1; have q2 := zhx q2; have q6 := zhx q6; have q7 := zhx q7; have q90 := zhx q90; have q91 := zhx q91; have q92 := zhx q92; have q93 := zhx q93; have q94 := zhx q94; have q95 := zhx q95; have q96 := zhx q96; have q97 := zhx q97; have q98 := zhx q98; have q99 := zhx q99; have q100 := zhx q100; have q131 := zhx q131; have q132 := zhx q132; have q133 := zhx q133; have q134 := zhx q134; have q135 := zhx q135; have q136 := zhx q136; have q137 := zhx q137; have q138 := zhx q138; have q139 := zhx q139; omega) | (simp only [zhx q1, zhx q2, zhx q6, zhx q7, zhx q90, zhx q91, zhx q92, zhx q93, zhx q94, zhx q95, zhx q96, zhx q97, zhx q98, zhx q99, zhx q100, zhx q131, zhx q132, zhx q133, zhx q134, zhx q135, zhx q136, zhx q137, zhx q138, zhx q139] at h3 h8 h101 h102 h103 ⊢ <;> omega))
            have th9 := (zu_at hYm126)
            obtain rfl : C = _ := hC
            obtain rfl : M = _ := hM
            exact ⟨zRx_1 hR127, hV128, ⟨Z, _, .inl ⟨rfl, yFr_w hG129 (by decide)⟩, zFc_r, yFr_r⟩, zThr_a th9 (by first | rfl | (have q1 := zhx q1; have q2 := zhx q2; have q6 := zhx q6; have q7 := zhx q7; have q90 := zhx q90; have q91 := zhx q91; have q92 := zhx q92; have q93 := zhx q93; have q94 := zhx q94; have q95 := zhx q95; have q96 := zhx q96; have q97 := zhx q97; have q98 := zhx q98; have q99 := zhx q99; have q100 := zhx q100; omega) | (simp only [zhx q1, zhx q2, zhx q6, zhx q7, zhx q90, zhx q91, zhx q92, zhx q93, zhx q94, zhx q95, zhx q96, zhx q97, zhx q98, zhx q99, zhx q100] <;> omega) | (have q1 := zhx q1; have q2 := zhx q2; have q6 := zhx q6; have q7 := zhx q7; have q90 := zhx q90; have q91 := zhx q91; have q92 := zhx q92; have q93 := zhx q93; have q94 := zhx q94; have q95 := zhx q95; have q96 := zhx q96; have q97 := zhx q97; have q98 := zhx q98; have q99 := zhx q99; have q100 := zhx q100; refine w3z ?_ ?_ ?_ <;> omega) | (have q1 := zhx q1; have q2 := zhx q2; have q6 := zhx q6; have q7 := zhx q7; have q90 := zhx q90; have q91 := zhx q91; have q92 := zhx q92; have q93 := zhx q93; have q94 := zhx q94; have q95 := zhx q95; have q96 := zhx q96; have q97 := zhx q97; have q98 := zhx q98; have q99 := zhx q99; have q100 := zhx q100; refine w3y ?_ ?_ ?_ <;> omega) | (have q1 := zhx q1; have q2 := zhx q2; have q6 := zhx q6; have q7 := zhx q7; have q90 := zhx q90; have q91 := zhx q91; have q92 := zhx q92; have q93 := zhx q93; have q94 := zhx q94; have q95 := zhx q95; have q96 := zhx q96; have q97 := zhx q97; have q98 := zhx q98; have q99 := zhx q99; have q100 := zhx q100; refine z2o ?_ ?_ ?_ <;> omega))⟩
        · have e9 : 1 = v5 := Eq.symm g4
          subst e9
          replace hM := zE_n hM (by first | (have q1 := zhx q1; have q2 := zhx q2; have q6 := zhx q6; have q7 := zhx q7; have q90 := zhx q90; have q91 := zhx q91; have q92 := zhx q92; have q93 := zhx q93; have q94 := zhx q94; have q95 := zhx q95; have q96 := zhx q96; have q97 := zhx q97; have q98 := zhx q98; have q99 := zhx q99; have q100 := zhx q100; omega) | (simp only [zhx q1, zhx q2, zhx q6, zhx q7, zhx q90, zhx q91, zhx q92, zhx q93, zhx q94, zhx q95, zhx q96, zhx q97, zhx q98, zhx q99, zhx q100] at h3 h8 h101 h102 ⊢ <;> omega))
          replace hM := zE_n hM (by first | (have q1 := zhx q1; have q2 := zhx q2; have q6 := zhx q6; have q7 := zhx q7; have q90 := zhx q90; have q91 := zhx q91; have q92 := zhx q92; have q93 := zhx q93; have q94 := zhx q94; have q95 := zhx q95; have q96 := zhx q96; have q97 := zhx q97; have q98 := zhx q98; have q99 := zhx q99; have q100 := zhx q100; omega) | (simp only [zhx q1, zhx q2, zhx q6, zhx q7, zhx q90, zhx q91, zhx q92, zhx q93, zhx q94, zhx q95, zhx q96, zhx q97, zhx q98, zhx q99, zhx q100] at h3 h8 h101 h102 ⊢ <;> omega))
          obtain ⟨Ym140, hYm140, hM⟩ := zl_x hM
          have hR141 : zRx [] 0 Z Ym140 := zRx_o hRb hYm140 rfl
          have hV142 : zV Ym140 := zV_o hV hYm140 rfl
          have hG143 := yFr_o hG hYm140 rfl (.inr rfl) rfl
          replace hM := zE_n hM (by first | (have q1 := zhx q1; have q2 := zhx q2; have q6 := zhx q6; have q7 := zhx q7; have q90 := zhx q90; have q91 := zhx q91; have q92 := zhx q92; have q93 := zhx q93; have q94 := zhx q94; have q95 := zhx q95; have q96 := zhx q96; have q97 := zhx q97; have q98 := zhx q98; have q99 := zhx q99; have q100 := zhx q100; omega) | (simp only [zhx q1, zhx q2, zhx q6, zhx q7, zhx q90, zhx q91, zhx q92, zhx q93, zhx q94, zhx q95, zhx q96, zhx q97, zhx q98, zhx q99, zhx q100] at h3 h8 h101 h102 ⊢ <;> omega))
          replace hM := zE_n hM (by first | (have q1 := zhx q1; have q2 := zhx q2; have q6 := zhx q6; have q7 := zhx q7; have q90 := zhx q90; have q91 := zhx q91; have q92 := zhx q92; have q93 := zhx q93; have q94 := zhx q94; have q95 := zhx q95; have q96 := zhx q96; have q97 := zhx q97; have q98 := zhx q98; have q99 := zhx q99; have q100 := zhx q100; omega) | (simp only [zhx q1, zhx q2, zhx q6, zhx q7, zhx q90, zhx q91, zhx q92, zhx q93, zhx q94, zhx q95, zhx q96, zhx q97, zhx q98, zhx q99, zhx q100] at h3 h8 h101 h102 ⊢ <;> omega))
          obtain ⟨Ym144, hYm144, hM⟩ := zl_x hM
          have hR145 : zRx [] 0 Z Ym144 := zRx_o hR141 hYm144 rfl
          have hV146 : zV Ym144 := zV_o hV142 hYm144 rfl
          have hG147 := yFr_o hG143 hYm144 rfl (.inr rfl) rfl
          replace hM := zE_n hM (by first | (have q1 := zhx q1; have q2 := zhx q2; have q6 := zhx q6; have q7 := zhx q7; have q90 := zhx q90; have q91 := zhx q91; have q92 := zhx q92; have q93 := zhx q93; have q94 := zhx q94; have q95 := zhx q95; have q96 := zhx q96; have q97 := zhx q97; have q98 := zhx q98; have q99 := zhx q99; have q100 := zhx q100; omega) | (simp only [zhx q1, zhx q2, zhx q6, zhx q7, zhx q90, zhx q91, zhx q92, zhx q93, zhx q94, zhx q95, zhx q96, zhx q97, zhx q98, zhx q99, zhx q100] at h3 h8 h101 h102 ⊢ <;> omega))
          replace hM := zE_n hM (by first | (have q1 := zhx q1; have q2 := zhx q2; have q6 := zhx q6; have q7 := zhx q7; have q90 := zhx q90; have q91 := zhx q91; have q92 := zhx q92; have q93 := zhx q93; have q94 := zhx q94; have q95 := zhx q95; have q96 := zhx q96; have q97 := zhx q97; have q98 := zhx q98; have q99 := zhx q99; have q100 := zhx q100; omega) | (simp only [zhx q1, zhx q2, zhx q6, zhx q7, zhx q90, zhx q91, zhx q92, zhx q93, zhx q94, zhx q95, zhx q96, zhx q97, zhx q98, zhx q99, zhx q100] at h3 h8 h101 h102 ⊢ <;> omega))
          replace hM := zE_n hM (by first | (have q1 := zhx q1; have q2 := zhx q2; have q6 := zhx q6; have q7 := zhx q7; have q90 := zhx q90; have q91 := zhx q91; have q92 := zhx q92; have q93 := zhx q93; have q94 := zhx q94; have q95 := zhx q95; have q96 := zhx q96; have q97 := zhx q97; have q98 := zhx q98; have q99 := zhx q99; have q100 := zhx q100; omega) | (simp only [zhx q1, zhx q2, zhx q6, zhx q7, zhx q90, zhx q91, zhx q92, zhx q93, zhx q94, zhx q95, zhx q96, zhx q97, zhx q98, zhx q99, zhx q100] at h3 h8 h101 h102 ⊢ <;> omega))
          replace hM := zE_p hM (by first | (have q1 := zhx q1; have q2 := zhx q2; have q6 := zhx q6; have q7 := zhx q7; have q90 := zhx q90; have q91 := zhx q91; have q92 := zhx q92; have q93 := zhx q93; have q94 := zhx q94; have q95 := zhx q95; have q96 := zhx q96; have q97 := zhx q97; have q98 := zhx q98; have q99 := zhx q99; have q100 := zhx q100; omega) | (simp only [zhx q1, zhx q2, zhx q6, zhx q7, zhx q90, zhx q91, zhx q92, zhx q93, zhx q94, zhx q95, zhx q96, zhx q97, zhx q98, zhx q99, zhx q100] at h3 h8 h101 h102 ⊢ <;> omega))
          have q148 := zhd (((zu_ne (k' := 2) (b' := 0) (i' := 0) (j' := 2019 + 16 * a1) hYm144 (fun q => absurd q.1 (by decide))).trans (zu_ne (k' := 2) (b' := 0) (i' := 0) (j' := 2019 + 16 * a1) hYm140 (fun q => absurd q.1 (by decide)))))
          replace hM := zE_n hM (by first | (have q1 := zhx q1; have q2 := zhx q2; have q6 := zhx q6; have q7 := zhx q7; have q90 := zhx q90; have q91 := zhx q91; have q92 := zhx q92; have q93 := zhx q93; have q94 := zhx q94; have q95 := zhx q95; have q96 := zhx q96; have q97 := zhx q97; have q98 := zhx q98; have q99 := zhx q99; have q100 := zhx q100; have q148 := zhx q148; omega) | (simp only [zhx q1, zhx q2, zhx q6, zhx q7, zhx q90, zhx q91, zhx q92, zhx q93, zhx q94, zhx q95, zhx q96, zhx q97, zhx q98, zhx q99, zhx q100, zhx q148] at h3 h8 h101 h102 ⊢ <;> omega))
          have q149 := zhd (((zu_ne (k' := 2) (b' := 0) (i' := 0) (j' := 2010 + 16 * a1) hYm144 (fun q => absurd q.1 (by decide))).trans (zu_ne (k' := 2) (b' := 0) (i' := 0) (j' := 2010 + 16 * a1) hYm140 (fun q => absurd q.1 (by decide)))))
          have q150 := zhd (congrArg (Ym144 2 0 0) (show (201 + 20 * (Ym144 2 0 0 (2010 + 16 * a1))) = 201 + 20 * (Y 2 0 0 (2010 + 16 * a1)) from (by first | (have q90 := zhx q90; have q149 := zhx q149; omega) | (have q1 := zhx q1; have q2 := zhx q2; have q6 := zhx q6; have q7 := zhx q7; have q90 := zhx q90; have q91 := zhx q91; have q92 := zhx q92; have q93 := zhx q93; have q94 := zhx q94; have q95 := zhx q95; have q96 := zhx q96; have q97 := zhx q97; have q98 := zhx q98; have q99 := zhx q99; have q100 := zhx q100; have q149 := zhx q149; omega))))
          have q151 := zhd (((zu_ne (k' := 2) (b' := 0) (i' := 0) (j' := 201 + 20 * (Y 2 0 0 (2010 + 16 * a1))) hYm144 (fun q => absurd q.1 (by decide))).trans (zu_ne (k' := 2) (b' := 0) (i' := 0) (j' := 201 + 20 * (Y 2 0 0 (2010 + 16 * a1))) hYm140 (fun q => absurd q.1 (by decide)))))
          have q152 := zhd (congrArg (Ym144 2 0 0) (show (113 + 5 * (Ym144 2 0 0 (201 + 20 * (Ym144 2 0 0 (2010 + 16 * a1))))) = 113 + 5 * (Y 2 0 0 (201 + 20 * (Y 2 0 0 (2010 + 16 * a1)))) from (by first | (have q90 := zhx q90; have q92 := zhx q92; have q149 := zhx q149; have q150 := zhx q150; have q151 := zhx q151; omega) | (have q1 := zhx q1; have q2 := zhx q2; have q6 := zhx q6; have q7 := zhx q7; have q90 := zhx q90; have q91 := zhx q91; have q92 := zhx q92; have q93 := zhx q93; have q94 := zhx q94; have q95 := zhx q95; have q96 := zhx q96; have q97 := zhx q97; have q98 := zhx q98; have q99 := zhx q99; have q100 := zhx q100; have q149 := zhx q149; have q150 := zhx q150; have q151 := zhx q151; omega))))
          have q153 := zhd (((zu_ne (k' := 2) (b' := 0) (i' := 0) (j' := 113 + 5 * (Y 2 0 0 (201 + 20 * (Y 2 0 0 (2010 + 16 * a1))))) hYm144 (fun q => absurd q.1 (by decide))).trans (zu_ne (k' := 2) (b' := 0) (i' := 0) (j' := 113 + 5 * (Y 2 0 0 (201 + 20 * (Y 2 0 0 (2010 + 16 * a1))))) hYm140 (fun q => absurd q.1 (by decide)))))
          have q154 := zhd (congrArg (Ym144 2 0 0) (show (114 + 5 * (Ym144 2 0 0 (201 + 20 * (Ym144 2 0 0 (2010 + 16 * a1))))) = 114 + 5 * (Y 2 0 0 (201 + 20 * (Y 2 0 0 (2010 + 16 * a1)))) from (by first | (have q90 := zhx q90; have q92 := zhx q92; have q149 := zhx q149; have q150 := zhx q150; have q151 := zhx q151; omega) | (have q1 := zhx q1; have q2 := zhx q2; have q6 := zhx q6; have q7 := zhx q7; have q90 := zhx q90; have q91 := zhx q91; have q92 := zhx q92; have q93 := zhx q93; have q94 := zhx q94; have q95 := zhx q95; have q96 := zhx q96; have q97 := zhx q97; have q98 := zhx q98; have q99 := zhx q99; have q100 := zhx q100; have q149 := zhx q149; have q150 := zhx q150; have q151 := zhx q151; omega))))
          have q155 := zhd (((zu_ne (k' := 2) (b' := 0) (i' := 0) (j' := 114 + 5 * (Y 2 0 0 (201 + 20 * (Y 2 0 0 (2010 + 16 * a1))))) hYm144 (fun q => absurd q.1 (by decide))).trans (zu_ne (k' := 2) (b' := 0) (i' := 0) (j' := 114 + 5 * (Y 2 0 0 (201 + 20 * (Y 2 0 0 (2010 + 16 * a1))))) hYm140 (fun q => absurd q.1 (by decide)))))
          have q156 := zhd (congrArg (Ym144 2 0 0) (show (207 + 20 * (Ym144 2 0 0 (2010 + 16 * a1))) = 207 + 20 * (Y 2 0 0 (2010 + 16 * a1)) from (by first | (have q90 := zhx q90; have q149 := zhx q149; omega) | (have q1 := zhx q1; have q2 := zhx q2; have q6 := zhx q6; have q7 := zhx q7; have q90 := zhx q90; have q91 := zhx q91; have q92 := zhx q92; have q93 := zhx q93; have q94 := zhx q94; have q95 := zhx q95; have q96 := zhx q96; have q97 := zhx q97; have q98 := zhx q98; have q99 := zhx q99; have q100 := zhx q100; have q149 := zhx q149; omega))))
          have q157 := zhd (((zu_ne (k' := 2) (b' := 0) (i' := 0) (j' := 207 + 20 * (Y 2 0 0 (2010 + 16 * a1))) hYm144 (fun q => absurd q.1 (by decide))).trans (zu_ne (k' := 2) (b' := 0) (i' := 0) (j' := 207 + 20 * (Y 2 0 0 (2010 + 16 * a1))) hYm140 (fun q => absurd q.1 (by decide)))))
          replace hM := zE_p hM (by first | (have q1 := zhx q1; have q2 := zhx q2; have q6 := zhx q6; have q7 := zhx q7; have q90 := zhx q90; have q91 := zhx q91; have q92 := zhx q92; have q93 := zhx q93; have q94 := zhx q94; have q95 := zhx q95; have q96 := zhx q96; have q97 := zhx q97; have q98 := zhx q98; have q99 := zhx q99; have q100 := zhx q100; have q149 := zhx q149; have q150 := zhx q150; have q151 := zhx q151; have q152 := zhx q152; have q153 := zhx q153; have q154 := zhx q154; have q155 := zhx q155; have q156 := zhx q156; have q157 := zhx q157; omega) | (simp only [zhx q1, zhx q2, zhx q6, zhx q7, zhx q90, zhx q91, zhx q92, zhx q93, zhx q94, zhx q95, zhx q96, zhx q97, zhx q98, zhx q99, zhx q100, zhx q149, zhx q150, zhx q151, zhx q152, zhx q153, zhx q154, zhx q155, zhx q156, zhx q157] at h3 h8 h101 h102 ⊢ <;> omega))
          replace hM := zE_n hM (by first | (have q1 := zhx q1; have q2 := zhx q2; have q6 := zhx q6; have q7 := zhx q7; have q90 := zhx q90; have q91 := zhx q91; have q92 := zhx q92; have q93 := zhx q93; have q94 := zhx q94; have q95 := zhx q95; have q96 := zhx q96; have q97 := zhx q97; have q98 := zhx q98; have q99 := zhx q99; have q100 := zhx q100; have q149 := zhx q149; have q150 := zhx q150; have q151 := zhx q151; have q152 := zhx q152; have q153 := zhx q153; have q154 := zhx q154; have q155 := zhx q155; have q156 := zhx q156; have q157 := zhx q157; omega) | (simp only [zhx q1, zhx q2, zhx q6, zhx q7, zhx q90, zhx q91, zhx q92, zhx q93, zhx q94, zhx q95, zhx q96, zhx q97, zhx q98, zhx q99, zhx q100, zhx q149, zhx q150, zhx q151, zhx q152, zhx q153, zhx q154, zhx q155, zhx q156, zhx q157] at h3 h8 h101 h102 ⊢ <;> omega))
          have th9 := (zu_at hYm144)
          obtain rfl : C = _ := hC
          obtain rfl : M = _ := hM
          exact ⟨zRx_1 hR145, hV146, ⟨Z, _, .inl ⟨rfl, yFr_w hG147 (by decide)⟩, zFc_r, yFr_r⟩, zThr_a th9 (by first | rfl | (have q1 := zhx q1; have q2 := zhx q2; have q6 := zhx q6; have q7 := zhx q7; have q90 := zhx q90; have q91 := zhx q91; have q92 := zhx q92; have q93 := zhx q93; have q94 := zhx q94; have q95 := zhx q95; have q96 := zhx q96; have q97 := zhx q97; have q98 := zhx q98; have q99 := zhx q99; have q100 := zhx q100; omega) | (simp only [zhx q1, zhx q2, zhx q6, zhx q7, zhx q90, zhx q91, zhx q92, zhx q93, zhx q94, zhx q95, zhx q96, zhx q97, zhx q98, zhx q99, zhx q100] <;> omega) | (have q1 := zhx q1; have q2 := zhx q2; have q6 := zhx q6; have q7 := zhx q7; have q90 := zhx q90; have q91 := zhx q91; have q92 := zhx q92; have q93 := zhx q93; have q94 := zhx q94; have q95 := zhx q95; have q96 := zhx q96; have q97 := zhx q97; have q98 := zhx q98; have q99 := zhx q99; have q100 := zhx q100; refine w3z ?_ ?_ ?_ <;> omega) | (have q1 := zhx q1; have q2 := zhx q2; have q6 := zhx q6; have q7 := zhx q7; have q90 := zhx q90; have q91 := zhx q91; have q92 := zhx q92; have q93 := zhx q93; have q94 := zhx q94; have q95 := zhx q95; have q96 := zhx q96; have q97 := zhx q97; have q98 := zhx q98; have q99 := zhx q99; have q100 := zhx q100; refine w3y ?_ ?_ ?_ <;> omega) | (have q1 := zhx q1; have q2 := zhx q2; have q6 := zhx q6; have q7 := zhx q7; have q90 := zhx q90; have q91 := zhx q91; have q92 := zhx q92; have q93 := zhx q93; have q94 := zhx q94; have q95 := zhx q95; have q96 := zhx q96; have q97 := zhx q97; have q98 := zhx q98; have q99 := zhx q99; have q100 := zhx q100; refine z2o ?_ ?_ ?_ <;> omega))⟩
      · have e9 : 0 = v5 := Eq.symm g4
        subst e9
        replace hM := zE_n hM (by first | (have q1 := zhx q1; have q2 := zhx q2; have q6 := zhx q6; have q7 := zhx q7; have q90 := zhx q90; have q91 := zhx q91; have q92 := zhx q92; have q93 := zhx q93; have q94 := zhx q94; have q95 := zhx q95; have q96 := zhx q96; have q97 := zhx q97; have q98 := zhx q98; have q99 := zhx q99; have q100 := zhx q100; omega) | (simp only [zhx q1, zhx q2, zhx q6, zhx q7, zhx q90, zhx q91, zhx q92, zhx q93, zhx q94, zhx q95, zhx q96, zhx q97, zhx q98, zhx q99, zhx q100] at h3 h8 h101 ⊢ <;> omega))
        replace hM := zE_n hM (by first | (have q1 := zhx q1; have q2 := zhx q2; have q6 := zhx q6; have q7 := zhx q7; have q90 := zhx q90; have q91 := zhx q91; have q92 := zhx q92; have q93 := zhx q93; have q94 := zhx q94; have q95 := zhx q95; have q96 := zhx q96; have q97 := zhx q97; have q98 := zhx q98; have q99 := zhx q99; have q100 := zhx q100; omega) | (simp only [zhx q1, zhx q2, zhx q6, zhx q7, zhx q90, zhx q91, zhx q92, zhx q93, zhx q94, zhx q95, zhx q96, zhx q97, zhx q98, zhx q99, zhx q100] at h3 h8 h101 ⊢ <;> omega))
        obtain ⟨Ym158, hYm158, hM⟩ := zl_x hM
        have hR159 : zRx [] 0 Z Ym158 := zRx_o hRb hYm158 rfl
        have hV160 : zV Ym158 := zV_o hV hYm158 rfl
        have hG161 := yFr_o hG hYm158 rfl (.inr rfl) rfl
        replace hM := zE_n hM (by first | (have q1 := zhx q1; have q2 := zhx q2; have q6 := zhx q6; have q7 := zhx q7; have q90 := zhx q90; have q91 := zhx q91; have q92 := zhx q92; have q93 := zhx q93; have q94 := zhx q94; have q95 := zhx q95; have q96 := zhx q96; have q97 := zhx q97; have q98 := zhx q98; have q99 := zhx q99; have q100 := zhx q100; omega) | (simp only [zhx q1, zhx q2, zhx q6, zhx q7, zhx q90, zhx q91, zhx q92, zhx q93, zhx q94, zhx q95, zhx q96, zhx q97, zhx q98, zhx q99, zhx q100] at h3 h8 h101 ⊢ <;> omega))
        replace hM := zE_n hM (by first | (have q1 := zhx q1; have q2 := zhx q2; have q6 := zhx q6; have q7 := zhx q7; have q90 := zhx q90; have q91 := zhx q91; have q92 := zhx q92; have q93 := zhx q93; have q94 := zhx q94; have q95 := zhx q95; have q96 := zhx q96; have q97 := zhx q97; have q98 := zhx q98; have q99 := zhx q99; have q100 := zhx q100; omega) | (simp only [zhx q1, zhx q2, zhx q6, zhx q7, zhx q90, zhx q91, zhx q92, zhx q93, zhx q94, zhx q95, zhx q96, zhx q97, zhx q98, zhx q99, zhx q100] at h3 h8 h101 ⊢ <;> omega))
        obtain ⟨Ym162, hYm162, hM⟩ := zl_x hM
        have hR163 : zRx [] 0 Z Ym162 := zRx_o hR159 hYm162 rfl
        have hV164 : zV Ym162 := zV_o hV160 hYm162 rfl
        have hG165 := yFr_o hG161 hYm162 rfl (.inr rfl) rfl
        replace hM := zE_n hM (by first | (have q1 := zhx q1; have q2 := zhx q2; have q6 := zhx q6; have q7 := zhx q7; have q90 := zhx q90; have q91 := zhx q91; have q92 := zhx q92; have q93 := zhx q93; have q94 := zhx q94; have q95 := zhx q95; have q96 := zhx q96; have q97 := zhx q97; have q98 := zhx q98; have q99 := zhx q99; have q100 := zhx q100; omega) | (simp only [zhx q1, zhx q2, zhx q6, zhx q7, zhx q90, zhx q91, zhx q92, zhx q93, zhx q94, zhx q95, zhx q96, zhx q97, zhx q98, zhx q99, zhx q100] at h3 h8 h101 ⊢ <;> omega))
        replace hM := zE_n hM (by first | (have q1 := zhx q1; have q2 := zhx q2; have q6 := zhx q6; have q7 := zhx q7; have q90 := zhx q90; have q91 := zhx q91; have q92 := zhx q92; have q93 := zhx q93; have q94 := zhx q94; have q95 := zhx q95; have q96 := zhx q96; have q97 := zhx q97; have q98 := zhx q98; have q99 := zhx q99; have q100 := zhx q100; omega) | (simp only [zhx q1, zhx q2, zhx q6, zhx q7, zhx q90, zhx q91, zhx q92, zhx q93, zhx q94, zhx q95, zhx q96, zhx q97, zhx q98, zhx q99, zhx q100] at h3 h8 h101 ⊢ <;> omega))
        replace hM := zE_n hM (by first | (have q1 := zhx q1; have q2 := zhx q2; have q6 := zhx q6; have q7 := zhx q7; have q90 := zhx q90; have q91 := zhx q91; have q92 := zhx q92; have q93 := zhx q93; have q94 := zhx q94; have q95 := zhx q95; have q96 := zhx q96; have q97 := zhx q97; have q98 := zhx q98; have q99 := zhx q99; have q100 := zhx q100; omega) | (simp only [zhx q1, zhx q2, zhx q6, zhx q7, zhx q90, zhx q91, zhx q92, zhx q93, zhx q94, zhx q95, zhx q96, zhx q97, zhx q98, zhx q99, zhx q100] at h3 h8 h101 ⊢ <;> omega))
        replace hM := zE_p hM (by first | (have q1 := zhx q1; have q2 := zhx q2; have q6 := zhx q6; have q7 := zhx q7; have q90 := zhx q90; have q91 := zhx q91; have q92 := zhx q92; have q93 := zhx q93; have q94 := zhx q94; have q95 := zhx q95; have q96 := zhx q96; have q97 := zhx q97; have q98 := zhx q98; have q99 := zhx q99; have q100 := zhx q100; omega) | (simp only [zhx q1, zhx q2, zhx q6, zhx q7, zhx q90, zhx q91, zhx q92, zhx q93, zhx q94, zhx q95, zhx q96, zhx q97, zhx q98, zhx q99, zhx q100] at h3 h8 h101 ⊢ <;> omega))
        have q166 := zhd (((zu_ne (k' := 2) (b' := 0) (i' := 0) (j' := 2019 + 16 * a1) hYm162 (fun q => absurd q.1 (by decide))).trans (zu_ne (k' := 2) (b' := 0) (i' := 0) (j' := 2019 + 16 * a1) hYm158 (fun q => absurd q.1 (by decide)))))
        replace hM := zE_n hM (by first | (have q1 := zhx q1; have q2 := zhx q2; have q6 := zhx q6; have q7 := zhx q7; have q90 := zhx q90; have q91 := zhx q91; have q92 := zhx q92; have q93 := zhx q93; have q94 := zhx q94; have q95 := zhx q95; have q96 := zhx q96; have q97 := zhx q97; have q98 := zhx q98; have q99 := zhx q99; have q100 := zhx q100; have q166 := zhx q166; omega) | (simp only [zhx q1, zhx q2, zhx q6, zhx q7, zhx q90, zhx q91, zhx q92, zhx q93, zhx q94, zhx q95, zhx q96, zhx q97, zhx q98, zhx q99, zhx q100, zhx q166] at h3 h8 h101 ⊢ <;> omega))
        have q167 := zhd (((zu_ne (k' := 2) (b' := 0) (i' := 0) (j' := 2010 + 16 * a1) hYm162 (fun q => absurd q.1 (by decide))).trans (zu_ne (k' := 2) (b' := 0) (i' := 0) (j' := 2010 + 16 * a1) hYm158 (fun q => absurd q.1 (by decide)))))
        have q168 := zhd (congrArg (Ym162 2 0 0) (show (201 + 20 * (Ym162 2 0 0 (2010 + 16 * a1))) = 201 + 20 * (Y 2 0 0 (2010 + 16 * a1)) from (by first | (have q90 := zhx q90; have q167 := zhx q167; omega) | (have q1 := zhx q1; have q2 := zhx q2; have q6 := zhx q6; have q7 := zhx q7; have q90 := zhx q90; have q91 := zhx q91; have q92 := zhx q92; have q93 := zhx q93; have q94 := zhx q94; have q95 := zhx q95; have q96 := zhx q96; have q97 := zhx q97; have q98 := zhx q98; have q99 := zhx q99; have q100 := zhx q100; have q167 := zhx q167; omega))))
        have q169 := zhd (((zu_ne (k' := 2) (b' := 0) (i' := 0) (j' := 201 + 20 * (Y 2 0 0 (2010 + 16 * a1))) hYm162 (fun q => absurd q.1 (by decide))).trans (zu_ne (k' := 2) (b' := 0) (i' := 0) (j' := 201 + 20 * (Y 2 0 0 (2010 + 16 * a1))) hYm158 (fun q => absurd q.1 (by decide)))))
        have q170 := zhd (congrArg (Ym162 2 0 0) (show (113 + 5 * (Ym162 2 0 0 (201 + 20 * (Ym162 2 0 0 (2010 + 16 * a1))))) = 113 + 5 * (Y 2 0 0 (201 + 20 * (Y 2 0 0 (2010 + 16 * a1)))) from (by first | (have q90 := zhx q90; have q92 := zhx q92; have q167 := zhx q167; have q168 := zhx q168; have q169 := zhx q169; omega) | (have q1 := zhx q1; have q2 := zhx q2; have q6 := zhx q6; have q7 := zhx q7; have q90 := zhx q90; have q91 := zhx q91; have q92 := zhx q92; have q93 := zhx q93; have q94 := zhx q94; have q95 := zhx q95; have q96 := zhx q96; have q97 := zhx q97; have q98 := zhx q98; have q99 := zhx q99; have q100 := zhx q100; have q167 := zhx q167; have q168 := zhx q168; have q169 := zhx q169; omega))))
        have q171 := zhd (((zu_ne (k' := 2) (b' := 0) (i' := 0) (j' := 113 + 5 * (Y 2 0 0 (201 + 20 * (Y 2 0 0 (2010 + 16 * a1))))) hYm162 (fun q => absurd q.1 (by decide))).trans (zu_ne (k' := 2) (b' := 0) (i' := 0) (j' := 113 + 5 * (Y 2 0 0 (201 + 20 * (Y 2 0 0 (2010 + 16 * a1))))) hYm158 (fun q => absurd q.1 (by decide)))))
        have q172 := zhd (congrArg (Ym162 2 0 0) (show (114 + 5 * (Ym162 2 0 0 (201 + 20 * (Ym162 2 0 0 (2010 + 16 * a1))))) = 114 + 5 * (Y 2 0 0 (201 + 20 * (Y 2 0 0 (2010 + 16 * a1)))) from (by first | (have q90 := zhx q90; have q92 := zhx q92; have q167 := zhx q167; have q168 := zhx q168; have q169 := zhx q169; omega) | (have q1 := zhx q1; have q2 := zhx q2; have q6 := zhx q6; have q7 := zhx q7; have q90 := zhx q90; have q91 := zhx q91; have q92 := zhx q92; have q93 := zhx q93; have q94 := zhx q94; have q95 := zhx q95; have q96 := zhx q96; have q97 := zhx q97; have q98 := zhx q98; have q99 := zhx q99; have q100 := zhx q100; have q167 := zhx q167; have q168 := zhx q168; have q169 := zhx q169; omega))))
        have q173 := zhd (((zu_ne (k' := 2) (b' := 0) (i' := 0) (j' := 114 + 5 * (Y 2 0 0 (201 + 20 * (Y 2 0 0 (2010 + 16 * a1))))) hYm162 (fun q => absurd q.1 (by decide))).trans (zu_ne (k' := 2) (b' := 0) (i' := 0) (j' := 114 + 5 * (Y 2 0 0 (201 + 20 * (Y 2 0 0 (2010 + 16 * a1))))) hYm158 (fun q => absurd q.1 (by decide)))))
        have q174 := zhd (congrArg (Ym162 2 0 0) (show (207 + 20 * (Ym162 2 0 0 (2010 + 16 * a1))) = 207 + 20 * (Y 2 0 0 (2010 + 16 * a1)) from (by first | (have q90 := zhx q90; have q167 := zhx q167; omega) | (have q1 := zhx q1; have q2 := zhx q2; have q6 := zhx q6; have q7 := zhx q7; have q90 := zhx q90; have q91 := zhx q91; have q92 := zhx q92; have q93 := zhx q93; have q94 := zhx q94; have q95 := zhx q95; have q96 := zhx q96; have q97 := zhx q97; have q98 := zhx q98; have q99 := zhx q99; have q100 := zhx q100; have q167 := zhx q167; omega))))
        have q175 := zhd (((zu_ne (k' := 2) (b' := 0) (i' := 0) (j' := 207 + 20 * (Y 2 0 0 (2010 + 16 * a1))) hYm162 (fun q => absurd q.1 (by decide))).trans (zu_ne (k' := 2) (b' := 0) (i' := 0) (j' := 207 + 20 * (Y 2 0 0 (2010 + 16 * a1))) hYm158 (fun q => absurd q.1 (by decide)))))
        replace hM := zE_n hM (by first | (have q1 := zhx q1; have q2 := zhx q2; have q6 := zhx q6; have q7 := zhx q7; have q90 := zhx q90; have q91 := zhx q91; have q92 := zhx q92; have q93 := zhx q93; have q94 := zhx q94; have q95 := zhx q95; have q96 := zhx q96; have q97 := zhx q97; have q98 := zhx q98; have q99 := zhx q99; have q100 := zhx q100; have q167 := zhx q167; have q168 := zhx q168; have q169 := zhx q169; have q170 := zhx q170; have q171 := zhx q171; have q172 := zhx q172; have q173 := zhx q173; have q174 := zhx q174; have q175 := zhx q175; omega) | (simp only [zhx q1, zhx q2, zhx q6, zhx q7, zhx q90, zhx q91, zhx q92, zhx q93, zhx q94, zhx q95, zhx q96, zhx q97, zhx q98, zhx q99, zhx q100, zhx q167, zhx q168, zhx q169, zhx q170, zhx q171, zhx q172, zhx q173, zhx q174, zhx q175] at h3 h8 h101 ⊢ <;> omega))
        have th9 := (zu_at hYm162)
        obtain rfl : C = _ := hC
        obtain rfl : M = _ := hM
        exact ⟨zRx_1 hR163, hV164, ⟨Z, _, .inl ⟨rfl, yFr_w hG165 (by decide)⟩, zFc_r, yFr_r⟩, zThr_a th9 (by first | rfl | (have q1 := zhx q1; have q2 := zhx q2; have q6 := zhx q6; have q7 := zhx q7; have q90 := zhx q90; have q91 := zhx q91; have q92 := zhx q92; have q93 := zhx q93; have q94 := zhx q94; have q95 := zhx q95; have q96 := zhx q96; have q97 := zhx q97; have q98 := zhx q98; have q99 := zhx q99; have q100 := zhx q100; omega) | (simp only [zhx q1, zhx q2, zhx q6, zhx q7, zhx q90, zhx q91, zhx q92, zhx q93, zhx q94, zhx q95, zhx q96, zhx q97, zhx q98, zhx q99, zhx q100] <;> omega) | (have q1 := zhx q1; have q2 := zhx q2; have q6 := zhx q6; have q7 := zhx q7; have q90 := zhx q90; have q91 := zhx q91; have q92 := zhx q92; have q93 := zhx q93; have q94 := zhx q94; have q95 := zhx q95; have q96 := zhx q96; have q97 := zhx q97; have q98 := zhx q98; have q99 := zhx q99; have q100 := zhx q100; refine w3z ?_ ?_ ?_ <;> omega) | (have q1 := zhx q1; have q2 := zhx q2; have q6 := zhx q6; have q7 := zhx q7; have q90 := zhx q90; have q91 := zhx q91; have q92 := zhx q92; have q93 := zhx q93; have q94 := zhx q94; have q95 := zhx q95; have q96 := zhx q96; have q97 := zhx q97; have q98 := zhx q98; have q99 := zhx q99; have q100 := zhx q100; refine w3y ?_ ?_ ?_ <;> omega) | (have q1 := zhx q1; have q2 := zhx q2; have q6 := zhx q6; have q7 := zhx q7; have q90 := zhx q90; have q91 := zhx q91; have q92 := zhx q92; have q93 := zhx q93; have q94 := zhx q94; have q95 := zhx q95; have q96 := zhx q96; have q97 := zhx q97; have q98 := zhx q98; have q99 := zhx q99; have q100 := zhx q100; refine z2o ?_ ?_ ?_ <;> omega))⟩
  · rcases zE_c hM with ⟨h176, hM⟩ | ⟨h176, hM⟩
    · obtain ⟨Ym177, hYm177, hM⟩ := zl_x hM
      have hR178 : zRx [] 0 Z Ym177 := zRx_o hRb hYm177 rfl
      have hV179 : zV Ym177 := zV_o hV hYm177 rfl
      have hG180 := yFr_o hG hYm177 rfl (.inr rfl) rfl
      have th9 := (zu_at hYm177)
      obtain rfl : C = _ := hC
      obtain rfl : M = _ := hM
      exact ⟨zRx_1 hR178, hV179, ⟨Z, _, .inl ⟨rfl, yFr_w hG180 (by decide)⟩, zFc_r, yFr_r⟩, zThr_e th9 (by decide)⟩
    · rcases zE_c hM with ⟨h181, hM⟩ | ⟨h181, hM⟩
      · obtain ⟨Ym182, hYm182, hM⟩ := zl_x hM
        have hR183 : zRx [] 0 Z Ym182 := zRx_o hRb hYm182 rfl
        have hV184 : zV Ym182 := zV_o hV hYm182 rfl
        have hG185 := yFr_o hG hYm182 rfl (.inr rfl) rfl
        have th9 := (zu_at hYm182)
        obtain rfl : C = _ := hC
        obtain rfl : M = _ := hM
        exact ⟨zRx_1 hR183, hV184, ⟨Z, _, .inl ⟨rfl, yFr_w hG185 (by decide)⟩, zFc_r, yFr_r⟩, zThr_e th9 (by decide)⟩
      · obtain ⟨Ym186, hYm186, hM⟩ := zl_x hM
        have hR187 : zRx [] 0 Z Ym186 := zRx_o hRb hYm186 rfl
        have hV188 : zV Ym186 := zV_o hV hYm186 rfl
        have hG189 := yFr_o hG hYm186 rfl (.inr rfl) rfl
        replace hM := zE_n hM (by first | (have q1 := zhx q1; have q2 := zhx q2; omega) | (simp only [zhx q1, zhx q2] at h3 h176 h181 ⊢ <;> omega))
        replace hM := zE_n hM (by first | (have q1 := zhx q1; have q2 := zhx q2; omega) | (simp only [zhx q1, zhx q2] at h3 h176 h181 ⊢ <;> omega))
        obtain ⟨Ym190, hYm190, hM⟩ := zl_x hM
        have hR191 : zRx [] 0 Z Ym190 := zRx_o hR187 hYm190 rfl
        have hV192 : zV Ym190 := zV_o hV188 hYm190 rfl
        have hG193 := yFr_o hG189 hYm190 rfl (.inr rfl) rfl
        replace hM := zE_n hM (by first | (have q1 := zhx q1; have q2 := zhx q2; omega) | (simp only [zhx q1, zhx q2] at h3 h176 h181 ⊢ <;> omega))
        replace hM := zE_n hM (by first | (have q1 := zhx q1; have q2 := zhx q2; omega) | (simp only [zhx q1, zhx q2] at h3 h176 h181 ⊢ <;> omega))
        replace hM := zE_n hM (by first | (have q1 := zhx q1; have q2 := zhx q2; omega) | (simp only [zhx q1, zhx q2] at h3 h176 h181 ⊢ <;> omega))
        replace hM := zE_p hM (by first | (have q1 := zhx q1; have q2 := zhx q2; omega) | (simp only [zhx q1, zhx q2] at h3 h176 h181 ⊢ <;> omega))
        have q194 := zhd (zVr_47_9 (x := a1) (a := 2019 + 16 * a1) hV (by have q1 := zhx q1; have q2 := zhx q2; omega) (by have q1 := zhx q1; have q2 := zhx q2; omega) (by have q1 := zhx q1; have q2 := zhx q2; omega))
        have q195 := zhd (((zu_ne (k' := 2) (b' := 0) (i' := 0) (j' := 2019 + 16 * a1) hYm190 (fun q => absurd q.1 (by decide))).trans (zu_ne (k' := 2) (b' := 0) (i' := 0) (j' := 2019 + 16 * a1) hYm186 (fun q => absurd q.1 (by decide)))))
        rcases zE_c hM with ⟨h196, hM⟩ | ⟨h196, hM⟩
        · have q197 := zhd (zVr_47_0 (x := a1) (a := 2010 + 16 * a1) hV (by first | (omega) | (have q1 := zhx q1; have q2 := zhx q2; have q194 := zhx q194; have q195 := zhx q195; omega)) (by first | (omega) | (have q1 := zhx q1; have q2 := zhx q2; have q194 := zhx q194; have q195 := zhx q195; omega)) (by first | (omega) | (have q1 := zhx q1; have q2 := zhx q2; have q194 := zhx q194; have q195 := zhx q195; omega)))
          have q198 := zhd (((zu_ne (k' := 2) (b' := 0) (i' := 0) (j' := 2010 + 16 * a1) hYm190 (fun q => absurd q.1 (by decide))).trans (zu_ne (k' := 2) (b' := 0) (i' := 0) (j' := 2010 + 16 * a1) hYm186 (fun q => absurd q.1 (by decide)))))
          have q199 := zhd (zVr_44_1 (x := (Y 2 0 0 (2010 + 16 * a1))) (a := 201 + 20 * (Y 2 0 0 (2010 + 16 * a1))) hV (by first | (have q197 := zhx q197; omega) | (have q1 := zhx q1; have q2 := zhx q2; have q194 := zhx q194; have q195 := zhx q195; have q197 := zhx q197; omega)) (by first | (have q197 := zhx q197; omega) | (have q1 := zhx q1; have q2 := zhx q2; have q194 := zhx q194; have q195 := zhx q195; have q197 := zhx q197; omega)) (by first | (have q197 := zhx q197; omega) | (have q1 := zhx q1; have q2 := zhx q2; have q194 := zhx q194; have q195 := zhx q195; have q197 := zhx q197; omega)))
          have q200 := zhd (congrArg (Ym190 2 0 0) (show (201 + 20 * (Ym190 2 0 0 (2010 + 16 * a1))) = 201 + 20 * (Y 2 0 0 (2010 + 16 * a1)) from (by first | (have q197 := zhx q197; have q198 := zhx q198; omega) | (have q1 := zhx q1; have q2 := zhx q2; have q194 := zhx q194; have q195 := zhx q195; have q197 := zhx q197; have q198 := zhx q198; omega))))
          have q201 := zhd (((zu_ne (k' := 2) (b' := 0) (i' := 0) (j' := 201 + 20 * (Y 2 0 0 (2010 + 16 * a1))) hYm190 (fun q => absurd q.1 (by decide))).trans (zu_ne (k' := 2) (b' := 0) (i' := 0) (j' := 201 + 20 * (Y 2 0 0 (2010 + 16 * a1))) hYm186 (fun q => absurd q.1 (by decide)))))
          have q202 := zhd (congrArg (Ym190 2 0 0) (show (113 + 5 * (Ym190 2 0 0 (201 + 20 * (Ym190 2 0 0 (2010 + 16 * a1))))) = 113 + 5 * (Y 2 0 0 (201 + 20 * (Y 2 0 0 (2010 + 16 * a1)))) from (by first | (have q197 := zhx q197; have q198 := zhx q198; have q199 := zhx q199; have q200 := zhx q200; have q201 := zhx q201; omega) | (have q1 := zhx q1; have q2 := zhx q2; have q194 := zhx q194; have q195 := zhx q195; have q197 := zhx q197; have q198 := zhx q198; have q199 := zhx q199; have q200 := zhx q200; have q201 := zhx q201; omega))))
          have q203 := zhd (((zu_ne (k' := 2) (b' := 0) (i' := 0) (j' := 113 + 5 * (Y 2 0 0 (201 + 20 * (Y 2 0 0 (2010 + 16 * a1))))) hYm190 (fun q => absurd q.1 (by decide))).trans (zu_ne (k' := 2) (b' := 0) (i' := 0) (j' := 113 + 5 * (Y 2 0 0 (201 + 20 * (Y 2 0 0 (2010 + 16 * a1))))) hYm186 (fun q => absurd q.1 (by decide)))))
          have q204 := zhd (congrArg (Ym190 2 0 0) (show (114 + 5 * (Ym190 2 0 0 (201 + 20 * (Ym190 2 0 0 (2010 + 16 * a1))))) = 114 + 5 * (Y 2 0 0 (201 + 20 * (Y 2 0 0 (2010 + 16 * a1)))) from (by first | (have q197 := zhx q197; have q198 := zhx q198; have q199 := zhx q199; have q200 := zhx q200; have q201 := zhx q201; omega) | (have q1 := zhx q1; have q2 := zhx q2; have q194 := zhx q194; have q195 := zhx q195; have q197 := zhx q197; have q198 := zhx q198; have q199 := zhx q199; have q200 := zhx q200; have q201 := zhx q201; omega))))
          have q205 := zhd (((zu_ne (k' := 2) (b' := 0) (i' := 0) (j' := 114 + 5 * (Y 2 0 0 (201 + 20 * (Y 2 0 0 (2010 + 16 * a1))))) hYm190 (fun q => absurd q.1 (by decide))).trans (zu_ne (k' := 2) (b' := 0) (i' := 0) (j' := 114 + 5 * (Y 2 0 0 (201 + 20 * (Y 2 0 0 (2010 + 16 * a1))))) hYm186 (fun q => absurd q.1 (by decide)))))
          have q206 := zhd (((zu_ne (k' := 2) (b' := 0) (i' := 0) (j' := 2021 + 16 * a1) hYm190 (fun q => absurd q.1 (by decide))).trans (zu_ne (k' := 2) (b' := 0) (i' := 0) (j' := 2021 + 16 * a1) hYm186 (fun q => absurd q.1 (by decide)))))
          rcases zE_c hM with ⟨h207, hM⟩ | ⟨h207, hM⟩
          · rcases zE_c hM with ⟨h208, hM⟩ | ⟨h208, hM⟩
            · rcases zE_c hM with ⟨h209, hM⟩ | ⟨h209, hM⟩
              · exact False.elim (by have q1 := zhx q1; have q2 := zhx q2; have q194 := zhx q194; have q195 := zhx q195; have q197 := zhx q197; have q198 := zhx q198; have q199 := zhx q199; have q200 := zhx q200; have q201 := zhx q201; have q202 := zhx q202; have q203 := zhx q203; have q204 := zhx q204; have q205 := zhx q205; have q206 := zhx q206; first | omega | grind)
              · exact False.elim (by have q1 := zhx q1; have q2 := zhx q2; have q194 := zhx q194; have q195 := zhx q195; have q197 := zhx q197; have q198 := zhx q198; have q199 := zhx q199; have q200 := zhx q200; have q201 := zhx q201; have q202 := zhx q202; have q203 := zhx q203; have q204 := zhx q204; have q205 := zhx q205; have q206 := zhx q206; first | omega | grind)
            · exact False.elim (by have q1 := zhx q1; have q2 := zhx q2; have q194 := zhx q194; have q195 := zhx q195; have q197 := zhx q197; have q198 := zhx q198; have q199 := zhx q199; have q200 := zhx q200; have q201 := zhx q201; have q202 := zhx q202; have q203 := zhx q203; have q204 := zhx q204; have q205 := zhx q205; have q206 := zhx q206; first | omega | grind)
          · exact False.elim (by have q1 := zhx q1; have q2 := zhx q2; have q194 := zhx q194; have q195 := zhx q195; have q197 := zhx q197; have q198 := zhx q198; have q199 := zhx q199; have q200 := zhx q200; have q201 := zhx q201; have q202 := zhx q202; have q203 := zhx q203; have q204 := zhx q204; have q205 := zhx q205; have q206 := zhx q206; first | omega | grind)
        · have q210 := zhd (zVr_47_0 (x := a1) (a := 2010 + 16 * a1) hV (by first | (omega) | (have q1 := zhx q1; have q2 := zhx q2; have q194 := zhx q194; have q195 := zhx q195; omega)) (by first | (omega) | (have q1 := zhx q1; have q2 := zhx q2; have q194 := zhx q194; have q195 := zhx q195; omega)) (by first | (omega) | (have q1 := zhx q1; have q2 := zhx q2; have q194 := zhx q194; have q195 := zhx q195; omega)))
          have q211 := zhd (((zu_ne (k' := 2) (b' := 0) (i' := 0) (j' := 2010 + 16 * a1) hYm190 (fun q => absurd q.1 (by decide))).trans (zu_ne (k' := 2) (b' := 0) (i' := 0) (j' := 2010 + 16 * a1) hYm186 (fun q => absurd q.1 (by decide)))))
          have q212 := zhd (zVr_44_1 (x := (Y 2 0 0 (2010 + 16 * a1))) (a := 201 + 20 * (Y 2 0 0 (2010 + 16 * a1))) hV (by first | (have q210 := zhx q210; omega) | (have q1 := zhx q1; have q2 := zhx q2; have q194 := zhx q194; have q195 := zhx q195; have q210 := zhx q210; omega)) (by first | (have q210 := zhx q210; omega) | (have q1 := zhx q1; have q2 := zhx q2; have q194 := zhx q194; have q195 := zhx q195; have q210 := zhx q210; omega)) (by first | (have q210 := zhx q210; omega) | (have q1 := zhx q1; have q2 := zhx q2; have q194 := zhx q194; have q195 := zhx q195; have q210 := zhx q210; omega)))
          have q213 := zhd (congrArg (Ym190 2 0 0) (show (201 + 20 * (Ym190 2 0 0 (2010 + 16 * a1))) = 201 + 20 * (Y 2 0 0 (2010 + 16 * a1)) from (by first | (have q210 := zhx q210; have q211 := zhx q211; omega) | (have q1 := zhx q1; have q2 := zhx q2; have q194 := zhx q194; have q195 := zhx q195; have q210 := zhx q210; have q211 := zhx q211; omega))))
          have q214 := zhd (((zu_ne (k' := 2) (b' := 0) (i' := 0) (j' := 201 + 20 * (Y 2 0 0 (2010 + 16 * a1))) hYm190 (fun q => absurd q.1 (by decide))).trans (zu_ne (k' := 2) (b' := 0) (i' := 0) (j' := 201 + 20 * (Y 2 0 0 (2010 + 16 * a1))) hYm186 (fun q => absurd q.1 (by decide)))))
          have q215 := zhd (congrArg (Ym190 2 0 0) (show (113 + 5 * (Ym190 2 0 0 (201 + 20 * (Ym190 2 0 0 (2010 + 16 * a1))))) = 113 + 5 * (Y 2 0 0 (201 + 20 * (Y 2 0 0 (2010 + 16 * a1)))) from (by first | (have q210 := zhx q210; have q211 := zhx q211; have q212 := zhx q212; have q213 := zhx q213; have q214 := zhx q214; omega) | (have q1 := zhx q1; have q2 := zhx q2; have q194 := zhx q194; have q195 := zhx q195; have q210 := zhx q210; have q211 := zhx q211; have q212 := zhx q212; have q213 := zhx q213; have q214 := zhx q214; omega))))
          have q216 := zhd (((zu_ne (k' := 2) (b' := 0) (i' := 0) (j' := 113 + 5 * (Y 2 0 0 (201 + 20 * (Y 2 0 0 (2010 + 16 * a1))))) hYm190 (fun q => absurd q.1 (by decide))).trans (zu_ne (k' := 2) (b' := 0) (i' := 0) (j' := 113 + 5 * (Y 2 0 0 (201 + 20 * (Y 2 0 0 (2010 + 16 * a1))))) hYm186 (fun q => absurd q.1 (by decide)))))
          have q217 := zhd (congrArg (Ym190 2 0 0) (show (114 + 5 * (Ym190 2 0 0 (201 + 20 * (Ym190 2 0 0 (2010 + 16 * a1))))) = 114 + 5 * (Y 2 0 0 (201 + 20 * (Y 2 0 0 (2010 + 16 * a1)))) from (by first | (have q210 := zhx q210; have q211 := zhx q211; have q212 := zhx q212; have q213 := zhx q213; have q214 := zhx q214; omega) | (have q1 := zhx q1; have q2 := zhx q2; have q194 := zhx q194; have q195 := zhx q195; have q210 := zhx q210; have q211 := zhx q211; have q212 := zhx q212; have q213 := zhx q213; have q214 := zhx q214; omega))))
          have q218 := zhd (((zu_ne (k' := 2) (b' := 0) (i' := 0) (j' := 114 + 5 * (Y 2 0 0 (201 + 20 * (Y 2 0 0 (2010 + 16 * a1))))) hYm190 (fun q => absurd q.1 (by decide))).trans (zu_ne (k' := 2) (b' := 0) (i' := 0) (j' := 114 + 5 * (Y 2 0 0 (201 + 20 * (Y 2 0 0 (2010 + 16 * a1))))) hYm186 (fun q => absurd q.1 (by decide)))))
          have q219 := zhd (congrArg (Ym190 2 0 0) (show (207 + 20 * (Ym190 2 0 0 (2010 + 16 * a1))) = 207 + 20 * (Y 2 0 0 (2010 + 16 * a1)) from (by first | (have q210 := zhx q210; have q211 := zhx q211; omega) | (have q1 := zhx q1; have q2 := zhx q2; have q194 := zhx q194; have q195 := zhx q195; have q210 := zhx q210; have q211 := zhx q211; omega))))
          have q220 := zhd (((zu_ne (k' := 2) (b' := 0) (i' := 0) (j' := 207 + 20 * (Y 2 0 0 (2010 + 16 * a1))) hYm190 (fun q => absurd q.1 (by decide))).trans (zu_ne (k' := 2) (b' := 0) (i' := 0) (j' := 207 + 20 * (Y 2 0 0 (2010 + 16 * a1))) hYm186 (fun q => absurd q.1 (by decide)))))
          rcases zE_c hM with ⟨h221, hM⟩ | ⟨h221, hM⟩
          · rcases zE_c hM with ⟨h222, hM⟩ | ⟨h222, hM⟩
            · rcases zE_c hM with ⟨h223, hM⟩ | ⟨h223, hM⟩
              · exact False.elim (by have q1 := zhx q1; have q2 := zhx q2; have q194 := zhx q194; have q195 := zhx q195; have q210 := zhx q210; have q211 := zhx q211; have q212 := zhx q212; have q213 := zhx q213; have q214 := zhx q214; have q215 := zhx q215; have q216 := zhx q216; have q217 := zhx q217; have q218 := zhx q218; have q219 := zhx q219; have q220 := zhx q220; first | omega | grind)
              · exact False.elim (by have q1 := zhx q1; have q2 := zhx q2; have q194 := zhx q194; have q195 := zhx q195; have q210 := zhx q210; have q211 := zhx q211; have q212 := zhx q212; have q213 := zhx q213; have q214 := zhx q214; have q215 := zhx q215; have q216 := zhx q216; have q217 := zhx q217; have q218 := zhx q218; have q219 := zhx q219; have q220 := zhx q220; first | omega | grind)
            · exact False.elim (by have q1 := zhx q1; have q2 := zhx q2; have q194 := zhx q194; have q195 := zhx q195; have q210 := zhx q210; have q211 := zhx q211; have q212 := zhx q212; have q213 := zhx q213; have q214 := zhx q214; have q215 := zhx q215; have q216 := zhx q216; have q217 := zhx q217; have q218 := zhx q218; have q219 := zhx q219; have q220 := zhx q220; first | omega | grind)
          · exact False.elim (by have q1 := zhx q1; have q2 := zhx q2; have q194 := zhx q194; have q195 := zhx q195; have q210 := zhx q210; have q211 := zhx q211; have q212 := zhx q212; have q213 := zhx q213; have q214 := zhx q214; have q215 := zhx q215; have q216 := zhx q216; have q217 := zhx q217; have q218 := zhx q218; have q219 := zhx q219; have q220 := zhx q220; first | omega | grind)

/- face parcel_14 -/
theorem rf_parcel_14 {Z Y : qz_Z} {dm : qz_Z → Int → Int → Int → Int → Int → Int → Int → qz_Z} {a1 : Int} (hRa : zR 0 Z Y) (hV : zV Y) (hI : zI none Z) (hd : zDf dm) (hD1 : zD1 0 Z Y) (hD4 : zD4 0 Z Y) (hN1 : zN1 Y) (hN4 : zN4 Y) (hDs : zDs 0 Z Y) (hDw : zDw 0 Z Y) (hDl : zDl 0 Z Y)  {C : qz_Z × Int × Int} {M : qz_Z × Int} (hC : zE C (zx_226 Z a1 14)) (hM : zE M (zy_449 Y a1 14)) : zR 0 C.1 M.1 ∧ zV M.1 ∧ zDd [] [99999] Z Y dm C.1 M.1 ∧ zThr [(24, 1), (13, 2)] C.2 (M.1 1 0 0 2) M.2 := by
  have hRb := zRx_0 hRa
  have hF : zFc [] 0 Z Z := zFc_r
  have hG : yFr [99999] Y Y := yFr_r
  unfold zx_226 at hC
  unfold zy_449 at hM
  have q1 := zhd (zVr_11_6 (a := 2000) hV (by omega))
  have q2 := zhd ((zRl_11_6 (a := 2000) hRa (by omega)))
  rcases zE_c hC with ⟨h3, hC⟩ | ⟨h3, hC⟩
  · replace hC := zE_p hC (by first | (have q1 := zhx q1; have q2 := zhx q2; omega) | (simp only [zhx q1, zhx q2] at h3 ⊢ <;> omega))
    obtain ⟨v5, g4, hC⟩ := zl_x hC
    replace g4 : zE _ _ := g4
    unfold zf_36 at g4
    have q6 := zhd (zVr_47_9 (x := a1) (a := 2019 + 16 * a1) hV (by have q1 := zhx q1; have q2 := zhx q2; omega) (by have q1 := zhx q1; have q2 := zhx q2; omega) (by have q1 := zhx q1; have q2 := zhx q2; omega))
    have q7 := zhd ((zRl_47_9 (x := a1) (a := 2019 + 16 * a1) hRa (by have q1 := zhx q1; have q2 := zhx q2; omega) (by have q1 := zhx q1; have q2 := zhx q2; omega) (by have q1 := zhx q1; have q2 := zhx q2; omega)))
    rcases zE_c g4 with ⟨h8, g4⟩ | ⟨h8, g4⟩
    · replace g4 := zE_p g4 (by first | (have q1 := zhx q1; have q2 := zhx q2; have q6 := zhx q6; have q7 := zhx q7; omega) | (simp only [zhx q1, zhx q2, zhx q6, zhx q7] at h3 h8 ⊢ <;> omega))
      have q9 := zhd ((zRl_47_14 (x := a1) (a := 2023 + 16 * a1) hRa (by first | (omega) | (have q1 := zhx q1; have q2 := zhx q2; have q6 := zhx q6; have q7 := zhx q7; omega)) (by first | (omega) | (have q1 := zhx q1; have q2 := zhx q2; have q6 := zhx q6; have q7 := zhx q7; omega)) (by first | (omega) | (have q1 := zhx q1; have q2 := zhx q2; have q6 := zhx q6; have q7 := zhx q7; omega))))
      have e9 : (Z 47 0 a1 14) = v5 := Eq.symm g4
      subst e9
      replace hM := zE_n hM (by first | (have q1 := zhx q1; have q2 := zhx q2; have q6 := zhx q6; have q7 := zhx q7; omega) | (simp only [zhx q1, zhx q2, zhx q6, zhx q7] at h3 h8 ⊢ <;> omega))
      replace hM := zE_n hM (by first | (have q1 := zhx q1; have q2 := zhx q2; have q6 := zhx q6; have q7 := zhx q7; omega) | (simp only [zhx q1, zhx q2, zhx q6, zhx q7] at h3 h8 ⊢ <;> omega))
      obtain ⟨Ym10, hYm10, hM⟩ := zl_x hM
      have hR11 : zRx [] 0 Z Ym10 := zRx_o hRb hYm10 rfl
      have hV12 : zV Ym10 := zV_o hV hYm10 rfl
      have hG13 := yFr_o hG hYm10 rfl (.inr rfl) rfl
      replace hM := zE_n hM (by first | (have q1 := zhx q1; have q2 := zhx q2; have q6 := zhx q6; have q7 := zhx q7; omega) | (simp only [zhx q1, zhx q2, zhx q6, zhx q7] at h3 h8 ⊢ <;> omega))
      replace hM := zE_n hM (by first | (have q1 := zhx q1; have q2 := zhx q2; have q6 := zhx q6; have q7 := zhx q7; omega) | (simp only [zhx q1, zhx q2, zhx q6, zhx q7] at h3 h8 ⊢ <;> omega))
      obtain ⟨Ym14, hYm14, hM⟩ := zl_x hM
      have hR15 : zRx [] 0 Z Ym14 := zRx_o hR11 hYm14 rfl
      have hV16 : zV Ym14 := zV_o hV12 hYm14 rfl
      have hG17 := yFr_o hG13 hYm14 rfl (.inr rfl) rfl
      replace hM := zE_n hM (by first | (have q1 := zhx q1; have q2 := zhx q2; have q6 := zhx q6; have q7 := zhx q7; omega) | (simp only [zhx q1, zhx q2, zhx q6, zhx q7] at h3 h8 ⊢ <;> omega))
      replace hM := zE_n hM (by first | (have q1 := zhx q1; have q2 := zhx q2; have q6 := zhx q6; have q7 := zhx q7; omega) | (simp only [zhx q1, zhx q2, zhx q6, zhx q7] at h3 h8 ⊢ <;> omega))
      replace hM := zE_n hM (by first | (have q1 := zhx q1; have q2 := zhx q2; have q6 := zhx q6; have q7 := zhx q7; omega) | (simp only [zhx q1, zhx q2, zhx q6, zhx q7] at h3 h8 ⊢ <;> omega))
      replace hM := zE_n hM (by first | (have q1 := zhx q1; have q2 := zhx q2; have q6 := zhx q6; have q7 := zhx q7; omega) | (simp only [zhx q1, zhx q2, zhx q6, zhx q7] at h3 h8 ⊢ <;> omega))
      replace hM := zE_p hM (by first | (have q1 := zhx q1; have q2 := zhx q2; have q6 := zhx q6; have q7 := zhx q7; omega) | (simp only [zhx q1, zhx q2, zhx q6, zhx q7] at h3 h8 ⊢ <;> omega))
      have th9 := (zu_at hYm14)
      have q18 := zhd (congrArg (Ym14 2 0 0) (show (2009 + 16 * a1 + 14) = 2023 + 16 * a1 from (by first | (omega) | (have q1 := zhx q1; have q2 := zhx q2; have q6 := zhx q6; have q7 := zhx q7; omega))))
      have q19 := zhd (((zu_ne (k' := 2) (b' := 0) (i' := 0) (j' := 2023 + 16 * a1) hYm14 (fun q => absurd q.1 (by decide))).trans (zu_ne (k' := 2) (b' := 0) (i' := 0) (j' := 2023 + 16 * a1) hYm10 (fun q => absurd q.1 (by decide)))))
      obtain rfl : C = _ := hC
      obtain rfl : M = _ := hM
      exact ⟨zRx_1 hR15, hV16, ⟨Z, _, .inl ⟨rfl, yFr_w hG17 (by decide)⟩, zFc_r, yFr_r⟩, zThr_a th9 (by first | rfl | (have q1 := zhx q1; have q2 := zhx q2; have q6 := zhx q6; have q7 := zhx q7; have q9 := zhx q9; have q18 := zhx q18; have q19 := zhx q19; omega) | (simp only [zhx q1, zhx q2, zhx q6, zhx q7, zhx q9, zhx q18, zhx q19] <;> omega) | (have q1 := zhx q1; have q2 := zhx q2; have q6 := zhx q6; have q7 := zhx q7; have q9 := zhx q9; have q18 := zhx q18; have q19 := zhx q19; refine w3z ?_ ?_ ?_ <;> omega) | (have q1 := zhx q1; have q2 := zhx q2; have q6 := zhx q6; have q7 := zhx q7; have q9 := zhx q9; have q18 := zhx q18; have q19 := zhx q19; refine w3y ?_ ?_ ?_ <;> omega) | (have q1 := zhx q1; have q2 := zhx q2; have q6 := zhx q6; have q7 := zhx q7; have q9 := zhx q9; have q18 := zhx q18; have q19 := zhx q19; refine z2o ?_ ?_ ?_ <;> omega))⟩
    · replace g4 := zE_p g4 (by first | (have q1 := zhx q1; have q2 := zhx q2; have q6 := zhx q6; have q7 := zhx q7; omega) | (simp only [zhx q1, zhx q2, zhx q6, zhx q7] at h3 h8 ⊢ <;> omega))
      have q20 := zhd ((zRl_47_14 (x := a1) (a := 2023 + 16 * a1) hRa (by first | (omega) | (have q1 := zhx q1; have q2 := zhx q2; have q6 := zhx q6; have q7 := zhx q7; omega)) (by first | (omega) | (have q1 := zhx q1; have q2 := zhx q2; have q6 := zhx q6; have q7 := zhx q7; omega)) (by first | (omega) | (have q1 := zhx q1; have q2 := zhx q2; have q6 := zhx q6; have q7 := zhx q7; omega))))
      have e9 : (Z 47 0 a1 14) = v5 := Eq.symm g4
      subst e9
      replace hM := zE_n hM (by first | (have q1 := zhx q1; have q2 := zhx q2; have q6 := zhx q6; have q7 := zhx q7; omega) | (simp only [zhx q1, zhx q2, zhx q6, zhx q7] at h3 h8 ⊢ <;> omega))
      replace hM := zE_n hM (by first | (have q1 := zhx q1; have q2 := zhx q2; have q6 := zhx q6; have q7 := zhx q7; omega) | (simp only [zhx q1, zhx q2, zhx q6, zhx q7] at h3 h8 ⊢ <;> omega))
      obtain ⟨Ym21, hYm21, hM⟩ := zl_x hM
      have hR22 : zRx [] 0 Z Ym21 := zRx_o hRb hYm21 rfl
      have hV23 : zV Ym21 := zV_o hV hYm21 rfl
      have hG24 := yFr_o hG hYm21 rfl (.inr rfl) rfl
      replace hM := zE_n hM (by first | (have q1 := zhx q1; have q2 := zhx q2; have q6 := zhx q6; have q7 := zhx q7; omega) | (simp only [zhx q1, zhx q2, zhx q6, zhx q7] at h3 h8 ⊢ <;> omega))
      replace hM := zE_n hM (by first | (have q1 := zhx q1; have q2 := zhx q2; have q6 := zhx q6; have q7 := zhx q7; omega) | (simp only [zhx q1, zhx q2, zhx q6, zhx q7] at h3 h8 ⊢ <;> omega))
      obtain ⟨Ym25, hYm25, hM⟩ := zl_x hM
      have hR26 : zRx [] 0 Z Ym25 := zRx_o hR22 hYm25 rfl
      have hV27 : zV Ym25 := zV_o hV23 hYm25 rfl
      have hG28 := yFr_o hG24 hYm25 rfl (.inr rfl) rfl
      replace hM := zE_n hM (by first | (have q1 := zhx q1; have q2 := zhx q2; have q6 := zhx q6; have q7 := zhx q7; omega) | (simp only [zhx q1, zhx q2, zhx q6, zhx q7] at h3 h8 ⊢ <;> omega))
      replace hM := zE_n hM (by first | (have q1 := zhx q1; have q2 := zhx q2; have q6 := zhx q6; have q7 := zhx q7; omega) | (simp only [zhx q1, zhx q2, zhx q6, zhx q7] at h3 h8 ⊢ <;> omega))
      replace hM := zE_n hM (by first | (have q1 := zhx q1; have q2 := zhx q2; have q6 := zhx q6; have q7 := zhx q7; omega) | (simp only [zhx q1, zhx q2, zhx q6, zhx q7] at h3 h8 ⊢ <;> omega))
      replace hM := zE_n hM (by first | (have q1 := zhx q1; have q2 := zhx q2; have q6 := zhx q6; have q7 := zhx q7; omega) | (simp only [zhx q1, zhx q2, zhx q6, zhx q7] at h3 h8 ⊢ <;> omega))
      replace hM := zE_p hM (by first | (have q1 := zhx q1; have q2 := zhx q2; have q6 := zhx q6; have q7 := zhx q7; omega) | (simp only [zhx q1, zhx q2, zhx q6, zhx q7] at h3 h8 ⊢ <;> omega))
      have th9 := (zu_at hYm25)
      have q29 := zhd (congrArg (Ym25 2 0 0) (show (2009 + 16 * a1 + 14) = 2023 + 16 * a1 from (by first | (omega) | (have q1 := zhx q1; have q2 := zhx q2; have q6 := zhx q6; have q7 := zhx q7; omega))))
      have q30 := zhd (((zu_ne (k' := 2) (b' := 0) (i' := 0) (j' := 2023 + 16 * a1) hYm25 (fun q => absurd q.1 (by decide))).trans (zu_ne (k' := 2) (b' := 0) (i' := 0) (j' := 2023 + 16 * a1) hYm21 (fun q => absurd q.1 (by decide)))))
      obtain rfl : C = _ := hC
      obtain rfl : M = _ := hM
      exact ⟨zRx_1 hR26, hV27, ⟨Z, _, .inl ⟨rfl, yFr_w hG28 (by decide)⟩, zFc_r, yFr_r⟩, zThr_a th9 (by first | rfl | (have q1 := zhx q1; have q2 := zhx q2; have q6 := zhx q6; have q7 := zhx q7; have q20 := zhx q20; have q29 := zhx q29; have q30 := zhx q30; omega) | (simp only [zhx q1, zhx q2, zhx q6, zhx q7, zhx q20, zhx q29, zhx q30] <;> omega) | (have q1 := zhx q1; have q2 := zhx q2; have q6 := zhx q6; have q7 := zhx q7; have q20 := zhx q20; have q29 := zhx q29; have q30 := zhx q30; refine w3z ?_ ?_ ?_ <;> omega) | (have q1 := zhx q1; have q2 := zhx q2; have q6 := zhx q6; have q7 := zhx q7; have q20 := zhx q20; have q29 := zhx q29; have q30 := zhx q30; refine w3y ?_ ?_ ?_ <;> omega) | (have q1 := zhx q1; have q2 := zhx q2; have q6 := zhx q6; have q7 := zhx q7; have q20 := zhx q20; have q29 := zhx q29; have q30 := zhx q30; refine z2o ?_ ?_ ?_ <;> omega))⟩
  · rcases zE_c hM with ⟨h31, hM⟩ | ⟨h31, hM⟩
    · obtain ⟨Ym32, hYm32, hM⟩ := zl_x hM
      have hR33 : zRx [] 0 Z Ym32 := zRx_o hRb hYm32 rfl
      have hV34 : zV Ym32 := zV_o hV hYm32 rfl
      have hG35 := yFr_o hG hYm32 rfl (.inr rfl) rfl
      have th9 := (zu_at hYm32)
      obtain rfl : C = _ := hC
      obtain rfl : M = _ := hM
      exact ⟨zRx_1 hR33, hV34, ⟨Z, _, .inl ⟨rfl, yFr_w hG35 (by decide)⟩, zFc_r, yFr_r⟩, zThr_e th9 (by decide)⟩
    · rcases zE_c hM with ⟨h36, hM⟩ | ⟨h36, hM⟩
      · obtain ⟨Ym37, hYm37, hM⟩ := zl_x hM
        have hR38 : zRx [] 0 Z Ym37 := zRx_o hRb hYm37 rfl
        have hV39 : zV Ym37 := zV_o hV hYm37 rfl
        have hG40 := yFr_o hG hYm37 rfl (.inr rfl) rfl
        have th9 := (zu_at hYm37)
        obtain rfl : C = _ := hC
        obtain rfl : M = _ := hM
        exact ⟨zRx_1 hR38, hV39, ⟨Z, _, .inl ⟨rfl, yFr_w hG40 (by decide)⟩, zFc_r, yFr_r⟩, zThr_e th9 (by decide)⟩
      · obtain ⟨Ym41, hYm41, hM⟩ := zl_x hM
        have hR42 : zRx [] 0 Z Ym41 := zRx_o hRb hYm41 rfl
        have hV43 : zV Ym41 := zV_o hV hYm41 rfl
        have hG44 := yFr_o hG hYm41 rfl (.inr rfl) rfl
        replace hM := zE_n hM (by first | (have q1 := zhx q1; have q2 := zhx q2; omega) | (simp only [zhx q1, zhx q2] at h3 h31 h36 ⊢ <;> omega))
        replace hM := zE_n hM (by first | (have q1 := zhx q1; have q2 := zhx q2; omega) | (simp only [zhx q1, zhx q2] at h3 h31 h36 ⊢ <;> omega))
        obtain ⟨Ym45, hYm45, hM⟩ := zl_x hM
        have hR46 : zRx [] 0 Z Ym45 := zRx_o hR42 hYm45 rfl
        have hV47 : zV Ym45 := zV_o hV43 hYm45 rfl
        have hG48 := yFr_o hG44 hYm45 rfl (.inr rfl) rfl
        replace hM := zE_n hM (by first | (have q1 := zhx q1; have q2 := zhx q2; omega) | (simp only [zhx q1, zhx q2] at h3 h31 h36 ⊢ <;> omega))
        replace hM := zE_n hM (by first | (have q1 := zhx q1; have q2 := zhx q2; omega) | (simp only [zhx q1, zhx q2] at h3 h31 h36 ⊢ <;> omega))
        replace hM := zE_n hM (by first | (have q1 := zhx q1; have q2 := zhx q2; omega) | (simp only [zhx q1, zhx q2] at h3 h31 h36 ⊢ <;> omega))
        replace hM := zE_n hM (by first | (have q1 := zhx q1; have q2 := zhx q2; omega) | (simp only [zhx q1, zhx q2] at h3 h31 h36 ⊢ <;> omega))
        replace hM := zE_p hM (by first | (have q1 := zhx q1; have q2 := zhx q2; omega) | (simp only [zhx q1, zhx q2] at h3 h31 h36 ⊢ <;> omega))
        exact False.elim (by have q1 := zhx q1; have q2 := zhx q2; first | omega | grind)

/- face parcel_15 -/
theorem rf_parcel_15 {Z Y : qz_Z} {dm : qz_Z → Int → Int → Int → Int → Int → Int → Int → qz_Z} {a1 : Int} (hRa : zR 0 Z Y) (hV : zV Y) (hI : zI none Z) (hd : zDf dm) (hD1 : zD1 0 Z Y) (hD4 : zD4 0 Z Y) (hN1 : zN1 Y) (hN4 : zN4 Y) (hDs : zDs 0 Z Y) (hDw : zDw 0 Z Y) (hDl : zDl 0 Z Y)  {C : qz_Z × Int × Int} {M : qz_Z × Int} (hC : zE C (zx_226 Z a1 15)) (hM : zE M (zy_449 Y a1 15)) : zR 0 C.1 M.1 ∧ zV M.1 ∧ zDd [] [99999] Z Y dm C.1 M.1 ∧ zThr [(24, 1), (13, 2)] C.2 (M.1 1 0 0 2) M.2 := by
  have hRb := zRx_0 hRa
  have hF : zFc [] 0 Z Z := zFc_r
  have hG : yFr [99999] Y Y := yFr_r
  unfold zx_226 at hC
  unfold zy_449 at hM
  have q1 := zhd (zVr_11_6 (a := 2000) hV (by omega))
  have q2 := zhd ((zRl_11_6 (a := 2000) hRa (by omega)))
  rcases zE_c hC with ⟨h3, hC⟩ | ⟨h3, hC⟩
  · replace hC := zE_p hC (by first | (have q1 := zhx q1; have q2 := zhx q2; omega) | (simp only [zhx q1, zhx q2] at h3 ⊢ <;> omega))
    obtain ⟨v5, g4, hC⟩ := zl_x hC
    replace g4 : zE _ _ := g4
    unfold zf_36 at g4
    have q6 := zhd (zVr_47_9 (x := a1) (a := 2019 + 16 * a1) hV (by have q1 := zhx q1; have q2 := zhx q2; omega) (by have q1 := zhx q1; have q2 := zhx q2; omega) (by have q1 := zhx q1; have q2 := zhx q2; omega))
    have q7 := zhd ((zRl_47_9 (x := a1) (a := 2019 + 16 * a1) hRa (by have q1 := zhx q1; have q2 := zhx q2; omega) (by have q1 := zhx q1; have q2 := zhx q2; omega) (by have q1 := zhx q1; have q2 := zhx q2; omega)))
    rcases zE_c g4 with ⟨h8, g4⟩ | ⟨h8, g4⟩
    · replace g4 := zE_p g4 (by first | (have q1 := zhx q1; have q2 := zhx q2; have q6 := zhx q6; have q7 := zhx q7; omega) | (simp only [zhx q1, zhx q2, zhx q6, zhx q7] at h3 h8 ⊢ <;> omega))
      have q9 := zhd ((zRl_47_15 (x := a1) (a := 2024 + 16 * a1) hRa (by first | (omega) | (have q1 := zhx q1; have q2 := zhx q2; have q6 := zhx q6; have q7 := zhx q7; omega)) (by first | (omega) | (have q1 := zhx q1; have q2 := zhx q2; have q6 := zhx q6; have q7 := zhx q7; omega)) (by first | (omega) | (have q1 := zhx q1; have q2 := zhx q2; have q6 := zhx q6; have q7 := zhx q7; omega))))
      have e9 : (Z 47 0 a1 15) = v5 := Eq.symm g4
      subst e9
      replace hM := zE_n hM (by first | (have q1 := zhx q1; have q2 := zhx q2; have q6 := zhx q6; have q7 := zhx q7; omega) | (simp only [zhx q1, zhx q2, zhx q6, zhx q7] at h3 h8 ⊢ <;> omega))
      replace hM := zE_n hM (by first | (have q1 := zhx q1; have q2 := zhx q2; have q6 := zhx q6; have q7 := zhx q7; omega) | (simp only [zhx q1, zhx q2, zhx q6, zhx q7] at h3 h8 ⊢ <;> omega))
      obtain ⟨Ym10, hYm10, hM⟩ := zl_x hM
      have hR11 : zRx [] 0 Z Ym10 := zRx_o hRb hYm10 rfl
      have hV12 : zV Ym10 := zV_o hV hYm10 rfl
      have hG13 := yFr_o hG hYm10 rfl (.inr rfl) rfl
      replace hM := zE_n hM (by first | (have q1 := zhx q1; have q2 := zhx q2; have q6 := zhx q6; have q7 := zhx q7; omega) | (simp only [zhx q1, zhx q2, zhx q6, zhx q7] at h3 h8 ⊢ <;> omega))
      replace hM := zE_n hM (by first | (have q1 := zhx q1; have q2 := zhx q2; have q6 := zhx q6; have q7 := zhx q7; omega) | (simp only [zhx q1, zhx q2, zhx q6, zhx q7] at h3 h8 ⊢ <;> omega))
      obtain ⟨Ym14, hYm14, hM⟩ := zl_x hM
      have hR15 : zRx [] 0 Z Ym14 := zRx_o hR11 hYm14 rfl
      have hV16 : zV Ym14 := zV_o hV12 hYm14 rfl
      have hG17 := yFr_o hG13 hYm14 rfl (.inr rfl) rfl
      replace hM := zE_n hM (by first | (have q1 := zhx q1; have q2 := zhx q2; have q6 := zhx q6; have q7 := zhx q7; omega) | (simp only [zhx q1, zhx q2, zhx q6, zhx q7] at h3 h8 ⊢ <;> omega))
      replace hM := zE_n hM (by first | (have q1 := zhx q1; have q2 := zhx q2; have q6 := zhx q6; have q7 := zhx q7; omega) | (simp only [zhx q1, zhx q2, zhx q6, zhx q7] at h3 h8 ⊢ <;> omega))
      replace hM := zE_n hM (by first | (have q1 := zhx q1; have q2 := zhx q2; have q6 := zhx q6; have q7 := zhx q7; omega) | (simp only [zhx q1, zhx q2, zhx q6, zhx q7] at h3 h8 ⊢ <;> omega))
      replace hM := zE_n hM (by first | (have q1 := zhx q1; have q2 := zhx q2; have q6 := zhx q6; have q7 := zhx q7; omega) | (simp only [zhx q1, zhx q2, zhx q6, zhx q7] at h3 h8 ⊢ <;> omega))
      replace hM := zE_n hM (by first | (have q1 := zhx q1; have q2 := zhx q2; have q6 := zhx q6; have q7 := zhx q7; omega) | (simp only [zhx q1, zhx q2, zhx q6, zhx q7] at h3 h8 ⊢ <;> omega))
      replace hM := zE_p hM (by first | (have q1 := zhx q1; have q2 := zhx q2; have q6 := zhx q6; have q7 := zhx q7; omega) | (simp only [zhx q1, zhx q2, zhx q6, zhx q7] at h3 h8 ⊢ <;> omega))
      have th9 := (zu_at hYm14)
      have q18 := zhd (congrArg (Ym14 2 0 0) (show (2009 + 16 * a1 + 15) = 2024 + 16 * a1 from (by first | (omega) | (have q1 := zhx q1; have q2 := zhx q2; have q6 := zhx q6; have q7 := zhx q7; omega))))
      have q19 := zhd (((zu_ne (k' := 2) (b' := 0) (i' := 0) (j' := 2024 + 16 * a1) hYm14 (fun q => absurd q.1 (by decide))).trans (zu_ne (k' := 2) (b' := 0) (i' := 0) (j' := 2024 + 16 * a1) hYm10 (fun q => absurd q.1 (by decide)))))
      obtain rfl : C = _ := hC
      obtain rfl : M = _ := hM
      exact ⟨zRx_1 hR15, hV16, ⟨Z, _, .inl ⟨rfl, yFr_w hG17 (by decide)⟩, zFc_r, yFr_r⟩, zThr_a th9 (by first | rfl | (have q1 := zhx q1; have q2 := zhx q2; have q6 := zhx q6; have q7 := zhx q7; have q9 := zhx q9; have q18 := zhx q18; have q19 := zhx q19; omega) | (simp only [zhx q1, zhx q2, zhx q6, zhx q7, zhx q9, zhx q18, zhx q19] <;> omega) | (have q1 := zhx q1; have q2 := zhx q2; have q6 := zhx q6; have q7 := zhx q7; have q9 := zhx q9; have q18 := zhx q18; have q19 := zhx q19; refine w3z ?_ ?_ ?_ <;> omega) | (have q1 := zhx q1; have q2 := zhx q2; have q6 := zhx q6; have q7 := zhx q7; have q9 := zhx q9; have q18 := zhx q18; have q19 := zhx q19; refine w3y ?_ ?_ ?_ <;> omega) | (have q1 := zhx q1; have q2 := zhx q2; have q6 := zhx q6; have q7 := zhx q7; have q9 := zhx q9; have q18 := zhx q18; have q19 := zhx q19; refine z2o ?_ ?_ ?_ <;> omega))⟩
    · replace g4 := zE_p g4 (by first | (have q1 := zhx q1; have q2 := zhx q2; have q6 := zhx q6; have q7 := zhx q7; omega) | (simp only [zhx q1, zhx q2, zhx q6, zhx q7] at h3 h8 ⊢ <;> omega))
      have q20 := zhd ((zRl_47_15 (x := a1) (a := 2024 + 16 * a1) hRa (by first | (omega) | (have q1 := zhx q1; have q2 := zhx q2; have q6 := zhx q6; have q7 := zhx q7; omega)) (by first | (omega) | (have q1 := zhx q1; have q2 := zhx q2; have q6 := zhx q6; have q7 := zhx q7; omega)) (by first | (omega) | (have q1 := zhx q1; have q2 := zhx q2; have q6 := zhx q6; have q7 := zhx q7; omega))))
      have e9 : (Z 47 0 a1 15) = v5 := Eq.symm g4
      subst e9
      replace hM := zE_n hM (by first | (have q1 := zhx q1; have q2 := zhx q2; have q6 := zhx q6; have q7 := zhx q7; omega) | (simp only [zhx q1, zhx q2, zhx q6, zhx q7] at h3 h8 ⊢ <;> omega))
      replace hM := zE_n hM (by first | (have q1 := zhx q1; have q2 := zhx q2; have q6 := zhx q6; have q7 := zhx q7; omega) | (simp only [zhx q1, zhx q2, zhx q6, zhx q7] at h3 h8 ⊢ <;> omega))
      obtain ⟨Ym21, hYm21, hM⟩ := zl_x hM
      have hR22 : zRx [] 0 Z Ym21 := zRx_o hRb hYm21 rfl
      have hV23 : zV Ym21 := zV_o hV hYm21 rfl
      have hG24 := yFr_o hG hYm21 rfl (.inr rfl) rfl
      replace hM := zE_n hM (by first | (have q1 := zhx q1; have q2 := zhx q2; have q6 := zhx q6; have q7 := zhx q7; omega) | (simp only [zhx q1, zhx q2, zhx q6, zhx q7] at h3 h8 ⊢ <;> omega))
      replace hM := zE_n hM (by first | (have q1 := zhx q1; have q2 := zhx q2; have q6 := zhx q6; have q7 := zhx q7; omega) | (simp only [zhx q1, zhx q2, zhx q6, zhx q7] at h3 h8 ⊢ <;> omega))
      obtain ⟨Ym25, hYm25, hM⟩ := zl_x hM
      have hR26 : zRx [] 0 Z Ym25 := zRx_o hR22 hYm25 rfl
      have hV27 : zV Ym25 := zV_o hV23 hYm25 rfl
      have hG28 := yFr_o hG24 hYm25 rfl (.inr rfl) rfl
      replace hM := zE_n hM (by first | (have q1 := zhx q1; have q2 := zhx q2; have q6 := zhx q6; have q7 := zhx q7; omega) | (simp only [zhx q1, zhx q2, zhx q6, zhx q7] at h3 h8 ⊢ <;> omega))
      replace hM := zE_n hM (by first | (have q1 := zhx q1; have q2 := zhx q2; have q6 := zhx q6; have q7 := zhx q7; omega) | (simp only [zhx q1, zhx q2, zhx q6, zhx q7] at h3 h8 ⊢ <;> omega))
      replace hM := zE_n hM (by first | (have q1 := zhx q1; have q2 := zhx q2; have q6 := zhx q6; have q7 := zhx q7; omega) | (simp only [zhx q1, zhx q2, zhx q6, zhx q7] at h3 h8 ⊢ <;> omega))
      replace hM := zE_n hM (by first | (have q1 := zhx q1; have q2 := zhx q2; have q6 := zhx q6; have q7 := zhx q7; omega) | (simp only [zhx q1, zhx q2, zhx q6, zhx q7] at h3 h8 ⊢ <;> omega))
      replace hM := zE_n hM (by first | (have q1 := zhx q1; have q2 := zhx q2; have q6 := zhx q6; have q7 := zhx q7; omega) | (simp only [zhx q1, zhx q2, zhx q6, zhx q7] at h3 h8 ⊢ <;> omega))
      replace hM := zE_p hM (by first | (have q1 := zhx q1; have q2 := zhx q2; have q6 := zhx q6; have q7 := zhx q7; omega) | (simp only [zhx q1, zhx q2, zhx q6, zhx q7] at h3 h8 ⊢ <;> omega))
      have th9 := (zu_at hYm25)
      have q29 := zhd (congrArg (Ym25 2 0 0) (show (2009 + 16 * a1 + 15) = 2024 + 16 * a1 from (by first | (omega) | (have q1 := zhx q1; have q2 := zhx q2; have q6 := zhx q6; have q7 := zhx q7; omega))))
      have q30 := zhd (((zu_ne (k' := 2) (b' := 0) (i' := 0) (j' := 2024 + 16 * a1) hYm25 (fun q => absurd q.1 (by decide))).trans (zu_ne (k' := 2) (b' := 0) (i' := 0) (j' := 2024 + 16 * a1) hYm21 (fun q => absurd q.1 (by decide)))))
      obtain rfl : C = _ := hC
      obtain rfl : M = _ := hM
      exact ⟨zRx_1 hR26, hV27, ⟨Z, _, .inl ⟨rfl, yFr_w hG28 (by decide)⟩, zFc_r, yFr_r⟩, zThr_a th9 (by first | rfl | (have q1 := zhx q1; have q2 := zhx q2; have q6 := zhx q6; have q7 := zhx q7; have q20 := zhx q20; have q29 := zhx q29; have q30 := zhx q30; omega) | (simp only [zhx q1, zhx q2, zhx q6, zhx q7, zhx q20, zhx q29, zhx q30] <;> omega) | (have q1 := zhx q1; have q2 := zhx q2; have q6 := zhx q6; have q7 := zhx q7; have q20 := zhx q20; have q29 := zhx q29; have q30 := zhx q30; refine w3z ?_ ?_ ?_ <;> omega) | (have q1 := zhx q1; have q2 := zhx q2; have q6 := zhx q6; have q7 := zhx q7; have q20 := zhx q20; have q29 := zhx q29; have q30 := zhx q30; refine w3y ?_ ?_ ?_ <;> omega) | (have q1 := zhx q1; have q2 := zhx q2; have q6 := zhx q6; have q7 := zhx q7; have q20 := zhx q20; have q29 := zhx q29; have q30 := zhx q30; refine z2o ?_ ?_ ?_ <;> omega))⟩
  · rcases zE_c hM with ⟨h31, hM⟩ | ⟨h31, hM⟩
    · obtain ⟨Ym32, hYm32, hM⟩ := zl_x hM
      have hR33 : zRx [] 0 Z Ym32 := zRx_o hRb hYm32 rfl
      have hV34 : zV Ym32 := zV_o hV hYm32 rfl
      have hG35 := yFr_o hG hYm32 rfl (.inr rfl) rfl
      have th9 := (zu_at hYm32)
      obtain rfl : C = _ := hC
      obtain rfl : M = _ := hM
      exact ⟨zRx_1 hR33, hV34, ⟨Z, _, .inl ⟨rfl, yFr_w hG35 (by decide)⟩, zFc_r, yFr_r⟩, zThr_e th9 (by decide)⟩
    · rcases zE_c hM with ⟨h36, hM⟩ | ⟨h36, hM⟩
      · obtain ⟨Ym37, hYm37, hM⟩ := zl_x hM
        have hR38 : zRx [] 0 Z Ym37 := zRx_o hRb hYm37 rfl
        have hV39 : zV Ym37 := zV_o hV hYm37 rfl
        have hG40 := yFr_o hG hYm37 rfl (.inr rfl) rfl
        have th9 := (zu_at hYm37)
        obtain rfl : C = _ := hC
        obtain rfl : M = _ := hM
        exact ⟨zRx_1 hR38, hV39, ⟨Z, _, .inl ⟨rfl, yFr_w hG40 (by decide)⟩, zFc_r, yFr_r⟩, zThr_e th9 (by decide)⟩
      · obtain ⟨Ym41, hYm41, hM⟩ := zl_x hM
        have hR42 : zRx [] 0 Z Ym41 := zRx_o hRb hYm41 rfl
        have hV43 : zV Ym41 := zV_o hV hYm41 rfl
        have hG44 := yFr_o hG hYm41 rfl (.inr rfl) rfl
        replace hM := zE_n hM (by first | (have q1 := zhx q1; have q2 := zhx q2; omega) | (simp only [zhx q1, zhx q2] at h3 h31 h36 ⊢ <;> omega))
        replace hM := zE_n hM (by first | (have q1 := zhx q1; have q2 := zhx q2; omega) | (simp only [zhx q1, zhx q2] at h3 h31 h36 ⊢ <;> omega))
        obtain ⟨Ym45, hYm45, hM⟩ := zl_x hM
        have hR46 : zRx [] 0 Z Ym45 := zRx_o hR42 hYm45 rfl
        have hV47 : zV Ym45 := zV_o hV43 hYm45 rfl
        have hG48 := yFr_o hG44 hYm45 rfl (.inr rfl) rfl
        replace hM := zE_n hM (by first | (have q1 := zhx q1; have q2 := zhx q2; omega) | (simp only [zhx q1, zhx q2] at h3 h31 h36 ⊢ <;> omega))
        replace hM := zE_n hM (by first | (have q1 := zhx q1; have q2 := zhx q2; omega) | (simp only [zhx q1, zhx q2] at h3 h31 h36 ⊢ <;> omega))
        replace hM := zE_n hM (by first | (have q1 := zhx q1; have q2 := zhx q2; omega) | (simp only [zhx q1, zhx q2] at h3 h31 h36 ⊢ <;> omega))
        replace hM := zE_n hM (by first | (have q1 := zhx q1; have q2 := zhx q2; omega) | (simp only [zhx q1, zhx q2] at h3 h31 h36 ⊢ <;> omega))
        replace hM := zE_n hM (by first | (have q1 := zhx q1; have q2 := zhx q2; omega) | (simp only [zhx q1, zhx q2] at h3 h31 h36 ⊢ <;> omega))
        replace hM := zE_p hM (by first | (have q1 := zhx q1; have q2 := zhx q2; omega) | (simp only [zhx q1, zhx q2] at h3 h31 h36 ⊢ <;> omega))
        exact False.elim (by have q1 := zhx q1; have q2 := zhx q2; first | omega | grind)

/- face parcel_16 -/
theorem rf_parcel_16 {Z Y : qz_Z} {dm : qz_Z → Int → Int → Int → Int → Int → Int → Int → qz_Z} {a1 : Int} (hRa : zR 0 Z Y) (hV : zV Y) (hI : zI none Z) (hd : zDf dm) (hD1 : zD1 0 Z Y) (hD4 : zD4 0 Z Y) (hN1 : zN1 Y) (hN4 : zN4 Y) (hDs : zDs 0 Z Y) (hDw : zDw 0 Z Y) (hDl : zDl 0 Z Y)  {C : qz_Z × Int × Int} {M : qz_Z × Int} (hC : zE C (zx_226 Z a1 16)) (hM : zE M (zy_449 Y a1 16)) : zR 0 C.1 M.1 ∧ zV M.1 ∧ zDd [] [99999] Z Y dm C.1 M.1 ∧ zThr [(24, 1), (13, 2)] C.2 (M.1 1 0 0 2) M.2 := by
  have hRb := zRx_0 hRa
  have hF : zFc [] 0 Z Z := zFc_r
  have hG : yFr [99999] Y Y := yFr_r
  unfold zx_226 at hC
  unfold zy_449 at hM
  have q1 := zhd (zVr_11_6 (a := 2000) hV (by omega))
  have q2 := zhd ((zRl_11_6 (a := 2000) hRa (by omega)))
  rcases zE_c hC with ⟨h3, hC⟩ | ⟨h3, hC⟩
  · replace hC := zE_p hC (by first | (have q1 := zhx q1; have q2 := zhx q2; omega) | (simp only [zhx q1, zhx q2] at h3 ⊢ <;> omega))
    obtain ⟨v5, g4, hC⟩ := zl_x hC
    replace g4 : zE _ _ := g4
    unfold zf_36 at g4
    have q6 := zhd (zVr_47_9 (x := a1) (a := 2019 + 16 * a1) hV (by have q1 := zhx q1; have q2 := zhx q2; omega) (by have q1 := zhx q1; have q2 := zhx q2; omega) (by have q1 := zhx q1; have q2 := zhx q2; omega))
    have q7 := zhd ((zRl_47_9 (x := a1) (a := 2019 + 16 * a1) hRa (by have q1 := zhx q1; have q2 := zhx q2; omega) (by have q1 := zhx q1; have q2 := zhx q2; omega) (by have q1 := zhx q1; have q2 := zhx q2; omega)))
    rcases zE_c g4 with ⟨h8, g4⟩ | ⟨h8, g4⟩
    · replace g4 := zE_p g4 (by first | (have q1 := zhx q1; have q2 := zhx q2; have q6 := zhx q6; have q7 := zhx q7; omega) | (simp only [zhx q1, zhx q2, zhx q6, zhx q7] at h3 h8 ⊢ <;> omega))
      have q9 := zhd ((zRl_47_16 (x := a1) (a := 2025 + 16 * a1) hRa (by first | (omega) | (have q1 := zhx q1; have q2 := zhx q2; have q6 := zhx q6; have q7 := zhx q7; omega)) (by first | (omega) | (have q1 := zhx q1; have q2 := zhx q2; have q6 := zhx q6; have q7 := zhx q7; omega)) (by first | (omega) | (have q1 := zhx q1; have q2 := zhx q2; have q6 := zhx q6; have q7 := zhx q7; omega))))
      have e9 : (Z 47 0 a1 16) = v5 := Eq.symm g4
      subst e9
      replace hM := zE_n hM (by first | (have q1 := zhx q1; have q2 := zhx q2; have q6 := zhx q6; have q7 := zhx q7; omega) | (simp only [zhx q1, zhx q2, zhx q6, zhx q7] at h3 h8 ⊢ <;> omega))
      replace hM := zE_n hM (by first | (have q1 := zhx q1; have q2 := zhx q2; have q6 := zhx q6; have q7 := zhx q7; omega) | (simp only [zhx q1, zhx q2, zhx q6, zhx q7] at h3 h8 ⊢ <;> omega))
      obtain ⟨Ym10, hYm10, hM⟩ := zl_x hM
      have hR11 : zRx [] 0 Z Ym10 := zRx_o hRb hYm10 rfl
      have hV12 : zV Ym10 := zV_o hV hYm10 rfl
      have hG13 := yFr_o hG hYm10 rfl (.inr rfl) rfl
      replace hM := zE_n hM (by first | (have q1 := zhx q1; have q2 := zhx q2; have q6 := zhx q6; have q7 := zhx q7; omega) | (simp only [zhx q1, zhx q2, zhx q6, zhx q7] at h3 h8 ⊢ <;> omega))
      replace hM := zE_n hM (by first | (have q1 := zhx q1; have q2 := zhx q2; have q6 := zhx q6; have q7 := zhx q7; omega) | (simp only [zhx q1, zhx q2, zhx q6, zhx q7] at h3 h8 ⊢ <;> omega))
      obtain ⟨Ym14, hYm14, hM⟩ := zl_x hM
      have hR15 : zRx [] 0 Z Ym14 := zRx_o hR11 hYm14 rfl
      have hV16 : zV Ym14 := zV_o hV12 hYm14 rfl
      have hG17 := yFr_o hG13 hYm14 rfl (.inr rfl) rfl
      replace hM := zE_n hM (by first | (have q1 := zhx q1; have q2 := zhx q2; have q6 := zhx q6; have q7 := zhx q7; omega) | (simp only [zhx q1, zhx q2, zhx q6, zhx q7] at h3 h8 ⊢ <;> omega))
      replace hM := zE_n hM (by first | (have q1 := zhx q1; have q2 := zhx q2; have q6 := zhx q6; have q7 := zhx q7; omega) | (simp only [zhx q1, zhx q2, zhx q6, zhx q7] at h3 h8 ⊢ <;> omega))
      replace hM := zE_n hM (by first | (have q1 := zhx q1; have q2 := zhx q2; have q6 := zhx q6; have q7 := zhx q7; omega) | (simp only [zhx q1, zhx q2, zhx q6, zhx q7] at h3 h8 ⊢ <;> omega))
      replace hM := zE_n hM (by first | (have q1 := zhx q1; have q2 := zhx q2; have q6 := zhx q6; have q7 := zhx q7; omega) | (simp only [zhx q1, zhx q2, zhx q6, zhx q7] at h3 h8 ⊢ <;> omega))
      replace hM := zE_n hM (by first | (have q1 := zhx q1; have q2 := zhx q2; have q6 := zhx q6; have q7 := zhx q7; omega) | (simp only [zhx q1, zhx q2, zhx q6, zhx q7] at h3 h8 ⊢ <;> omega))
      replace hM := zE_n hM (by first | (have q1 := zhx q1; have q2 := zhx q2; have q6 := zhx q6; have q7 := zhx q7; omega) | (simp only [zhx q1, zhx q2, zhx q6, zhx q7] at h3 h8 ⊢ <;> omega))
      replace hM := zE_p hM (by first | (have q1 := zhx q1; have q2 := zhx q2; have q6 := zhx q6; have q7 := zhx q7; omega) | (simp only [zhx q1, zhx q2, zhx q6, zhx q7] at h3 h8 ⊢ <;> omega))
      have th9 := (zu_at hYm14)
      have q18 := zhd (congrArg (Ym14 2 0 0) (show (2009 + 16 * a1 + 16) = 2025 + 16 * a1 from (by first | (omega) | (have q1 := zhx q1; have q2 := zhx q2; have q6 := zhx q6; have q7 := zhx q7; omega))))
      have q19 := zhd (((zu_ne (k' := 2) (b' := 0) (i' := 0) (j' := 2025 + 16 * a1) hYm14 (fun q => absurd q.1 (by decide))).trans (zu_ne (k' := 2) (b' := 0) (i' := 0) (j' := 2025 + 16 * a1) hYm10 (fun q => absurd q.1 (by decide)))))
      obtain rfl : C = _ := hC
      obtain rfl : M = _ := hM
      exact ⟨zRx_1 hR15, hV16, ⟨Z, _, .inl ⟨rfl, yFr_w hG17 (by decide)⟩, zFc_r, yFr_r⟩, zThr_a th9 (by first | rfl | (have q1 := zhx q1; have q2 := zhx q2; have q6 := zhx q6; have q7 := zhx q7; have q9 := zhx q9; have q18 := zhx q18; have q19 := zhx q19; omega) | (simp only [zhx q1, zhx q2, zhx q6, zhx q7, zhx q9, zhx q18, zhx q19] <;> omega) | (have q1 := zhx q1; have q2 := zhx q2; have q6 := zhx q6; have q7 := zhx q7; have q9 := zhx q9; have q18 := zhx q18; have q19 := zhx q19; refine w3z ?_ ?_ ?_ <;> omega) | (have q1 := zhx q1; have q2 := zhx q2; have q6 := zhx q6; have q7 := zhx q7; have q9 := zhx q9; have q18 := zhx q18; have q19 := zhx q19; refine w3y ?_ ?_ ?_ <;> omega) | (have q1 := zhx q1; have q2 := zhx q2; have q6 := zhx q6; have q7 := zhx q7; have q9 := zhx q9; have q18 := zhx q18; have q19 := zhx q19; refine z2o ?_ ?_ ?_ <;> omega))⟩
    · replace g4 := zE_p g4 (by first | (have q1 := zhx q1; have q2 := zhx q2; have q6 := zhx q6; have q7 := zhx q7; omega) | (simp only [zhx q1, zhx q2, zhx q6, zhx q7] at h3 h8 ⊢ <;> omega))
      have q20 := zhd ((zRl_47_16 (x := a1) (a := 2025 + 16 * a1) hRa (by first | (omega) | (have q1 := zhx q1; have q2 := zhx q2; have q6 := zhx q6; have q7 := zhx q7; omega)) (by first | (omega) | (have q1 := zhx q1; have q2 := zhx q2; have q6 := zhx q6; have q7 := zhx q7; omega)) (by first | (omega) | (have q1 := zhx q1; have q2 := zhx q2; have q6 := zhx q6; have q7 := zhx q7; omega))))
      have e9 : (Z 47 0 a1 16) = v5 := Eq.symm g4
      subst e9
      replace hM := zE_n hM (by first | (have q1 := zhx q1; have q2 := zhx q2; have q6 := zhx q6; have q7 := zhx q7; omega) | (simp only [zhx q1, zhx q2, zhx q6, zhx q7] at h3 h8 ⊢ <;> omega))
      replace hM := zE_n hM (by first | (have q1 := zhx q1; have q2 := zhx q2; have q6 := zhx q6; have q7 := zhx q7; omega) | (simp only [zhx q1, zhx q2, zhx q6, zhx q7] at h3 h8 ⊢ <;> omega))
      obtain ⟨Ym21, hYm21, hM⟩ := zl_x hM
      have hR22 : zRx [] 0 Z Ym21 := zRx_o hRb hYm21 rfl
      have hV23 : zV Ym21 := zV_o hV hYm21 rfl
      have hG24 := yFr_o hG hYm21 rfl (.inr rfl) rfl
      replace hM := zE_n hM (by first | (have q1 := zhx q1; have q2 := zhx q2; have q6 := zhx q6; have q7 := zhx q7; omega) | (simp only [zhx q1, zhx q2, zhx q6, zhx q7] at h3 h8 ⊢ <;> omega))
      replace hM := zE_n hM (by first | (have q1 := zhx q1; have q2 := zhx q2; have q6 := zhx q6; have q7 := zhx q7; omega) | (simp only [zhx q1, zhx q2, zhx q6, zhx q7] at h3 h8 ⊢ <;> omega))
      obtain ⟨Ym25, hYm25, hM⟩ := zl_x hM
      have hR26 : zRx [] 0 Z Ym25 := zRx_o hR22 hYm25 rfl
      have hV27 : zV Ym25 := zV_o hV23 hYm25 rfl
      have hG28 := yFr_o hG24 hYm25 rfl (.inr rfl) rfl
      replace hM := zE_n hM (by first | (have q1 := zhx q1; have q2 := zhx q2; have q6 := zhx q6; have q7 := zhx q7; omega) | (simp only [zhx q1, zhx q2, zhx q6, zhx q7] at h3 h8 ⊢ <;> omega))
      replace hM := zE_n hM (by first | (have q1 := zhx q1; have q2 := zhx q2; have q6 := zhx q6; have q7 := zhx q7; omega) | (simp only [zhx q1, zhx q2, zhx q6, zhx q7] at h3 h8 ⊢ <;> omega))
      replace hM := zE_n hM (by first | (have q1 := zhx q1; have q2 := zhx q2; have q6 := zhx q6; have q7 := zhx q7; omega) | (simp only [zhx q1, zhx q2, zhx q6, zhx q7] at h3 h8 ⊢ <;> omega))
      replace hM := zE_n hM (by first | (have q1 := zhx q1; have q2 := zhx q2; have q6 := zhx q6; have q7 := zhx q7; omega) | (simp only [zhx q1, zhx q2, zhx q6, zhx q7] at h3 h8 ⊢ <;> omega))
      replace hM := zE_n hM (by first | (have q1 := zhx q1; have q2 := zhx q2; have q6 := zhx q6; have q7 := zhx q7; omega) | (simp only [zhx q1, zhx q2, zhx q6, zhx q7] at h3 h8 ⊢ <;> omega))
      replace hM := zE_n hM (by first | (have q1 := zhx q1; have q2 := zhx q2; have q6 := zhx q6; have q7 := zhx q7; omega) | (simp only [zhx q1, zhx q2, zhx q6, zhx q7] at h3 h8 ⊢ <;> omega))
      replace hM := zE_p hM (by first | (have q1 := zhx q1; have q2 := zhx q2; have q6 := zhx q6; have q7 := zhx q7; omega) | (simp only [zhx q1, zhx q2, zhx q6, zhx q7] at h3 h8 ⊢ <;> omega))
      have th9 := (zu_at hYm25)
      have q29 := zhd (congrArg (Ym25 2 0 0) (show (2009 + 16 * a1 + 16) = 2025 + 16 * a1 from (by first | (omega) | (have q1 := zhx q1; have q2 := zhx q2; have q6 := zhx q6; have q7 := zhx q7; omega))))
      have q30 := zhd (((zu_ne (k' := 2) (b' := 0) (i' := 0) (j' := 2025 + 16 * a1) hYm25 (fun q => absurd q.1 (by decide))).trans (zu_ne (k' := 2) (b' := 0) (i' := 0) (j' := 2025 + 16 * a1) hYm21 (fun q => absurd q.1 (by decide)))))
      obtain rfl : C = _ := hC
      obtain rfl : M = _ := hM
      exact ⟨zRx_1 hR26, hV27, ⟨Z, _, .inl ⟨rfl, yFr_w hG28 (by decide)⟩, zFc_r, yFr_r⟩, zThr_a th9 (by first | rfl | (have q1 := zhx q1; have q2 := zhx q2; have q6 := zhx q6; have q7 := zhx q7; have q20 := zhx q20; have q29 := zhx q29; have q30 := zhx q30; omega) | (simp only [zhx q1, zhx q2, zhx q6, zhx q7, zhx q20, zhx q29, zhx q30] <;> omega) | (have q1 := zhx q1; have q2 := zhx q2; have q6 := zhx q6; have q7 := zhx q7; have q20 := zhx q20; have q29 := zhx q29; have q30 := zhx q30; refine w3z ?_ ?_ ?_ <;> omega) | (have q1 := zhx q1; have q2 := zhx q2; have q6 := zhx q6; have q7 := zhx q7; have q20 := zhx q20; have q29 := zhx q29; have q30 := zhx q30; refine w3y ?_ ?_ ?_ <;> omega) | (have q1 := zhx q1; have q2 := zhx q2; have q6 := zhx q6; have q7 := zhx q7; have q20 := zhx q20; have q29 := zhx q29; have q30 := zhx q30; refine z2o ?_ ?_ ?_ <;> omega))⟩
  · rcases zE_c hM with ⟨h31, hM⟩ | ⟨h31, hM⟩
    · obtain ⟨Ym32, hYm32, hM⟩ := zl_x hM
      have hR33 : zRx [] 0 Z Ym32 := zRx_o hRb hYm32 rfl
      have hV34 : zV Ym32 := zV_o hV hYm32 rfl
      have hG35 := yFr_o hG hYm32 rfl (.inr rfl) rfl
      have th9 := (zu_at hYm32)
      obtain rfl : C = _ := hC
      obtain rfl : M = _ := hM
      exact ⟨zRx_1 hR33, hV34, ⟨Z, _, .inl ⟨rfl, yFr_w hG35 (by decide)⟩, zFc_r, yFr_r⟩, zThr_e th9 (by decide)⟩
    · rcases zE_c hM with ⟨h36, hM⟩ | ⟨h36, hM⟩
      · obtain ⟨Ym37, hYm37, hM⟩ := zl_x hM
        have hR38 : zRx [] 0 Z Ym37 := zRx_o hRb hYm37 rfl
        have hV39 : zV Ym37 := zV_o hV hYm37 rfl
        have hG40 := yFr_o hG hYm37 rfl (.inr rfl) rfl
        have th9 := (zu_at hYm37)
        obtain rfl : C = _ := hC
        obtain rfl : M = _ := hM
        exact ⟨zRx_1 hR38, hV39, ⟨Z, _, .inl ⟨rfl, yFr_w hG40 (by decide)⟩, zFc_r, yFr_r⟩, zThr_e th9 (by decide)⟩
      · obtain ⟨Ym41, hYm41, hM⟩ := zl_x hM
        have hR42 : zRx [] 0 Z Ym41 := zRx_o hRb hYm41 rfl
        have hV43 : zV Ym41 := zV_o hV hYm41 rfl
        have hG44 := yFr_o hG hYm41 rfl (.inr rfl) rfl
        replace hM := zE_n hM (by first | (have q1 := zhx q1; have q2 := zhx q2; omega) | (simp only [zhx q1, zhx q2] at h3 h31 h36 ⊢ <;> omega))
        replace hM := zE_n hM (by first | (have q1 := zhx q1; have q2 := zhx q2; omega) | (simp only [zhx q1, zhx q2] at h3 h31 h36 ⊢ <;> omega))
        obtain ⟨Ym45, hYm45, hM⟩ := zl_x hM
        have hR46 : zRx [] 0 Z Ym45 := zRx_o hR42 hYm45 rfl
        have hV47 : zV Ym45 := zV_o hV43 hYm45 rfl
        have hG48 := yFr_o hG44 hYm45 rfl (.inr rfl) rfl
        replace hM := zE_n hM (by first | (have q1 := zhx q1; have q2 := zhx q2; omega) | (simp only [zhx q1, zhx q2] at h3 h31 h36 ⊢ <;> omega))
        replace hM := zE_n hM (by first | (have q1 := zhx q1; have q2 := zhx q2; omega) | (simp only [zhx q1, zhx q2] at h3 h31 h36 ⊢ <;> omega))
        replace hM := zE_n hM (by first | (have q1 := zhx q1; have q2 := zhx q2; omega) | (simp only [zhx q1, zhx q2] at h3 h31 h36 ⊢ <;> omega))
        replace hM := zE_n hM (by first | (have q1 := zhx q1; have q2 := zhx q2; omega) | (simp only [zhx q1, zhx q2] at h3 h31 h36 ⊢ <;> omega))
        replace hM := zE_n hM (by first | (have q1 := zhx q1; have q2 := zhx q2; omega) | (simp only [zhx q1, zhx q2] at h3 h31 h36 ⊢ <;> omega))
        replace hM := zE_n hM (by first | (have q1 := zhx q1; have q2 := zhx q2; omega) | (simp only [zhx q1, zhx q2] at h3 h31 h36 ⊢ <;> omega))
        replace hM := zE_p hM (by first | (have q1 := zhx q1; have q2 := zhx q2; omega) | (simp only [zhx q1, zhx q2] at h3 h31 h36 ⊢ <;> omega))
        exact False.elim (by have q1 := zhx q1; have q2 := zhx q2; first | omega | grind)

/- face parcel_17 -/
theorem rf_parcel_17 {Z Y : qz_Z} {dm : qz_Z → Int → Int → Int → Int → Int → Int → Int → qz_Z} {a1 : Int} (hRa : zR 0 Z Y) (hV : zV Y) (hI : zI none Z) (hd : zDf dm) (hD1 : zD1 0 Z Y) (hD4 : zD4 0 Z Y) (hN1 : zN1 Y) (hN4 : zN4 Y) (hDs : zDs 0 Z Y) (hDw : zDw 0 Z Y) (hDl : zDl 0 Z Y)  {C : qz_Z × Int × Int} {M : qz_Z × Int} (hC : zE C (zx_226 Z a1 17)) (hM : zE M (zy_449 Y a1 17)) : zR 0 C.1 M.1 ∧ zV M.1 ∧ zDd [] [99999] Z Y dm C.1 M.1 ∧ zThr [(24, 1), (13, 2)] C.2 (M.1 1 0 0 2) M.2 := by
  have hRb := zRx_0 hRa
  have hF : zFc [] 0 Z Z := zFc_r
  have hG : yFr [99999] Y Y := yFr_r
  unfold zx_226 at hC
  unfold zy_449 at hM
  have q1 := zhd (zVr_11_6 (a := 2000) hV (by omega))
  have q2 := zhd ((zRl_11_6 (a := 2000) hRa (by omega)))
  rcases zE_c hC with ⟨h3, hC⟩ | ⟨h3, hC⟩
  · replace hC := zE_p hC (by first | (have q1 := zhx q1; have q2 := zhx q2; omega) | (simp only [zhx q1, zhx q2] at h3 ⊢ <;> omega))
    obtain ⟨v5, g4, hC⟩ := zl_x hC
    replace g4 : zE _ _ := g4
    unfold zf_36 at g4
    have q6 := zhd (zVr_47_9 (x := a1) (a := 2019 + 16 * a1) hV (by have q1 := zhx q1; have q2 := zhx q2; omega) (by have q1 := zhx q1; have q2 := zhx q2; omega) (by have q1 := zhx q1; have q2 := zhx q2; omega))
    have q7 := zhd ((zRl_47_9 (x := a1) (a := 2019 + 16 * a1) hRa (by have q1 := zhx q1; have q2 := zhx q2; omega) (by have q1 := zhx q1; have q2 := zhx q2; omega) (by have q1 := zhx q1; have q2 := zhx q2; omega)))
    rcases zE_c g4 with ⟨h8, g4⟩ | ⟨h8, g4⟩
    · replace g4 := zE_p g4 (by first | (have q1 := zhx q1; have q2 := zhx q2; have q6 := zhx q6; have q7 := zhx q7; omega) | (simp only [zhx q1, zhx q2, zhx q6, zhx q7] at h3 h8 ⊢ <;> omega))
      have q9 := zhd ((zRl_47_17 (x := a1) (a := 40 + a1) hRa (by first | (omega) | (have q1 := zhx q1; have q2 := zhx q2; have q6 := zhx q6; have q7 := zhx q7; omega)) (by first | (omega) | (have q1 := zhx q1; have q2 := zhx q2; have q6 := zhx q6; have q7 := zhx q7; omega)) (by first | (omega) | (have q1 := zhx q1; have q2 := zhx q2; have q6 := zhx q6; have q7 := zhx q7; omega))))
      have e9 : (Z 47 0 a1 17) = v5 := Eq.symm g4
      subst e9
      replace hM := zE_n hM (by first | (have q1 := zhx q1; have q2 := zhx q2; have q6 := zhx q6; have q7 := zhx q7; omega) | (simp only [zhx q1, zhx q2, zhx q6, zhx q7] at h3 h8 ⊢ <;> omega))
      replace hM := zE_n hM (by first | (have q1 := zhx q1; have q2 := zhx q2; have q6 := zhx q6; have q7 := zhx q7; omega) | (simp only [zhx q1, zhx q2, zhx q6, zhx q7] at h3 h8 ⊢ <;> omega))
      obtain ⟨Ym10, hYm10, hM⟩ := zl_x hM
      have hR11 : zRx [] 0 Z Ym10 := zRx_o hRb hYm10 rfl
      have hV12 : zV Ym10 := zV_o hV hYm10 rfl
      have hG13 := yFr_o hG hYm10 rfl (.inr rfl) rfl
      replace hM := zE_n hM (by first | (have q1 := zhx q1; have q2 := zhx q2; have q6 := zhx q6; have q7 := zhx q7; omega) | (simp only [zhx q1, zhx q2, zhx q6, zhx q7] at h3 h8 ⊢ <;> omega))
      replace hM := zE_n hM (by first | (have q1 := zhx q1; have q2 := zhx q2; have q6 := zhx q6; have q7 := zhx q7; omega) | (simp only [zhx q1, zhx q2, zhx q6, zhx q7] at h3 h8 ⊢ <;> omega))
      obtain ⟨Ym14, hYm14, hM⟩ := zl_x hM
      have hR15 : zRx [] 0 Z Ym14 := zRx_o hR11 hYm14 rfl
      have hV16 : zV Ym14 := zV_o hV12 hYm14 rfl
      have hG17 := yFr_o hG13 hYm14 rfl (.inr rfl) rfl
      replace hM := zE_n hM (by first | (have q1 := zhx q1; have q2 := zhx q2; have q6 := zhx q6; have q7 := zhx q7; omega) | (simp only [zhx q1, zhx q2, zhx q6, zhx q7] at h3 h8 ⊢ <;> omega))
      replace hM := zE_n hM (by first | (have q1 := zhx q1; have q2 := zhx q2; have q6 := zhx q6; have q7 := zhx q7; omega) | (simp only [zhx q1, zhx q2, zhx q6, zhx q7] at h3 h8 ⊢ <;> omega))
      replace hM := zE_n hM (by first | (have q1 := zhx q1; have q2 := zhx q2; have q6 := zhx q6; have q7 := zhx q7; omega) | (simp only [zhx q1, zhx q2, zhx q6, zhx q7] at h3 h8 ⊢ <;> omega))
      replace hM := zE_n hM (by first | (have q1 := zhx q1; have q2 := zhx q2; have q6 := zhx q6; have q7 := zhx q7; omega) | (simp only [zhx q1, zhx q2, zhx q6, zhx q7] at h3 h8 ⊢ <;> omega))
      replace hM := zE_n hM (by first | (have q1 := zhx q1; have q2 := zhx q2; have q6 := zhx q6; have q7 := zhx q7; omega) | (simp only [zhx q1, zhx q2, zhx q6, zhx q7] at h3 h8 ⊢ <;> omega))
      replace hM := zE_n hM (by first | (have q1 := zhx q1; have q2 := zhx q2; have q6 := zhx q6; have q7 := zhx q7; omega) | (simp only [zhx q1, zhx q2, zhx q6, zhx q7] at h3 h8 ⊢ <;> omega))
      replace hM := zE_n hM (by first | (have q1 := zhx q1; have q2 := zhx q2; have q6 := zhx q6; have q7 := zhx q7; omega) | (simp only [zhx q1, zhx q2, zhx q6, zhx q7] at h3 h8 ⊢ <;> omega))
      replace hM := zE_p hM (by first | (have q1 := zhx q1; have q2 := zhx q2; have q6 := zhx q6; have q7 := zhx q7; omega) | (simp only [zhx q1, zhx q2, zhx q6, zhx q7] at h3 h8 ⊢ <;> omega))
      have th9 := (zu_at hYm14)
      have q18 := zhd (((zu_ne (k' := 2) (b' := 0) (i' := 0) (j' := 40 + a1) hYm14 (fun q => absurd q.1 (by decide))).trans (zu_ne (k' := 2) (b' := 0) (i' := 0) (j' := 40 + a1) hYm10 (fun q => absurd q.1 (by decide)))))
      obtain rfl : C = _ := hC
      obtain rfl : M = _ := hM
      exact ⟨zRx_1 hR15, hV16, ⟨Z, _, .inl ⟨rfl, yFr_w hG17 (by decide)⟩, zFc_r, yFr_r⟩, zThr_a th9 (by first | rfl | (have q1 := zhx q1; have q2 := zhx q2; have q6 := zhx q6; have q7 := zhx q7; have q9 := zhx q9; have q18 := zhx q18; omega) | (simp only [zhx q1, zhx q2, zhx q6, zhx q7, zhx q9, zhx q18] <;> omega) | (have q1 := zhx q1; have q2 := zhx q2; have q6 := zhx q6; have q7 := zhx q7; have q9 := zhx q9; have q18 := zhx q18; refine w3z ?_ ?_ ?_ <;> omega) | (have q1 := zhx q1; have q2 := zhx q2; have q6 := zhx q6; have q7 := zhx q7; have q9 := zhx q9; have q18 := zhx q18; refine w3y ?_ ?_ ?_ <;> omega) | (have q1 := zhx q1; have q2 := zhx q2; have q6 := zhx q6; have q7 := zhx q7; have q9 := zhx q9; have q18 := zhx q18; refine z2o ?_ ?_ ?_ <;> omega))⟩
    · replace g4 := zE_p g4 (by first | (have q1 := zhx q1; have q2 := zhx q2; have q6 := zhx q6; have q7 := zhx q7; omega) | (simp only [zhx q1, zhx q2, zhx q6, zhx q7] at h3 h8 ⊢ <;> omega))
      have q19 := zhd ((zRl_47_17 (x := a1) (a := 40 + a1) hRa (by first | (omega) | (have q1 := zhx q1; have q2 := zhx q2; have q6 := zhx q6; have q7 := zhx q7; omega)) (by first | (omega) | (have q1 := zhx q1; have q2 := zhx q2; have q6 := zhx q6; have q7 := zhx q7; omega)) (by first | (omega) | (have q1 := zhx q1; have q2 := zhx q2; have q6 := zhx q6; have q7 := zhx q7; omega))))
      have e9 : (Z 47 0 a1 17) = v5 := Eq.symm g4
      subst e9
      replace hM := zE_n hM (by first | (have q1 := zhx q1; have q2 := zhx q2; have q6 := zhx q6; have q7 := zhx q7; omega) | (simp only [zhx q1, zhx q2, zhx q6, zhx q7] at h3 h8 ⊢ <;> omega))
      replace hM := zE_n hM (by first | (have q1 := zhx q1; have q2 := zhx q2; have q6 := zhx q6; have q7 := zhx q7; omega) | (simp only [zhx q1, zhx q2, zhx q6, zhx q7] at h3 h8 ⊢ <;> omega))
      obtain ⟨Ym20, hYm20, hM⟩ := zl_x hM
      have hR21 : zRx [] 0 Z Ym20 := zRx_o hRb hYm20 rfl
      have hV22 : zV Ym20 := zV_o hV hYm20 rfl
      have hG23 := yFr_o hG hYm20 rfl (.inr rfl) rfl
      replace hM := zE_n hM (by first | (have q1 := zhx q1; have q2 := zhx q2; have q6 := zhx q6; have q7 := zhx q7; omega) | (simp only [zhx q1, zhx q2, zhx q6, zhx q7] at h3 h8 ⊢ <;> omega))
      replace hM := zE_n hM (by first | (have q1 := zhx q1; have q2 := zhx q2; have q6 := zhx q6; have q7 := zhx q7; omega) | (simp only [zhx q1, zhx q2, zhx q6, zhx q7] at h3 h8 ⊢ <;> omega))
      obtain ⟨Ym24, hYm24, hM⟩ := zl_x hM
      have hR25 : zRx [] 0 Z Ym24 := zRx_o hR21 hYm24 rfl
      have hV26 : zV Ym24 := zV_o hV22 hYm24 rfl
      have hG27 := yFr_o hG23 hYm24 rfl (.inr rfl) rfl
      replace hM := zE_n hM (by first | (have q1 := zhx q1; have q2 := zhx q2; have q6 := zhx q6; have q7 := zhx q7; omega) | (simp only [zhx q1, zhx q2, zhx q6, zhx q7] at h3 h8 ⊢ <;> omega))
      replace hM := zE_n hM (by first | (have q1 := zhx q1; have q2 := zhx q2; have q6 := zhx q6; have q7 := zhx q7; omega) | (simp only [zhx q1, zhx q2, zhx q6, zhx q7] at h3 h8 ⊢ <;> omega))
      replace hM := zE_n hM (by first | (have q1 := zhx q1; have q2 := zhx q2; have q6 := zhx q6; have q7 := zhx q7; omega) | (simp only [zhx q1, zhx q2, zhx q6, zhx q7] at h3 h8 ⊢ <;> omega))
      replace hM := zE_n hM (by first | (have q1 := zhx q1; have q2 := zhx q2; have q6 := zhx q6; have q7 := zhx q7; omega) | (simp only [zhx q1, zhx q2, zhx q6, zhx q7] at h3 h8 ⊢ <;> omega))
      replace hM := zE_n hM (by first | (have q1 := zhx q1; have q2 := zhx q2; have q6 := zhx q6; have q7 := zhx q7; omega) | (simp only [zhx q1, zhx q2, zhx q6, zhx q7] at h3 h8 ⊢ <;> omega))
      replace hM := zE_n hM (by first | (have q1 := zhx q1; have q2 := zhx q2; have q6 := zhx q6; have q7 := zhx q7; omega) | (simp only [zhx q1, zhx q2, zhx q6, zhx q7] at h3 h8 ⊢ <;> omega))
      replace hM := zE_n hM (by first | (have q1 := zhx q1; have q2 := zhx q2; have q6 := zhx q6; have q7 := zhx q7; omega) | (simp only [zhx q1, zhx q2, zhx q6, zhx q7] at h3 h8 ⊢ <;> omega))
      replace hM := zE_p hM (by first | (have q1 := zhx q1; have q2 := zhx q2; have q6 := zhx q6; have q7 := zhx q7; omega) | (simp only [zhx q1, zhx q2, zhx q6, zhx q7] at h3 h8 ⊢ <;> omega))
      have th9 := (zu_at hYm24)
      have q28 := zhd (((zu_ne (k' := 2) (b' := 0) (i' := 0) (j' := 40 + a1) hYm24 (fun q => absurd q.1 (by decide))).trans (zu_ne (k' := 2) (b' := 0) (i' := 0) (j' := 40 + a1) hYm20 (fun q => absurd q.1 (by decide)))))
      obtain rfl : C = _ := hC
      obtain rfl : M = _ := hM
      exact ⟨zRx_1 hR25, hV26, ⟨Z, _, .inl ⟨rfl, yFr_w hG27 (by decide)⟩, zFc_r, yFr_r⟩, zThr_a th9 (by first | rfl | (have q1 := zhx q1; have q2 := zhx q2; have q6 := zhx q6; have q7 := zhx q7; have q19 := zhx q19; have q28 := zhx q28; omega) | (simp only [zhx q1, zhx q2, zhx q6, zhx q7, zhx q19, zhx q28] <;> omega) | (have q1 := zhx q1; have q2 := zhx q2; have q6 := zhx q6; have q7 := zhx q7; have q19 := zhx q19; have q28 := zhx q28; refine w3z ?_ ?_ ?_ <;> omega) | (have q1 := zhx q1; have q2 := zhx q2; have q6 := zhx q6; have q7 := zhx q7; have q19 := zhx q19; have q28 := zhx q28; refine w3y ?_ ?_ ?_ <;> omega) | (have q1 := zhx q1; have q2 := zhx q2; have q6 := zhx q6; have q7 := zhx q7; have q19 := zhx q19; have q28 := zhx q28; refine z2o ?_ ?_ ?_ <;> omega))⟩
  · rcases zE_c hM with ⟨h29, hM⟩ | ⟨h29, hM⟩
    · obtain ⟨Ym30, hYm30, hM⟩ := zl_x hM
      have hR31 : zRx [] 0 Z Ym30 := zRx_o hRb hYm30 rfl
      have hV32 : zV Ym30 := zV_o hV hYm30 rfl
      have hG33 := yFr_o hG hYm30 rfl (.inr rfl) rfl
      have th9 := (zu_at hYm30)
      obtain rfl : C = _ := hC
      obtain rfl : M = _ := hM
      exact ⟨zRx_1 hR31, hV32, ⟨Z, _, .inl ⟨rfl, yFr_w hG33 (by decide)⟩, zFc_r, yFr_r⟩, zThr_e th9 (by decide)⟩
    · rcases zE_c hM with ⟨h34, hM⟩ | ⟨h34, hM⟩
      · obtain ⟨Ym35, hYm35, hM⟩ := zl_x hM
        have hR36 : zRx [] 0 Z Ym35 := zRx_o hRb hYm35 rfl
        have hV37 : zV Ym35 := zV_o hV hYm35 rfl
        have hG38 := yFr_o hG hYm35 rfl (.inr rfl) rfl
        have th9 := (zu_at hYm35)
        obtain rfl : C = _ := hC
        obtain rfl : M = _ := hM
        exact ⟨zRx_1 hR36, hV37, ⟨Z, _, .inl ⟨rfl, yFr_w hG38 (by decide)⟩, zFc_r, yFr_r⟩, zThr_e th9 (by decide)⟩
      · obtain ⟨Ym39, hYm39, hM⟩ := zl_x hM
        have hR40 : zRx [] 0 Z Ym39 := zRx_o hRb hYm39 rfl
        have hV41 : zV Ym39 := zV_o hV hYm39 rfl
        have hG42 := yFr_o hG hYm39 rfl (.inr rfl) rfl
        replace hM := zE_n hM (by first | (have q1 := zhx q1; have q2 := zhx q2; omega) | (simp only [zhx q1, zhx q2] at h3 h29 h34 ⊢ <;> omega))
        replace hM := zE_n hM (by first | (have q1 := zhx q1; have q2 := zhx q2; omega) | (simp only [zhx q1, zhx q2] at h3 h29 h34 ⊢ <;> omega))
        obtain ⟨Ym43, hYm43, hM⟩ := zl_x hM
        have hR44 : zRx [] 0 Z Ym43 := zRx_o hR40 hYm43 rfl
        have hV45 : zV Ym43 := zV_o hV41 hYm43 rfl
        have hG46 := yFr_o hG42 hYm43 rfl (.inr rfl) rfl
        replace hM := zE_n hM (by first | (have q1 := zhx q1; have q2 := zhx q2; omega) | (simp only [zhx q1, zhx q2] at h3 h29 h34 ⊢ <;> omega))
        replace hM := zE_n hM (by first | (have q1 := zhx q1; have q2 := zhx q2; omega) | (simp only [zhx q1, zhx q2] at h3 h29 h34 ⊢ <;> omega))
        replace hM := zE_n hM (by first | (have q1 := zhx q1; have q2 := zhx q2; omega) | (simp only [zhx q1, zhx q2] at h3 h29 h34 ⊢ <;> omega))
        replace hM := zE_n hM (by first | (have q1 := zhx q1; have q2 := zhx q2; omega) | (simp only [zhx q1, zhx q2] at h3 h29 h34 ⊢ <;> omega))
        replace hM := zE_n hM (by first | (have q1 := zhx q1; have q2 := zhx q2; omega) | (simp only [zhx q1, zhx q2] at h3 h29 h34 ⊢ <;> omega))
        replace hM := zE_n hM (by first | (have q1 := zhx q1; have q2 := zhx q2; omega) | (simp only [zhx q1, zhx q2] at h3 h29 h34 ⊢ <;> omega))
        replace hM := zE_n hM (by first | (have q1 := zhx q1; have q2 := zhx q2; omega) | (simp only [zhx q1, zhx q2] at h3 h29 h34 ⊢ <;> omega))
        replace hM := zE_p hM (by first | (have q1 := zhx q1; have q2 := zhx q2; omega) | (simp only [zhx q1, zhx q2] at h3 h29 h34 ⊢ <;> omega))
        exact False.elim (by have q1 := zhx q1; have q2 := zhx q2; first | omega | grind)

/- face parcel_18 -/
theorem rf_parcel_18 {Z Y : qz_Z} {dm : qz_Z → Int → Int → Int → Int → Int → Int → Int → qz_Z} {a1 : Int} (hRa : zR 0 Z Y) (hV : zV Y) (hI : zI none Z) (hd : zDf dm) (hD1 : zD1 0 Z Y) (hD4 : zD4 0 Z Y) (hN1 : zN1 Y) (hN4 : zN4 Y) (hDs : zDs 0 Z Y) (hDw : zDw 0 Z Y) (hDl : zDl 0 Z Y)  {C : qz_Z × Int × Int} {M : qz_Z × Int} (hC : zE C (zx_226 Z a1 18)) (hM : zE M (zy_449 Y a1 18)) : zR 0 C.1 M.1 ∧ zV M.1 ∧ zDd [] [99999] Z Y dm C.1 M.1 ∧ zThr [(24, 1), (13, 2)] C.2 (M.1 1 0 0 2) M.2 := by
  have hRb := zRx_0 hRa
  have hF : zFc [] 0 Z Z := zFc_r
  have hG : yFr [99999] Y Y := yFr_r
  unfold zx_226 at hC
  unfold zy_449 at hM
  have q1 := zhd (zVr_11_6 (a := 2000) hV (by omega))
  have q2 := zhd ((zRl_11_6 (a := 2000) hRa (by omega)))
  rcases zE_c hC with ⟨h3, hC⟩ | ⟨h3, hC⟩
  · replace hC := zE_p hC (by first | (have q1 := zhx q1; have q2 := zhx q2; omega) | (simp only [zhx q1, zhx q2] at h3 ⊢ <;> omega))
    obtain ⟨v5, g4, hC⟩ := zl_x hC
    replace g4 : zE _ _ := g4
    unfold zf_36 at g4
    have q6 := zhd (zVr_47_9 (x := a1) (a := 2019 + 16 * a1) hV (by have q1 := zhx q1; have q2 := zhx q2; omega) (by have q1 := zhx q1; have q2 := zhx q2; omega) (by have q1 := zhx q1; have q2 := zhx q2; omega))
    have q7 := zhd ((zRl_47_9 (x := a1) (a := 2019 + 16 * a1) hRa (by have q1 := zhx q1; have q2 := zhx q2; omega) (by have q1 := zhx q1; have q2 := zhx q2; omega) (by have q1 := zhx q1; have q2 := zhx q2; omega)))
    rcases zE_c g4 with ⟨h8, g4⟩ | ⟨h8, g4⟩
    · replace g4 := zE_p g4 (by first | (have q1 := zhx q1; have q2 := zhx q2; have q6 := zhx q6; have q7 := zhx q7; omega) | (simp only [zhx q1, zhx q2, zhx q6, zhx q7] at h3 h8 ⊢ <;> omega))
      have q9 := zhd ((hD1 (a1) (by first | (omega) | (have q1 := zhx q1; have q2 := zhx q2; have q6 := zhx q6; have q7 := zhx q7; omega)) (by first | (omega) | (have q1 := zhx q1; have q2 := zhx q2; have q6 := zhx q6; have q7 := zhx q7; omega))))
      have e9 : (Z 47 0 a1 18) = v5 := Eq.symm g4
      subst e9
      replace hM := zE_n hM (by first | (have q1 := zhx q1; have q2 := zhx q2; have q6 := zhx q6; have q7 := zhx q7; omega) | (simp only [zhx q1, zhx q2, zhx q6, zhx q7] at h3 h8 ⊢ <;> omega))
      replace hM := zE_n hM (by first | (have q1 := zhx q1; have q2 := zhx q2; have q6 := zhx q6; have q7 := zhx q7; omega) | (simp only [zhx q1, zhx q2, zhx q6, zhx q7] at h3 h8 ⊢ <;> omega))
      obtain ⟨Ym10, hYm10, hM⟩ := zl_x hM
      have hR11 : zRx [] 0 Z Ym10 := zRx_o hRb hYm10 rfl
      have hV12 : zV Ym10 := zV_o hV hYm10 rfl
      have hG13 := yFr_o hG hYm10 rfl (.inr rfl) rfl
      replace hM := zE_n hM (by first | (have q1 := zhx q1; have q2 := zhx q2; have q6 := zhx q6; have q7 := zhx q7; omega) | (simp only [zhx q1, zhx q2, zhx q6, zhx q7] at h3 h8 ⊢ <;> omega))
      replace hM := zE_n hM (by first | (have q1 := zhx q1; have q2 := zhx q2; have q6 := zhx q6; have q7 := zhx q7; omega) | (simp only [zhx q1, zhx q2, zhx q6, zhx q7] at h3 h8 ⊢ <;> omega))
      obtain ⟨Ym14, hYm14, hM⟩ := zl_x hM
      have hR15 : zRx [] 0 Z Ym14 := zRx_o hR11 hYm14 rfl
      have hV16 : zV Ym14 := zV_o hV12 hYm14 rfl
      have hG17 := yFr_o hG13 hYm14 rfl (.inr rfl) rfl
      replace hM := zE_n hM (by first | (have q1 := zhx q1; have q2 := zhx q2; have q6 := zhx q6; have q7 := zhx q7; omega) | (simp only [zhx q1, zhx q2, zhx q6, zhx q7] at h3 h8 ⊢ <;> omega))
      replace hM := zE_n hM (by first | (have q1 := zhx q1; have q2 := zhx q2; have q6 := zhx q6; have q7 := zhx q7; omega) | (simp only [zhx q1, zhx q2, zhx q6, zhx q7] at h3 h8 ⊢ <;> omega))
      replace hM := zE_n hM (by first | (have q1 := zhx q1; have q2 := zhx q2; have q6 := zhx q6; have q7 := zhx q7; omega) | (simp only [zhx q1, zhx q2, zhx q6, zhx q7] at h3 h8 ⊢ <;> omega))
      replace hM := zE_n hM (by first | (have q1 := zhx q1; have q2 := zhx q2; have q6 := zhx q6; have q7 := zhx q7; omega) | (simp only [zhx q1, zhx q2, zhx q6, zhx q7] at h3 h8 ⊢ <;> omega))
      replace hM := zE_n hM (by first | (have q1 := zhx q1; have q2 := zhx q2; have q6 := zhx q6; have q7 := zhx q7; omega) | (simp only [zhx q1, zhx q2, zhx q6, zhx q7] at h3 h8 ⊢ <;> omega))
      replace hM := zE_n hM (by first | (have q1 := zhx q1; have q2 := zhx q2; have q6 := zhx q6; have q7 := zhx q7; omega) | (simp only [zhx q1, zhx q2, zhx q6, zhx q7] at h3 h8 ⊢ <;> omega))
      replace hM := zE_n hM (by first | (have q1 := zhx q1; have q2 := zhx q2; have q6 := zhx q6; have q7 := zhx q7; omega) | (simp only [zhx q1, zhx q2, zhx q6, zhx q7] at h3 h8 ⊢ <;> omega))
      replace hM := zE_n hM (by first | (have q1 := zhx q1; have q2 := zhx q2; have q6 := zhx q6; have q7 := zhx q7; omega) | (simp only [zhx q1, zhx q2, zhx q6, zhx q7] at h3 h8 ⊢ <;> omega))
      replace hM := zE_p hM (by first | (have q1 := zhx q1; have q2 := zhx q2; have q6 := zhx q6; have q7 := zhx q7; omega) | (simp only [zhx q1, zhx q2, zhx q6, zhx q7] at h3 h8 ⊢ <;> omega))
      have th9 := (zu_at hYm14)
      have q18 := zhd (((zu_ne (k' := 2) (b' := 0) (i' := 0) (j' := 2013 + 16 * a1) hYm14 (fun q => absurd q.1 (by decide))).trans (zu_ne (k' := 2) (b' := 0) (i' := 0) (j' := 2013 + 16 * a1) hYm10 (fun q => absurd q.1 (by decide)))))
      have q19 := zhd (((zu_ne (k' := 2) (b' := 0) (i' := 0) (j' := 2015 + 16 * a1) hYm14 (fun q => absurd q.1 (by decide))).trans (zu_ne (k' := 2) (b' := 0) (i' := 0) (j' := 2015 + 16 * a1) hYm10 (fun q => absurd q.1 (by decide)))))
      obtain rfl : C = _ := hC
      obtain rfl : M = _ := hM
      exact ⟨zRx_1 hR15, hV16, ⟨Z, _, .inl ⟨rfl, yFr_w hG17 (by decide)⟩, zFc_r, yFr_r⟩, zThr_a th9 (by first | (simp only [zhx q1, zhx q2, zhx q6, zhx q7, zhx q9, zhx q18, zhx q19] <;> omega) | rfl | (have q1 := zhx q1; have q2 := zhx q2; have q6 := zhx q6; have q7 := zhx q7; have q9 := zhx q9; have q18 := zhx q18; have q19 := zhx q19; omega) | (have q1 := zhx q1; have q2 := zhx q2; have q6 := zhx q6; have q7 := zhx q7; have q9 := zhx q9; have q18 := zhx q18; have q19 := zhx q19; refine w3z ?_ ?_ ?_ <;> omega) | (have q1 := zhx q1; have q2 := zhx q2; have q6 := zhx q6; have q7 := zhx q7; have q9 := zhx q9; have q18 := zhx q18; have q19 := zhx q19; refine w3y ?_ ?_ ?_ <;> omega) | (have q1 := zhx q1; have q2 := zhx q2; have q6 := zhx q6; have q7 := zhx q7; have q9 := zhx q9; have q18 := zhx q18; have q19 := zhx q19; refine z2o ?_ ?_ ?_ <;> omega) | (have q1 := zhx q1; have q2 := zhx q2; have q6 := zhx q6; have q7 := zhx q7; have q9 := zhx q9; have q18 := zhx q18; have q19 := zhx q19; simp only [zhx q1, zhx q2, zhx q6, zhx q7, zhx q9, zhx q18, zhx q19] at h3 h8 ⊢; refine w3z ?_ ?_ ?_ <;> omega))⟩
    · replace g4 := zE_p g4 (by first | (have q1 := zhx q1; have q2 := zhx q2; have q6 := zhx q6; have q7 := zhx q7; omega) | (simp only [zhx q1, zhx q2, zhx q6, zhx q7] at h3 h8 ⊢ <;> omega))
      have q20 := zhd ((hD1 (a1) (by first | (omega) | (have q1 := zhx q1; have q2 := zhx q2; have q6 := zhx q6; have q7 := zhx q7; omega)) (by first | (omega) | (have q1 := zhx q1; have q2 := zhx q2; have q6 := zhx q6; have q7 := zhx q7; omega))))
      have e9 : (Z 47 0 a1 18) = v5 := Eq.symm g4
      subst e9
      replace hM := zE_n hM (by first | (have q1 := zhx q1; have q2 := zhx q2; have q6 := zhx q6; have q7 := zhx q7; omega) | (simp only [zhx q1, zhx q2, zhx q6, zhx q7] at h3 h8 ⊢ <;> omega))
      replace hM := zE_n hM (by first | (have q1 := zhx q1; have q2 := zhx q2; have q6 := zhx q6; have q7 := zhx q7; omega) | (simp only [zhx q1, zhx q2, zhx q6, zhx q7] at h3 h8 ⊢ <;> omega))
      obtain ⟨Ym21, hYm21, hM⟩ := zl_x hM
      have hR22 : zRx [] 0 Z Ym21 := zRx_o hRb hYm21 rfl
      have hV23 : zV Ym21 := zV_o hV hYm21 rfl
      have hG24 := yFr_o hG hYm21 rfl (.inr rfl) rfl
      replace hM := zE_n hM (by first | (have q1 := zhx q1; have q2 := zhx q2; have q6 := zhx q6; have q7 := zhx q7; omega) | (simp only [zhx q1, zhx q2, zhx q6, zhx q7] at h3 h8 ⊢ <;> omega))
      replace hM := zE_n hM (by first | (have q1 := zhx q1; have q2 := zhx q2; have q6 := zhx q6; have q7 := zhx q7; omega) | (simp only [zhx q1, zhx q2, zhx q6, zhx q7] at h3 h8 ⊢ <;> omega))
      obtain ⟨Ym25, hYm25, hM⟩ := zl_x hM
      have hR26 : zRx [] 0 Z Ym25 := zRx_o hR22 hYm25 rfl
      have hV27 : zV Ym25 := zV_o hV23 hYm25 rfl
      have hG28 := yFr_o hG24 hYm25 rfl (.inr rfl) rfl
      replace hM := zE_n hM (by first | (have q1 := zhx q1; have q2 := zhx q2; have q6 := zhx q6; have q7 := zhx q7; omega) | (simp only [zhx q1, zhx q2, zhx q6, zhx q7] at h3 h8 ⊢ <;> omega))
      replace hM := zE_n hM (by first | (have q1 := zhx q1; have q2 := zhx q2; have q6 := zhx q6; have q7 := zhx q7; omega) | (simp only [zhx q1, zhx q2, zhx q6, zhx q7] at h3 h8 ⊢ <;> omega))
      replace hM := zE_n hM (by first | (have q1 := zhx q1; have q2 := zhx q2; have q6 := zhx q6; have q7 := zhx q7; omega) | (simp only [zhx q1, zhx q2, zhx q6, zhx q7] at h3 h8 ⊢ <;> omega))
      replace hM := zE_n hM (by first | (have q1 := zhx q1; have q2 := zhx q2; have q6 := zhx q6; have q7 := zhx q7; omega) | (simp only [zhx q1, zhx q2, zhx q6, zhx q7] at h3 h8 ⊢ <;> omega))
      replace hM := zE_n hM (by first | (have q1 := zhx q1; have q2 := zhx q2; have q6 := zhx q6; have q7 := zhx q7; omega) | (simp only [zhx q1, zhx q2, zhx q6, zhx q7] at h3 h8 ⊢ <;> omega))
      replace hM := zE_n hM (by first | (have q1 := zhx q1; have q2 := zhx q2; have q6 := zhx q6; have q7 := zhx q7; omega) | (simp only [zhx q1, zhx q2, zhx q6, zhx q7] at h3 h8 ⊢ <;> omega))
      replace hM := zE_n hM (by first | (have q1 := zhx q1; have q2 := zhx q2; have q6 := zhx q6; have q7 := zhx q7; omega) | (simp only [zhx q1, zhx q2, zhx q6, zhx q7] at h3 h8 ⊢ <;> omega))
      replace hM := zE_n hM (by first | (have q1 := zhx q1; have q2 := zhx q2; have q6 := zhx q6; have q7 := zhx q7; omega) | (simp only [zhx q1, zhx q2, zhx q6, zhx q7] at h3 h8 ⊢ <;> omega))
      replace hM := zE_p hM (by first | (have q1 := zhx q1; have q2 := zhx q2; have q6 := zhx q6; have q7 := zhx q7; omega) | (simp only [zhx q1, zhx q2, zhx q6, zhx q7] at h3 h8 ⊢ <;> omega))
      have th9 := (zu_at hYm25)
      have q29 := zhd (((zu_ne (k' := 2) (b' := 0) (i' := 0) (j' := 2013 + 16 * a1) hYm25 (fun q => absurd q.1 (by decide))).trans (zu_ne (k' := 2) (b' := 0) (i' := 0) (j' := 2013 + 16 * a1) hYm21 (fun q => absurd q.1 (by decide)))))
      have q30 := zhd (((zu_ne (k' := 2) (b' := 0) (i' := 0) (j' := 2015 + 16 * a1) hYm25 (fun q => absurd q.1 (by decide))).trans (zu_ne (k' := 2) (b' := 0) (i' := 0) (j' := 2015 + 16 * a1) hYm21 (fun q => absurd q.1 (by decide)))))
      obtain rfl : C = _ := hC
      obtain rfl : M = _ := hM
      exact ⟨zRx_1 hR26, hV27, ⟨Z, _, .inl ⟨rfl, yFr_w hG28 (by decide)⟩, zFc_r, yFr_r⟩, zThr_a th9 (by first | (simp only [zhx q1, zhx q2, zhx q6, zhx q7, zhx q20, zhx q29, zhx q30] <;> omega) | rfl | (have q1 := zhx q1; have q2 := zhx q2; have q6 := zhx q6; have q7 := zhx q7; have q20 := zhx q20; have q29 := zhx q29; have q30 := zhx q30; omega) | (have q1 := zhx q1; have q2 := zhx q2; have q6 := zhx q6; have q7 := zhx q7; have q20 := zhx q20; have q29 := zhx q29; have q30 := zhx q30; refine w3z ?_ ?_ ?_ <;> omega) | (have q1 := zhx q1; have q2 := zhx q2; have q6 := zhx q6; have q7 := zhx q7; have q20 := zhx q20; have q29 := zhx q29; have q30 := zhx q30; refine w3y ?_ ?_ ?_ <;> omega) | (have q1 := zhx q1; have q2 := zhx q2; have q6 := zhx q6; have q7 := zhx q7; have q20 := zhx q20; have q29 := zhx q29; have q30 := zhx q30; refine z2o ?_ ?_ ?_ <;> omega) | (have q1 := zhx q1; have q2 := zhx q2; have q6 := zhx q6; have q7 := zhx q7; have q20 := zhx q20; have q29 := zhx q29; have q30 := zhx q30; simp only [zhx q1, zhx q2, zhx q6, zhx q7, zhx q20, zhx q29, zhx q30] at h3 h8 ⊢; refine w3z ?_ ?_ ?_ <;> omega))⟩
  · rcases zE_c hM with ⟨h31, hM⟩ | ⟨h31, hM⟩
    · obtain ⟨Ym32, hYm32, hM⟩ := zl_x hM
      have hR33 : zRx [] 0 Z Ym32 := zRx_o hRb hYm32 rfl
      have hV34 : zV Ym32 := zV_o hV hYm32 rfl
      have hG35 := yFr_o hG hYm32 rfl (.inr rfl) rfl
      have th9 := (zu_at hYm32)
      obtain rfl : C = _ := hC
      obtain rfl : M = _ := hM
      exact ⟨zRx_1 hR33, hV34, ⟨Z, _, .inl ⟨rfl, yFr_w hG35 (by decide)⟩, zFc_r, yFr_r⟩, zThr_e th9 (by decide)⟩
    · rcases zE_c hM with ⟨h36, hM⟩ | ⟨h36, hM⟩
      · obtain ⟨Ym37, hYm37, hM⟩ := zl_x hM
        have hR38 : zRx [] 0 Z Ym37 := zRx_o hRb hYm37 rfl
        have hV39 : zV Ym37 := zV_o hV hYm37 rfl
        have hG40 := yFr_o hG hYm37 rfl (.inr rfl) rfl
        have th9 := (zu_at hYm37)
        obtain rfl : C = _ := hC
        obtain rfl : M = _ := hM
        exact ⟨zRx_1 hR38, hV39, ⟨Z, _, .inl ⟨rfl, yFr_w hG40 (by decide)⟩, zFc_r, yFr_r⟩, zThr_e th9 (by decide)⟩
      · obtain ⟨Ym41, hYm41, hM⟩ := zl_x hM
        have hR42 : zRx [] 0 Z Ym41 := zRx_o hRb hYm41 rfl
        have hV43 : zV Ym41 := zV_o hV hYm41 rfl
        have hG44 := yFr_o hG hYm41 rfl (.inr rfl) rfl
        replace hM := zE_n hM (by first | (have q1 := zhx q1; have q2 := zhx q2; omega) | (simp only [zhx q1, zhx q2] at h3 h31 h36 ⊢ <;> omega))
        replace hM := zE_n hM (by first | (have q1 := zhx q1; have q2 := zhx q2; omega) | (simp only [zhx q1, zhx q2] at h3 h31 h36 ⊢ <;> omega))
        obtain ⟨Ym45, hYm45, hM⟩ := zl_x hM
        have hR46 : zRx [] 0 Z Ym45 := zRx_o hR42 hYm45 rfl
        have hV47 : zV Ym45 := zV_o hV43 hYm45 rfl
        have hG48 := yFr_o hG44 hYm45 rfl (.inr rfl) rfl
        replace hM := zE_n hM (by first | (have q1 := zhx q1; have q2 := zhx q2; omega) | (simp only [zhx q1, zhx q2] at h3 h31 h36 ⊢ <;> omega))
        replace hM := zE_n hM (by first | (have q1 := zhx q1; have q2 := zhx q2; omega) | (simp only [zhx q1, zhx q2] at h3 h31 h36 ⊢ <;> omega))
        replace hM := zE_n hM (by first | (have q1 := zhx q1; have q2 := zhx q2; omega) | (simp only [zhx q1, zhx q2] at h3 h31 h36 ⊢ <;> omega))
        replace hM := zE_n hM (by first | (have q1 := zhx q1; have q2 := zhx q2; omega) | (simp only [zhx q1, zhx q2] at h3 h31 h36 ⊢ <;> omega))
        replace hM := zE_n hM (by first | (have q1 := zhx q1; have q2 := zhx q2; omega) | (simp only [zhx q1, zhx q2] at h3 h31 h36 ⊢ <;> omega))
        replace hM := zE_n hM (by first | (have q1 := zhx q1; have q2 := zhx q2; omega) | (simp only [zhx q1, zhx q2] at h3 h31 h36 ⊢ <;> omega))
        replace hM := zE_n hM (by first | (have q1 := zhx q1; have q2 := zhx q2; omega) | (simp only [zhx q1, zhx q2] at h3 h31 h36 ⊢ <;> omega))
        replace hM := zE_n hM (by first | (have q1 := zhx q1; have q2 := zhx q2; omega) | (simp only [zhx q1, zhx q2] at h3 h31 h36 ⊢ <;> omega))
        replace hM := zE_p hM (by first | (have q1 := zhx q1; have q2 := zhx q2; omega) | (simp only [zhx q1, zhx q2] at h3 h31 h36 ⊢ <;> omega))
        exact False.elim (by have q1 := zhx q1; have q2 := zhx q2; first | omega | grind)

/- face parcel_19 -/
theorem rf_parcel_19 {Z Y : qz_Z} {dm : qz_Z → Int → Int → Int → Int → Int → Int → Int → qz_Z} {a1 : Int} (hRa : zR 0 Z Y) (hV : zV Y) (hI : zI none Z) (hd : zDf dm) (hD1 : zD1 0 Z Y) (hD4 : zD4 0 Z Y) (hN1 : zN1 Y) (hN4 : zN4 Y) (hDs : zDs 0 Z Y) (hDw : zDw 0 Z Y) (hDl : zDl 0 Z Y)  {C : qz_Z × Int × Int} {M : qz_Z × Int} (hC : zE C (zx_226 Z a1 19)) (hM : zE M (zy_449 Y a1 19)) : zR 0 C.1 M.1 ∧ zV M.1 ∧ zDd [] [99999] Z Y dm C.1 M.1 ∧ zThr [(24, 1), (13, 2)] C.2 (M.1 1 0 0 2) M.2 := by
  have hRb := zRx_0 hRa
  have hF : zFc [] 0 Z Z := zFc_r
  have hG : yFr [99999] Y Y := yFr_r
  unfold zx_226 at hC
  unfold zy_449 at hM
  have q1 := zhd (zVr_11_6 (a := 2000) hV (by omega))
  have q2 := zhd ((zRl_11_6 (a := 2000) hRa (by omega)))
  rcases zE_c hC with ⟨h3, hC⟩ | ⟨h3, hC⟩
  · replace hC := zE_p hC (by first | (have q1 := zhx q1; have q2 := zhx q2; omega) | (simp only [zhx q1, zhx q2] at h3 ⊢ <;> omega))
    obtain ⟨v5, g4, hC⟩ := zl_x hC
    replace g4 : zE _ _ := g4
    unfold zf_36 at g4
    have q6 := zhd (zVr_47_9 (x := a1) (a := 2019 + 16 * a1) hV (by have q1 := zhx q1; have q2 := zhx q2; omega) (by have q1 := zhx q1; have q2 := zhx q2; omega) (by have q1 := zhx q1; have q2 := zhx q2; omega))
    have q7 := zhd ((zRl_47_9 (x := a1) (a := 2019 + 16 * a1) hRa (by have q1 := zhx q1; have q2 := zhx q2; omega) (by have q1 := zhx q1; have q2 := zhx q2; omega) (by have q1 := zhx q1; have q2 := zhx q2; omega)))
    rcases zE_c g4 with ⟨h8, g4⟩ | ⟨h8, g4⟩
    · replace g4 := zE_p g4 (by first | (have q1 := zhx q1; have q2 := zhx q2; have q6 := zhx q6; have q7 := zhx q7; omega) | (simp only [zhx q1, zhx q2, zhx q6, zhx q7] at h3 h8 ⊢ <;> omega))
      have q9 := zhd ((zRl_47_19 (x := a1) (a := 1810 + 2 * a1) hRa (by first | (omega) | (have q1 := zhx q1; have q2 := zhx q2; have q6 := zhx q6; have q7 := zhx q7; omega)) (by first | (omega) | (have q1 := zhx q1; have q2 := zhx q2; have q6 := zhx q6; have q7 := zhx q7; omega)) (by first | (omega) | (have q1 := zhx q1; have q2 := zhx q2; have q6 := zhx q6; have q7 := zhx q7; omega))))
      have e9 : (Z 47 0 a1 19) = v5 := Eq.symm g4
      subst e9
      replace hM := zE_n hM (by first | (have q1 := zhx q1; have q2 := zhx q2; have q6 := zhx q6; have q7 := zhx q7; omega) | (simp only [zhx q1, zhx q2, zhx q6, zhx q7] at h3 h8 ⊢ <;> omega))
      replace hM := zE_n hM (by first | (have q1 := zhx q1; have q2 := zhx q2; have q6 := zhx q6; have q7 := zhx q7; omega) | (simp only [zhx q1, zhx q2, zhx q6, zhx q7] at h3 h8 ⊢ <;> omega))
      obtain ⟨Ym10, hYm10, hM⟩ := zl_x hM
      have hR11 : zRx [] 0 Z Ym10 := zRx_o hRb hYm10 rfl
      have hV12 : zV Ym10 := zV_o hV hYm10 rfl
      have hG13 := yFr_o hG hYm10 rfl (.inr rfl) rfl
      replace hM := zE_n hM (by first | (have q1 := zhx q1; have q2 := zhx q2; have q6 := zhx q6; have q7 := zhx q7; omega) | (simp only [zhx q1, zhx q2, zhx q6, zhx q7] at h3 h8 ⊢ <;> omega))
      replace hM := zE_n hM (by first | (have q1 := zhx q1; have q2 := zhx q2; have q6 := zhx q6; have q7 := zhx q7; omega) | (simp only [zhx q1, zhx q2, zhx q6, zhx q7] at h3 h8 ⊢ <;> omega))
      obtain ⟨Ym14, hYm14, hM⟩ := zl_x hM
      have hR15 : zRx [] 0 Z Ym14 := zRx_o hR11 hYm14 rfl
      have hV16 : zV Ym14 := zV_o hV12 hYm14 rfl
      have hG17 := yFr_o hG13 hYm14 rfl (.inr rfl) rfl
      replace hM := zE_n hM (by first | (have q1 := zhx q1; have q2 := zhx q2; have q6 := zhx q6; have q7 := zhx q7; omega) | (simp only [zhx q1, zhx q2, zhx q6, zhx q7] at h3 h8 ⊢ <;> omega))
      replace hM := zE_n hM (by first | (have q1 := zhx q1; have q2 := zhx q2; have q6 := zhx q6; have q7 := zhx q7; omega) | (simp only [zhx q1, zhx q2, zhx q6, zhx q7] at h3 h8 ⊢ <;> omega))
      replace hM := zE_n hM (by first | (have q1 := zhx q1; have q2 := zhx q2; have q6 := zhx q6; have q7 := zhx q7; omega) | (simp only [zhx q1, zhx q2, zhx q6, zhx q7] at h3 h8 ⊢ <;> omega))
      replace hM := zE_n hM (by first | (have q1 := zhx q1; have q2 := zhx q2; have q6 := zhx q6; have q7 := zhx q7; omega) | (simp only [zhx q1, zhx q2, zhx q6, zhx q7] at h3 h8 ⊢ <;> omega))
      replace hM := zE_n hM (by first | (have q1 := zhx q1; have q2 := zhx q2; have q6 := zhx q6; have q7 := zhx q7; omega) | (simp only [zhx q1, zhx q2, zhx q6, zhx q7] at h3 h8 ⊢ <;> omega))
      replace hM := zE_n hM (by first | (have q1 := zhx q1; have q2 := zhx q2; have q6 := zhx q6; have q7 := zhx q7; omega) | (simp only [zhx q1, zhx q2, zhx q6, zhx q7] at h3 h8 ⊢ <;> omega))
      replace hM := zE_n hM (by first | (have q1 := zhx q1; have q2 := zhx q2; have q6 := zhx q6; have q7 := zhx q7; omega) | (simp only [zhx q1, zhx q2, zhx q6, zhx q7] at h3 h8 ⊢ <;> omega))
      replace hM := zE_n hM (by first | (have q1 := zhx q1; have q2 := zhx q2; have q6 := zhx q6; have q7 := zhx q7; omega) | (simp only [zhx q1, zhx q2, zhx q6, zhx q7] at h3 h8 ⊢ <;> omega))
      replace hM := zE_n hM (by first | (have q1 := zhx q1; have q2 := zhx q2; have q6 := zhx q6; have q7 := zhx q7; omega) | (simp only [zhx q1, zhx q2, zhx q6, zhx q7] at h3 h8 ⊢ <;> omega))
      replace hM := zE_p hM (by first | (have q1 := zhx q1; have q2 := zhx q2; have q6 := zhx q6; have q7 := zhx q7; omega) | (simp only [zhx q1, zhx q2, zhx q6, zhx q7] at h3 h8 ⊢ <;> omega))
      have th9 := (zu_at hYm14)
      have q18 := zhd (((zu_ne (k' := 2) (b' := 0) (i' := 0) (j' := 1810 + 2 * a1) hYm14 (fun q => absurd q.1 (by decide))).trans (zu_ne (k' := 2) (b' := 0) (i' := 0) (j' := 1810 + 2 * a1) hYm10 (fun q => absurd q.1 (by decide)))))
      obtain rfl : C = _ := hC
      obtain rfl : M = _ := hM
      exact ⟨zRx_1 hR15, hV16, ⟨Z, _, .inl ⟨rfl, yFr_w hG17 (by decide)⟩, zFc_r, yFr_r⟩, zThr_a th9 (by first | rfl | (have q1 := zhx q1; have q2 := zhx q2; have q6 := zhx q6; have q7 := zhx q7; have q9 := zhx q9; have q18 := zhx q18; omega) | (simp only [zhx q1, zhx q2, zhx q6, zhx q7, zhx q9, zhx q18] <;> omega) | (have q1 := zhx q1; have q2 := zhx q2; have q6 := zhx q6; have q7 := zhx q7; have q9 := zhx q9; have q18 := zhx q18; refine w3z ?_ ?_ ?_ <;> omega) | (have q1 := zhx q1; have q2 := zhx q2; have q6 := zhx q6; have q7 := zhx q7; have q9 := zhx q9; have q18 := zhx q18; refine w3y ?_ ?_ ?_ <;> omega) | (have q1 := zhx q1; have q2 := zhx q2; have q6 := zhx q6; have q7 := zhx q7; have q9 := zhx q9; have q18 := zhx q18; refine z2o ?_ ?_ ?_ <;> omega))⟩
    · replace g4 := zE_p g4 (by first | (have q1 := zhx q1; have q2 := zhx q2; have q6 := zhx q6; have q7 := zhx q7; omega) | (simp only [zhx q1, zhx q2, zhx q6, zhx q7] at h3 h8 ⊢ <;> omega))
      have q19 := zhd ((zRl_47_19 (x := a1) (a := 1810 + 2 * a1) hRa (by first | (omega) | (have q1 := zhx q1; have q2 := zhx q2; have q6 := zhx q6; have q7 := zhx q7; omega)) (by first | (omega) | (have q1 := zhx q1; have q2 := zhx q2; have q6 := zhx q6; have q7 := zhx q7; omega)) (by first | (omega) | (have q1 := zhx q1; have q2 := zhx q2; have q6 := zhx q6; have q7 := zhx q7; omega))))
      have e9 : (Z 47 0 a1 19) = v5 := Eq.symm g4
      subst e9
      replace hM := zE_n hM (by first | (have q1 := zhx q1; have q2 := zhx q2; have q6 := zhx q6; have q7 := zhx q7; omega) | (simp only [zhx q1, zhx q2, zhx q6, zhx q7] at h3 h8 ⊢ <;> omega))
      replace hM := zE_n hM (by first | (have q1 := zhx q1; have q2 := zhx q2; have q6 := zhx q6; have q7 := zhx q7; omega) | (simp only [zhx q1, zhx q2, zhx q6, zhx q7] at h3 h8 ⊢ <;> omega))
      obtain ⟨Ym20, hYm20, hM⟩ := zl_x hM
      have hR21 : zRx [] 0 Z Ym20 := zRx_o hRb hYm20 rfl
      have hV22 : zV Ym20 := zV_o hV hYm20 rfl
      have hG23 := yFr_o hG hYm20 rfl (.inr rfl) rfl
      replace hM := zE_n hM (by first | (have q1 := zhx q1; have q2 := zhx q2; have q6 := zhx q6; have q7 := zhx q7; omega) | (simp only [zhx q1, zhx q2, zhx q6, zhx q7] at h3 h8 ⊢ <;> omega))
      replace hM := zE_n hM (by first | (have q1 := zhx q1; have q2 := zhx q2; have q6 := zhx q6; have q7 := zhx q7; omega) | (simp only [zhx q1, zhx q2, zhx q6, zhx q7] at h3 h8 ⊢ <;> omega))
      obtain ⟨Ym24, hYm24, hM⟩ := zl_x hM
      have hR25 : zRx [] 0 Z Ym24 := zRx_o hR21 hYm24 rfl
      have hV26 : zV Ym24 := zV_o hV22 hYm24 rfl
      have hG27 := yFr_o hG23 hYm24 rfl (.inr rfl) rfl
      replace hM := zE_n hM (by first | (have q1 := zhx q1; have q2 := zhx q2; have q6 := zhx q6; have q7 := zhx q7; omega) | (simp only [zhx q1, zhx q2, zhx q6, zhx q7] at h3 h8 ⊢ <;> omega))
      replace hM := zE_n hM (by first | (have q1 := zhx q1; have q2 := zhx q2; have q6 := zhx q6; have q7 := zhx q7; omega) | (simp only [zhx q1, zhx q2, zhx q6, zhx q7] at h3 h8 ⊢ <;> omega))
      replace hM := zE_n hM (by first | (have q1 := zhx q1; have q2 := zhx q2; have q6 := zhx q6; have q7 := zhx q7; omega) | (simp only [zhx q1, zhx q2, zhx q6, zhx q7] at h3 h8 ⊢ <;> omega))
      replace hM := zE_n hM (by first | (have q1 := zhx q1; have q2 := zhx q2; have q6 := zhx q6; have q7 := zhx q7; omega) | (simp only [zhx q1, zhx q2, zhx q6, zhx q7] at h3 h8 ⊢ <;> omega))
      replace hM := zE_n hM (by first | (have q1 := zhx q1; have q2 := zhx q2; have q6 := zhx q6; have q7 := zhx q7; omega) | (simp only [zhx q1, zhx q2, zhx q6, zhx q7] at h3 h8 ⊢ <;> omega))
      replace hM := zE_n hM (by first | (have q1 := zhx q1; have q2 := zhx q2; have q6 := zhx q6; have q7 := zhx q7; omega) | (simp only [zhx q1, zhx q2, zhx q6, zhx q7] at h3 h8 ⊢ <;> omega))
      replace hM := zE_n hM (by first | (have q1 := zhx q1; have q2 := zhx q2; have q6 := zhx q6; have q7 := zhx q7; omega) | (simp only [zhx q1, zhx q2, zhx q6, zhx q7] at h3 h8 ⊢ <;> omega))
      replace hM := zE_n hM (by first | (have q1 := zhx q1; have q2 := zhx q2; have q6 := zhx q6; have q7 := zhx q7; omega) | (simp only [zhx q1, zhx q2, zhx q6, zhx q7] at h3 h8 ⊢ <;> omega))
      replace hM := zE_n hM (by first | (have q1 := zhx q1; have q2 := zhx q2; have q6 := zhx q6; have q7 := zhx q7; omega) | (simp only [zhx q1, zhx q2, zhx q6, zhx q7] at h3 h8 ⊢ <;> omega))
      replace hM := zE_p hM (by first | (have q1 := zhx q1; have q2 := zhx q2; have q6 := zhx q6; have q7 := zhx q7; omega) | (simp only [zhx q1, zhx q2, zhx q6, zhx q7] at h3 h8 ⊢ <;> omega))
      have th9 := (zu_at hYm24)
      have q28 := zhd (((zu_ne (k' := 2) (b' := 0) (i' := 0) (j' := 1810 + 2 * a1) hYm24 (fun q => absurd q.1 (by decide))).trans (zu_ne (k' := 2) (b' := 0) (i' := 0) (j' := 1810 + 2 * a1) hYm20 (fun q => absurd q.1 (by decide)))))
      obtain rfl : C = _ := hC
      obtain rfl : M = _ := hM
      exact ⟨zRx_1 hR25, hV26, ⟨Z, _, .inl ⟨rfl, yFr_w hG27 (by decide)⟩, zFc_r, yFr_r⟩, zThr_a th9 (by first | rfl | (have q1 := zhx q1; have q2 := zhx q2; have q6 := zhx q6; have q7 := zhx q7; have q19 := zhx q19; have q28 := zhx q28; omega) | (simp only [zhx q1, zhx q2, zhx q6, zhx q7, zhx q19, zhx q28] <;> omega) | (have q1 := zhx q1; have q2 := zhx q2; have q6 := zhx q6; have q7 := zhx q7; have q19 := zhx q19; have q28 := zhx q28; refine w3z ?_ ?_ ?_ <;> omega) | (have q1 := zhx q1; have q2 := zhx q2; have q6 := zhx q6; have q7 := zhx q7; have q19 := zhx q19; have q28 := zhx q28; refine w3y ?_ ?_ ?_ <;> omega) | (have q1 := zhx q1; have q2 := zhx q2; have q6 := zhx q6; have q7 := zhx q7; have q19 := zhx q19; have q28 := zhx q28; refine z2o ?_ ?_ ?_ <;> omega))⟩
  · rcases zE_c hM with ⟨h29, hM⟩ | ⟨h29, hM⟩
    · obtain ⟨Ym30, hYm30, hM⟩ := zl_x hM
      have hR31 : zRx [] 0 Z Ym30 := zRx_o hRb hYm30 rfl
      have hV32 : zV Ym30 := zV_o hV hYm30 rfl
      have hG33 := yFr_o hG hYm30 rfl (.inr rfl) rfl
      have th9 := (zu_at hYm30)
      obtain rfl : C = _ := hC
      obtain rfl : M = _ := hM
      exact ⟨zRx_1 hR31, hV32, ⟨Z, _, .inl ⟨rfl, yFr_w hG33 (by decide)⟩, zFc_r, yFr_r⟩, zThr_e th9 (by decide)⟩
    · rcases zE_c hM with ⟨h34, hM⟩ | ⟨h34, hM⟩
      · obtain ⟨Ym35, hYm35, hM⟩ := zl_x hM
        have hR36 : zRx [] 0 Z Ym35 := zRx_o hRb hYm35 rfl
        have hV37 : zV Ym35 := zV_o hV hYm35 rfl
        have hG38 := yFr_o hG hYm35 rfl (.inr rfl) rfl
        have th9 := (zu_at hYm35)
        obtain rfl : C = _ := hC
        obtain rfl : M = _ := hM
        exact ⟨zRx_1 hR36, hV37, ⟨Z, _, .inl ⟨rfl, yFr_w hG38 (by decide)⟩, zFc_r, yFr_r⟩, zThr_e th9 (by decide)⟩
      · obtain ⟨Ym39, hYm39, hM⟩ := zl_x hM
        have hR40 : zRx [] 0 Z Ym39 := zRx_o hRb hYm39 rfl
        have hV41 : zV Ym39 := zV_o hV hYm39 rfl
        have hG42 := yFr_o hG hYm39 rfl (.inr rfl) rfl
        replace hM := zE_n hM (by first | (have q1 := zhx q1; have q2 := zhx q2; omega) | (simp only [zhx q1, zhx q2] at h3 h29 h34 ⊢ <;> omega))
        replace hM := zE_n hM (by first | (have q1 := zhx q1; have q2 := zhx q2; omega) | (simp only [zhx q1, zhx q2] at h3 h29 h34 ⊢ <;> omega))
        obtain ⟨Ym43, hYm43, hM⟩ := zl_x hM
        have hR44 : zRx [] 0 Z Ym43 := zRx_o hR40 hYm43 rfl
        have hV45 : zV Ym43 := zV_o hV41 hYm43 rfl
        have hG46 := yFr_o hG42 hYm43 rfl (.inr rfl) rfl
        replace hM := zE_n hM (by first | (have q1 := zhx q1; have q2 := zhx q2; omega) | (simp only [zhx q1, zhx q2] at h3 h29 h34 ⊢ <;> omega))
        replace hM := zE_n hM (by first | (have q1 := zhx q1; have q2 := zhx q2; omega) | (simp only [zhx q1, zhx q2] at h3 h29 h34 ⊢ <;> omega))
        replace hM := zE_n hM (by first | (have q1 := zhx q1; have q2 := zhx q2; omega) | (simp only [zhx q1, zhx q2] at h3 h29 h34 ⊢ <;> omega))
        replace hM := zE_n hM (by first | (have q1 := zhx q1; have q2 := zhx q2; omega) | (simp only [zhx q1, zhx q2] at h3 h29 h34 ⊢ <;> omega))
        replace hM := zE_n hM (by first | (have q1 := zhx q1; have q2 := zhx q2; omega) | (simp only [zhx q1, zhx q2] at h3 h29 h34 ⊢ <;> omega))
        replace hM := zE_n hM (by first | (have q1 := zhx q1; have q2 := zhx q2; omega) | (simp only [zhx q1, zhx q2] at h3 h29 h34 ⊢ <;> omega))
        replace hM := zE_n hM (by first | (have q1 := zhx q1; have q2 := zhx q2; omega) | (simp only [zhx q1, zhx q2] at h3 h29 h34 ⊢ <;> omega))
        replace hM := zE_n hM (by first | (have q1 := zhx q1; have q2 := zhx q2; omega) | (simp only [zhx q1, zhx q2] at h3 h29 h34 ⊢ <;> omega))
        replace hM := zE_n hM (by first | (have q1 := zhx q1; have q2 := zhx q2; omega) | (simp only [zhx q1, zhx q2] at h3 h29 h34 ⊢ <;> omega))
        replace hM := zE_p hM (by first | (have q1 := zhx q1; have q2 := zhx q2; omega) | (simp only [zhx q1, zhx q2] at h3 h29 h34 ⊢ <;> omega))
        exact False.elim (by have q1 := zhx q1; have q2 := zhx q2; first | omega | grind)

/- face parcel_20 -/
theorem rf_parcel_20 {Z Y : qz_Z} {dm : qz_Z → Int → Int → Int → Int → Int → Int → Int → qz_Z} {a1 : Int} (hRa : zR 0 Z Y) (hV : zV Y) (hI : zI none Z) (hd : zDf dm) (hD1 : zD1 0 Z Y) (hD4 : zD4 0 Z Y) (hN1 : zN1 Y) (hN4 : zN4 Y) (hDs : zDs 0 Z Y) (hDw : zDw 0 Z Y) (hDl : zDl 0 Z Y)  {C : qz_Z × Int × Int} {M : qz_Z × Int} (hC : zE C (zx_226 Z a1 20)) (hM : zE M (zy_449 Y a1 20)) : zR 0 C.1 M.1 ∧ zV M.1 ∧ zDd [] [99999] Z Y dm C.1 M.1 ∧ zThr [(24, 1), (13, 2)] C.2 (M.1 1 0 0 2) M.2 := by
  have hRb := zRx_0 hRa
  have hF : zFc [] 0 Z Z := zFc_r
  have hG : yFr [99999] Y Y := yFr_r
  unfold zx_226 at hC
  unfold zy_449 at hM
  have q1 := zhd (zVr_11_6 (a := 2000) hV (by omega))
  have q2 := zhd ((zRl_11_6 (a := 2000) hRa (by omega)))
  rcases zE_c hC with ⟨h3, hC⟩ | ⟨h3, hC⟩
  · replace hC := zE_p hC (by first | (have q1 := zhx q1; have q2 := zhx q2; omega) | (simp only [zhx q1, zhx q2] at h3 ⊢ <;> omega))
    obtain ⟨v5, g4, hC⟩ := zl_x hC
    replace g4 : zE _ _ := g4
    unfold zf_36 at g4
    have q6 := zhd (zVr_47_9 (x := a1) (a := 2019 + 16 * a1) hV (by have q1 := zhx q1; have q2 := zhx q2; omega) (by have q1 := zhx q1; have q2 := zhx q2; omega) (by have q1 := zhx q1; have q2 := zhx q2; omega))
    have q7 := zhd ((zRl_47_9 (x := a1) (a := 2019 + 16 * a1) hRa (by have q1 := zhx q1; have q2 := zhx q2; omega) (by have q1 := zhx q1; have q2 := zhx q2; omega) (by have q1 := zhx q1; have q2 := zhx q2; omega)))
    rcases zE_c g4 with ⟨h8, g4⟩ | ⟨h8, g4⟩
    · replace g4 := zE_p g4 (by first | (have q1 := zhx q1; have q2 := zhx q2; have q6 := zhx q6; have q7 := zhx q7; omega) | (simp only [zhx q1, zhx q2, zhx q6, zhx q7] at h3 h8 ⊢ <;> omega))
      have q9 := zhd ((zRl_47_20 (x := a1) (a := 1811 + 2 * a1) hRa (by first | (omega) | (have q1 := zhx q1; have q2 := zhx q2; have q6 := zhx q6; have q7 := zhx q7; omega)) (by first | (omega) | (have q1 := zhx q1; have q2 := zhx q2; have q6 := zhx q6; have q7 := zhx q7; omega)) (by first | (omega) | (have q1 := zhx q1; have q2 := zhx q2; have q6 := zhx q6; have q7 := zhx q7; omega))))
      have e9 : (Z 47 0 a1 20) = v5 := Eq.symm g4
      subst e9
      replace hM := zE_n hM (by first | (have q1 := zhx q1; have q2 := zhx q2; have q6 := zhx q6; have q7 := zhx q7; omega) | (simp only [zhx q1, zhx q2, zhx q6, zhx q7] at h3 h8 ⊢ <;> omega))
      replace hM := zE_n hM (by first | (have q1 := zhx q1; have q2 := zhx q2; have q6 := zhx q6; have q7 := zhx q7; omega) | (simp only [zhx q1, zhx q2, zhx q6, zhx q7] at h3 h8 ⊢ <;> omega))
      obtain ⟨Ym10, hYm10, hM⟩ := zl_x hM
      have hR11 : zRx [] 0 Z Ym10 := zRx_o hRb hYm10 rfl
      have hV12 : zV Ym10 := zV_o hV hYm10 rfl
      have hG13 := yFr_o hG hYm10 rfl (.inr rfl) rfl
      replace hM := zE_n hM (by first | (have q1 := zhx q1; have q2 := zhx q2; have q6 := zhx q6; have q7 := zhx q7; omega) | (simp only [zhx q1, zhx q2, zhx q6, zhx q7] at h3 h8 ⊢ <;> omega))
      replace hM := zE_n hM (by first | (have q1 := zhx q1; have q2 := zhx q2; have q6 := zhx q6; have q7 := zhx q7; omega) | (simp only [zhx q1, zhx q2, zhx q6, zhx q7] at h3 h8 ⊢ <;> omega))
      obtain ⟨Ym14, hYm14, hM⟩ := zl_x hM
      have hR15 : zRx [] 0 Z Ym14 := zRx_o hR11 hYm14 rfl
      have hV16 : zV Ym14 := zV_o hV12 hYm14 rfl
      have hG17 := yFr_o hG13 hYm14 rfl (.inr rfl) rfl
      replace hM := zE_n hM (by first | (have q1 := zhx q1; have q2 := zhx q2; have q6 := zhx q6; have q7 := zhx q7; omega) | (simp only [zhx q1, zhx q2, zhx q6, zhx q7] at h3 h8 ⊢ <;> omega))
      replace hM := zE_n hM (by first | (have q1 := zhx q1; have q2 := zhx q2; have q6 := zhx q6; have q7 := zhx q7; omega) | (simp only [zhx q1, zhx q2, zhx q6, zhx q7] at h3 h8 ⊢ <;> omega))
      replace hM := zE_n hM (by first | (have q1 := zhx q1; have q2 := zhx q2; have q6 := zhx q6; have q7 := zhx q7; omega) | (simp only [zhx q1, zhx q2, zhx q6, zhx q7] at h3 h8 ⊢ <;> omega))
      replace hM := zE_n hM (by first | (have q1 := zhx q1; have q2 := zhx q2; have q6 := zhx q6; have q7 := zhx q7; omega) | (simp only [zhx q1, zhx q2, zhx q6, zhx q7] at h3 h8 ⊢ <;> omega))
      replace hM := zE_n hM (by first | (have q1 := zhx q1; have q2 := zhx q2; have q6 := zhx q6; have q7 := zhx q7; omega) | (simp only [zhx q1, zhx q2, zhx q6, zhx q7] at h3 h8 ⊢ <;> omega))
      replace hM := zE_n hM (by first | (have q1 := zhx q1; have q2 := zhx q2; have q6 := zhx q6; have q7 := zhx q7; omega) | (simp only [zhx q1, zhx q2, zhx q6, zhx q7] at h3 h8 ⊢ <;> omega))
      replace hM := zE_n hM (by first | (have q1 := zhx q1; have q2 := zhx q2; have q6 := zhx q6; have q7 := zhx q7; omega) | (simp only [zhx q1, zhx q2, zhx q6, zhx q7] at h3 h8 ⊢ <;> omega))
      replace hM := zE_n hM (by first | (have q1 := zhx q1; have q2 := zhx q2; have q6 := zhx q6; have q7 := zhx q7; omega) | (simp only [zhx q1, zhx q2, zhx q6, zhx q7] at h3 h8 ⊢ <;> omega))
      replace hM := zE_n hM (by first | (have q1 := zhx q1; have q2 := zhx q2; have q6 := zhx q6; have q7 := zhx q7; omega) | (simp only [zhx q1, zhx q2, zhx q6, zhx q7] at h3 h8 ⊢ <;> omega))
      replace hM := zE_n hM (by first | (have q1 := zhx q1; have q2 := zhx q2; have q6 := zhx q6; have q7 := zhx q7; omega) | (simp only [zhx q1, zhx q2, zhx q6, zhx q7] at h3 h8 ⊢ <;> omega))
      have th9 := (zu_at hYm14)
      have q18 := zhd (((zu_ne (k' := 2) (b' := 0) (i' := 0) (j' := 1811 + 2 * a1) hYm14 (fun q => absurd q.1 (by decide))).trans (zu_ne (k' := 2) (b' := 0) (i' := 0) (j' := 1811 + 2 * a1) hYm10 (fun q => absurd q.1 (by decide)))))
      obtain rfl : C = _ := hC
      obtain rfl : M = _ := hM
      exact ⟨zRx_1 hR15, hV16, ⟨Z, _, .inl ⟨rfl, yFr_w hG17 (by decide)⟩, zFc_r, yFr_r⟩, zThr_a th9 (by first | rfl | (have q1 := zhx q1; have q2 := zhx q2; have q6 := zhx q6; have q7 := zhx q7; have q9 := zhx q9; have q18 := zhx q18; omega) | (simp only [zhx q1, zhx q2, zhx q6, zhx q7, zhx q9, zhx q18] <;> omega) | (have q1 := zhx q1; have q2 := zhx q2; have q6 := zhx q6; have q7 := zhx q7; have q9 := zhx q9; have q18 := zhx q18; refine w3z ?_ ?_ ?_ <;> omega) | (have q1 := zhx q1; have q2 := zhx q2; have q6 := zhx q6; have q7 := zhx q7; have q9 := zhx q9; have q18 := zhx q18; refine w3y ?_ ?_ ?_ <;> omega) | (have q1 := zhx q1; have q2 := zhx q2; have q6 := zhx q6; have q7 := zhx q7; have q9 := zhx q9; have q18 := zhx q18; refine z2o ?_ ?_ ?_ <;> omega))⟩
    · replace g4 := zE_p g4 (by first | (have q1 := zhx q1; have q2 := zhx q2; have q6 := zhx q6; have q7 := zhx q7; omega) | (simp only [zhx q1, zhx q2, zhx q6, zhx q7] at h3 h8 ⊢ <;> omega))
      have q19 := zhd ((zRl_47_20 (x := a1) (a := 1811 + 2 * a1) hRa (by first | (omega) | (have q1 := zhx q1; have q2 := zhx q2; have q6 := zhx q6; have q7 := zhx q7; omega)) (by first | (omega) | (have q1 := zhx q1; have q2 := zhx q2; have q6 := zhx q6; have q7 := zhx q7; omega)) (by first | (omega) | (have q1 := zhx q1; have q2 := zhx q2; have q6 := zhx q6; have q7 := zhx q7; omega))))
      have e9 : (Z 47 0 a1 20) = v5 := Eq.symm g4
      subst e9
      replace hM := zE_n hM (by first | (have q1 := zhx q1; have q2 := zhx q2; have q6 := zhx q6; have q7 := zhx q7; omega) | (simp only [zhx q1, zhx q2, zhx q6, zhx q7] at h3 h8 ⊢ <;> omega))
      replace hM := zE_n hM (by first | (have q1 := zhx q1; have q2 := zhx q2; have q6 := zhx q6; have q7 := zhx q7; omega) | (simp only [zhx q1, zhx q2, zhx q6, zhx q7] at h3 h8 ⊢ <;> omega))
      obtain ⟨Ym20, hYm20, hM⟩ := zl_x hM
      have hR21 : zRx [] 0 Z Ym20 := zRx_o hRb hYm20 rfl
      have hV22 : zV Ym20 := zV_o hV hYm20 rfl
      have hG23 := yFr_o hG hYm20 rfl (.inr rfl) rfl
      replace hM := zE_n hM (by first | (have q1 := zhx q1; have q2 := zhx q2; have q6 := zhx q6; have q7 := zhx q7; omega) | (simp only [zhx q1, zhx q2, zhx q6, zhx q7] at h3 h8 ⊢ <;> omega))
      replace hM := zE_n hM (by first | (have q1 := zhx q1; have q2 := zhx q2; have q6 := zhx q6; have q7 := zhx q7; omega) | (simp only [zhx q1, zhx q2, zhx q6, zhx q7] at h3 h8 ⊢ <;> omega))
      obtain ⟨Ym24, hYm24, hM⟩ := zl_x hM
      have hR25 : zRx [] 0 Z Ym24 := zRx_o hR21 hYm24 rfl
      have hV26 : zV Ym24 := zV_o hV22 hYm24 rfl
      have hG27 := yFr_o hG23 hYm24 rfl (.inr rfl) rfl
      replace hM := zE_n hM (by first | (have q1 := zhx q1; have q2 := zhx q2; have q6 := zhx q6; have q7 := zhx q7; omega) | (simp only [zhx q1, zhx q2, zhx q6, zhx q7] at h3 h8 ⊢ <;> omega))
      replace hM := zE_n hM (by first | (have q1 := zhx q1; have q2 := zhx q2; have q6 := zhx q6; have q7 := zhx q7; omega) | (simp only [zhx q1, zhx q2, zhx q6, zhx q7] at h3 h8 ⊢ <;> omega))
      replace hM := zE_n hM (by first | (have q1 := zhx q1; have q2 := zhx q2; have q6 := zhx q6; have q7 := zhx q7; omega) | (simp only [zhx q1, zhx q2, zhx q6, zhx q7] at h3 h8 ⊢ <;> omega))
      replace hM := zE_n hM (by first | (have q1 := zhx q1; have q2 := zhx q2; have q6 := zhx q6; have q7 := zhx q7; omega) | (simp only [zhx q1, zhx q2, zhx q6, zhx q7] at h3 h8 ⊢ <;> omega))
      replace hM := zE_n hM (by first | (have q1 := zhx q1; have q2 := zhx q2; have q6 := zhx q6; have q7 := zhx q7; omega) | (simp only [zhx q1, zhx q2, zhx q6, zhx q7] at h3 h8 ⊢ <;> omega))
      replace hM := zE_n hM (by first | (have q1 := zhx q1; have q2 := zhx q2; have q6 := zhx q6; have q7 := zhx q7; omega) | (simp only [zhx q1, zhx q2, zhx q6, zhx q7] at h3 h8 ⊢ <;> omega))
      replace hM := zE_n hM (by first | (have q1 := zhx q1; have q2 := zhx q2; have q6 := zhx q6; have q7 := zhx q7; omega) | (simp only [zhx q1, zhx q2, zhx q6, zhx q7] at h3 h8 ⊢ <;> omega))
      replace hM := zE_n hM (by first | (have q1 := zhx q1; have q2 := zhx q2; have q6 := zhx q6; have q7 := zhx q7; omega) | (simp only [zhx q1, zhx q2, zhx q6, zhx q7] at h3 h8 ⊢ <;> omega))
      replace hM := zE_n hM (by first | (have q1 := zhx q1; have q2 := zhx q2; have q6 := zhx q6; have q7 := zhx q7; omega) | (simp only [zhx q1, zhx q2, zhx q6, zhx q7] at h3 h8 ⊢ <;> omega))
      replace hM := zE_n hM (by first | (have q1 := zhx q1; have q2 := zhx q2; have q6 := zhx q6; have q7 := zhx q7; omega) | (simp only [zhx q1, zhx q2, zhx q6, zhx q7] at h3 h8 ⊢ <;> omega))
      have th9 := (zu_at hYm24)
      have q28 := zhd (((zu_ne (k' := 2) (b' := 0) (i' := 0) (j' := 1811 + 2 * a1) hYm24 (fun q => absurd q.1 (by decide))).trans (zu_ne (k' := 2) (b' := 0) (i' := 0) (j' := 1811 + 2 * a1) hYm20 (fun q => absurd q.1 (by decide)))))
      obtain rfl : C = _ := hC
      obtain rfl : M = _ := hM
      exact ⟨zRx_1 hR25, hV26, ⟨Z, _, .inl ⟨rfl, yFr_w hG27 (by decide)⟩, zFc_r, yFr_r⟩, zThr_a th9 (by first | rfl | (have q1 := zhx q1; have q2 := zhx q2; have q6 := zhx q6; have q7 := zhx q7; have q19 := zhx q19; have q28 := zhx q28; omega) | (simp only [zhx q1, zhx q2, zhx q6, zhx q7, zhx q19, zhx q28] <;> omega) | (have q1 := zhx q1; have q2 := zhx q2; have q6 := zhx q6; have q7 := zhx q7; have q19 := zhx q19; have q28 := zhx q28; refine w3z ?_ ?_ ?_ <;> omega) | (have q1 := zhx q1; have q2 := zhx q2; have q6 := zhx q6; have q7 := zhx q7; have q19 := zhx q19; have q28 := zhx q28; refine w3y ?_ ?_ ?_ <;> omega) | (have q1 := zhx q1; have q2 := zhx q2; have q6 := zhx q6; have q7 := zhx q7; have q19 := zhx q19; have q28 := zhx q28; refine z2o ?_ ?_ ?_ <;> omega))⟩
  · rcases zE_c hM with ⟨h29, hM⟩ | ⟨h29, hM⟩
    · obtain ⟨Ym30, hYm30, hM⟩ := zl_x hM
      have hR31 : zRx [] 0 Z Ym30 := zRx_o hRb hYm30 rfl
      have hV32 : zV Ym30 := zV_o hV hYm30 rfl
      have hG33 := yFr_o hG hYm30 rfl (.inr rfl) rfl
      have th9 := (zu_at hYm30)
      obtain rfl : C = _ := hC
      obtain rfl : M = _ := hM
      exact ⟨zRx_1 hR31, hV32, ⟨Z, _, .inl ⟨rfl, yFr_w hG33 (by decide)⟩, zFc_r, yFr_r⟩, zThr_e th9 (by decide)⟩
    · rcases zE_c hM with ⟨h34, hM⟩ | ⟨h34, hM⟩
      · obtain ⟨Ym35, hYm35, hM⟩ := zl_x hM
        have hR36 : zRx [] 0 Z Ym35 := zRx_o hRb hYm35 rfl
        have hV37 : zV Ym35 := zV_o hV hYm35 rfl
        have hG38 := yFr_o hG hYm35 rfl (.inr rfl) rfl
        have th9 := (zu_at hYm35)
        obtain rfl : C = _ := hC
        obtain rfl : M = _ := hM
        exact ⟨zRx_1 hR36, hV37, ⟨Z, _, .inl ⟨rfl, yFr_w hG38 (by decide)⟩, zFc_r, yFr_r⟩, zThr_e th9 (by decide)⟩
      · obtain ⟨Ym39, hYm39, hM⟩ := zl_x hM
        have hR40 : zRx [] 0 Z Ym39 := zRx_o hRb hYm39 rfl
        have hV41 : zV Ym39 := zV_o hV hYm39 rfl
        have hG42 := yFr_o hG hYm39 rfl (.inr rfl) rfl
        replace hM := zE_n hM (by first | (have q1 := zhx q1; have q2 := zhx q2; omega) | (simp only [zhx q1, zhx q2] at h3 h29 h34 ⊢ <;> omega))
        replace hM := zE_n hM (by first | (have q1 := zhx q1; have q2 := zhx q2; omega) | (simp only [zhx q1, zhx q2] at h3 h29 h34 ⊢ <;> omega))
        obtain ⟨Ym43, hYm43, hM⟩ := zl_x hM
        have hR44 : zRx [] 0 Z Ym43 := zRx_o hR40 hYm43 rfl
        have hV45 : zV Ym43 := zV_o hV41 hYm43 rfl
        have hG46 := yFr_o hG42 hYm43 rfl (.inr rfl) rfl
        replace hM := zE_n hM (by first | (have q1 := zhx q1; have q2 := zhx q2; omega) | (simp only [zhx q1, zhx q2] at h3 h29 h34 ⊢ <;> omega))
        replace hM := zE_n hM (by first | (have q1 := zhx q1; have q2 := zhx q2; omega) | (simp only [zhx q1, zhx q2] at h3 h29 h34 ⊢ <;> omega))
        replace hM := zE_n hM (by first | (have q1 := zhx q1; have q2 := zhx q2; omega) | (simp only [zhx q1, zhx q2] at h3 h29 h34 ⊢ <;> omega))
        replace hM := zE_n hM (by first | (have q1 := zhx q1; have q2 := zhx q2; omega) | (simp only [zhx q1, zhx q2] at h3 h29 h34 ⊢ <;> omega))
        replace hM := zE_n hM (by first | (have q1 := zhx q1; have q2 := zhx q2; omega) | (simp only [zhx q1, zhx q2] at h3 h29 h34 ⊢ <;> omega))
        replace hM := zE_n hM (by first | (have q1 := zhx q1; have q2 := zhx q2; omega) | (simp only [zhx q1, zhx q2] at h3 h29 h34 ⊢ <;> omega))
        replace hM := zE_n hM (by first | (have q1 := zhx q1; have q2 := zhx q2; omega) | (simp only [zhx q1, zhx q2] at h3 h29 h34 ⊢ <;> omega))
        replace hM := zE_n hM (by first | (have q1 := zhx q1; have q2 := zhx q2; omega) | (simp only [zhx q1, zhx q2] at h3 h29 h34 ⊢ <;> omega))
        replace hM := zE_n hM (by first | (have q1 := zhx q1; have q2 := zhx q2; omega) | (simp only [zhx q1, zhx q2] at h3 h29 h34 ⊢ <;> omega))
        replace hM := zE_n hM (by first | (have q1 := zhx q1; have q2 := zhx q2; omega) | (simp only [zhx q1, zhx q2] at h3 h29 h34 ⊢ <;> omega))
        exact False.elim (by have q1 := zhx q1; have q2 := zhx q2; first | omega | grind)

/- face parcel_l -/
theorem rf_parcel_l {Z Y : qz_Z} {dm : qz_Z → Int → Int → Int → Int → Int → Int → Int → qz_Z} {a1 a2 : Int} (hRa : zR 0 Z Y) (hV : zV Y) (hI : zI none Z) (hd : zDf dm) (hD1 : zD1 0 Z Y) (hD4 : zD4 0 Z Y) (hN1 : zN1 Y) (hN4 : zN4 Y) (hDs : zDs 0 Z Y) (hDw : zDw 0 Z Y) (hDl : zDl 0 Z Y) (e0 : a2 < 0) {C : qz_Z × Int × Int} {M : qz_Z × Int} (hC : zE C (zx_226 Z a1 a2)) (hM : zE M (zy_449 Y a1 a2)) : zR 0 C.1 M.1 ∧ zV M.1 ∧ zDd [] [99999] Z Y dm C.1 M.1 ∧ zThr [(24, 1), (13, 2)] C.2 (M.1 1 0 0 2) M.2 := by
  have hRb := zRx_0 hRa
  have hF : zFc [] 0 Z Z := zFc_r
  have hG : yFr [99999] Y Y := yFr_r
  unfold zx_226 at hC
  unfold zy_449 at hM
  have q1 := zhd (zVr_11_6 (a := 2000) hV (by omega))
  have q2 := zhd ((zRl_11_6 (a := 2000) hRa (by omega)))
  rcases zE_c hC with ⟨h3, hC⟩ | ⟨h3, hC⟩
  · replace hC := zE_n hC (by first | (have q1 := zhx q1; have q2 := zhx q2; omega) | (simp only [zhx q1, zhx q2] at h3 ⊢ <;> omega))
    replace hM := zE_n hM (by first | (have q1 := zhx q1; have q2 := zhx q2; omega) | (simp only [zhx q1, zhx q2] at h3 ⊢ <;> omega))
    replace hM := zE_n hM (by first | (have q1 := zhx q1; have q2 := zhx q2; omega) | (simp only [zhx q1, zhx q2] at h3 ⊢ <;> omega))
    obtain ⟨Ym4, hYm4, hM⟩ := zl_x hM
    have hR5 : zRx [] 0 Z Ym4 := zRx_o hRb hYm4 rfl
    have hV6 : zV Ym4 := zV_o hV hYm4 rfl
    have hG7 := yFr_o hG hYm4 rfl (.inr rfl) rfl
    replace hM := zE_p hM (by first | (have q1 := zhx q1; have q2 := zhx q2; omega) | (simp only [zhx q1, zhx q2] at h3 ⊢ <;> omega))
    obtain ⟨Ym8, hYm8, hM⟩ := zl_x hM
    have hR9 : zRx [] 0 Z Ym8 := zRx_o hR5 hYm8 rfl
    have hV10 : zV Ym8 := zV_o hV6 hYm8 rfl
    have hG11 := yFr_o hG7 hYm8 rfl (.inr rfl) rfl
    have th9 := (zu_at hYm8)
    obtain rfl : C = _ := hC
    obtain rfl : M = _ := hM
    exact ⟨zRx_1 hR9, hV10, ⟨Z, _, .inl ⟨rfl, yFr_w hG11 (by decide)⟩, zFc_r, yFr_r⟩, zThr_e th9 (by decide)⟩
  · rcases zE_c hM with ⟨h12, hM⟩ | ⟨h12, hM⟩
    · obtain ⟨Ym13, hYm13, hM⟩ := zl_x hM
      have hR14 : zRx [] 0 Z Ym13 := zRx_o hRb hYm13 rfl
      have hV15 : zV Ym13 := zV_o hV hYm13 rfl
      have hG16 := yFr_o hG hYm13 rfl (.inr rfl) rfl
      have th9 := (zu_at hYm13)
      obtain rfl : C = _ := hC
      obtain rfl : M = _ := hM
      exact ⟨zRx_1 hR14, hV15, ⟨Z, _, .inl ⟨rfl, yFr_w hG16 (by decide)⟩, zFc_r, yFr_r⟩, zThr_e th9 (by decide)⟩
    · rcases zE_c hM with ⟨h17, hM⟩ | ⟨h17, hM⟩
      · obtain ⟨Ym18, hYm18, hM⟩ := zl_x hM
        have hR19 : zRx [] 0 Z Ym18 := zRx_o hRb hYm18 rfl
        have hV20 : zV Ym18 := zV_o hV hYm18 rfl
        have hG21 := yFr_o hG hYm18 rfl (.inr rfl) rfl
        have th9 := (zu_at hYm18)
        obtain rfl : C = _ := hC
        obtain rfl : M = _ := hM
        exact ⟨zRx_1 hR19, hV20, ⟨Z, _, .inl ⟨rfl, yFr_w hG21 (by decide)⟩, zFc_r, yFr_r⟩, zThr_e th9 (by decide)⟩
      · obtain ⟨Ym22, hYm22, hM⟩ := zl_x hM
        have hR23 : zRx [] 0 Z Ym22 := zRx_o hRb hYm22 rfl
        have hV24 : zV Ym22 := zV_o hV hYm22 rfl
        have hG25 := yFr_o hG hYm22 rfl (.inr rfl) rfl
        replace hM := zE_p hM (by first | (have q1 := zhx q1; have q2 := zhx q2; omega) | (simp only [zhx q1, zhx q2] at h3 h12 h17 ⊢ <;> omega))
        obtain ⟨Ym26, hYm26, hM⟩ := zl_x hM
        have hR27 : zRx [] 0 Z Ym26 := zRx_o hR23 hYm26 rfl
        have hV28 : zV Ym26 := zV_o hV24 hYm26 rfl
        have hG29 := yFr_o hG25 hYm26 rfl (.inr rfl) rfl
        exact False.elim (by have q1 := zhx q1; have q2 := zhx q2; first | omega | grind)

/- face parcel_h -/
theorem rf_parcel_h {Z Y : qz_Z} {dm : qz_Z → Int → Int → Int → Int → Int → Int → Int → qz_Z} {a1 a2 : Int} (hRa : zR 0 Z Y) (hV : zV Y) (hI : zI none Z) (hd : zDf dm) (hD1 : zD1 0 Z Y) (hD4 : zD4 0 Z Y) (hN1 : zN1 Y) (hN4 : zN4 Y) (hDs : zDs 0 Z Y) (hDw : zDw 0 Z Y) (hDl : zDl 0 Z Y) (e0 : 20 < a2) {C : qz_Z × Int × Int} {M : qz_Z × Int} (hC : zE C (zx_226 Z a1 a2)) (hM : zE M (zy_449 Y a1 a2)) : zR 0 C.1 M.1 ∧ zV M.1 ∧ zDd [] [99999] Z Y dm C.1 M.1 ∧ zThr [(24, 1), (13, 2)] C.2 (M.1 1 0 0 2) M.2 := by
  have hRb := zRx_0 hRa
  have hF : zFc [] 0 Z Z := zFc_r
  have hG : yFr [99999] Y Y := yFr_r
  unfold zx_226 at hC
  unfold zy_449 at hM
  have q1 := zhd (zVr_11_6 (a := 2000) hV (by omega))
  have q2 := zhd ((zRl_11_6 (a := 2000) hRa (by omega)))
  rcases zE_c hC with ⟨h3, hC⟩ | ⟨h3, hC⟩
  · replace hC := zE_n hC (by first | (have q1 := zhx q1; have q2 := zhx q2; omega) | (simp only [zhx q1, zhx q2] at h3 ⊢ <;> omega))
    replace hM := zE_n hM (by first | (have q1 := zhx q1; have q2 := zhx q2; omega) | (simp only [zhx q1, zhx q2] at h3 ⊢ <;> omega))
    replace hM := zE_n hM (by first | (have q1 := zhx q1; have q2 := zhx q2; omega) | (simp only [zhx q1, zhx q2] at h3 ⊢ <;> omega))
    obtain ⟨Ym4, hYm4, hM⟩ := zl_x hM
    have hR5 : zRx [] 0 Z Ym4 := zRx_o hRb hYm4 rfl
    have hV6 : zV Ym4 := zV_o hV hYm4 rfl
    have hG7 := yFr_o hG hYm4 rfl (.inr rfl) rfl
    replace hM := zE_n hM (by first | (have q1 := zhx q1; have q2 := zhx q2; omega) | (simp only [zhx q1, zhx q2] at h3 ⊢ <;> omega))
    replace hM := zE_p hM (by first | (have q1 := zhx q1; have q2 := zhx q2; omega) | (simp only [zhx q1, zhx q2] at h3 ⊢ <;> omega))
    obtain ⟨Ym8, hYm8, hM⟩ := zl_x hM
    have hR9 : zRx [] 0 Z Ym8 := zRx_o hR5 hYm8 rfl
    have hV10 : zV Ym8 := zV_o hV6 hYm8 rfl
    have hG11 := yFr_o hG7 hYm8 rfl (.inr rfl) rfl
    have th9 := (zu_at hYm8)
    obtain rfl : C = _ := hC
    obtain rfl : M = _ := hM
    exact ⟨zRx_1 hR9, hV10, ⟨Z, _, .inl ⟨rfl, yFr_w hG11 (by decide)⟩, zFc_r, yFr_r⟩, zThr_e th9 (by decide)⟩
  · rcases zE_c hM with ⟨h12, hM⟩ | ⟨h12, hM⟩
    · obtain ⟨Ym13, hYm13, hM⟩ := zl_x hM
      have hR14 : zRx [] 0 Z Ym13 := zRx_o hRb hYm13 rfl
      have hV15 : zV Ym13 := zV_o hV hYm13 rfl
      have hG16 := yFr_o hG hYm13 rfl (.inr rfl) rfl
      have th9 := (zu_at hYm13)
      obtain rfl : C = _ := hC
      obtain rfl : M = _ := hM
      exact ⟨zRx_1 hR14, hV15, ⟨Z, _, .inl ⟨rfl, yFr_w hG16 (by decide)⟩, zFc_r, yFr_r⟩, zThr_e th9 (by decide)⟩
    · rcases zE_c hM with ⟨h17, hM⟩ | ⟨h17, hM⟩
      · obtain ⟨Ym18, hYm18, hM⟩ := zl_x hM
        have hR19 : zRx [] 0 Z Ym18 := zRx_o hRb hYm18 rfl
        have hV20 : zV Ym18 := zV_o hV hYm18 rfl
        have hG21 := yFr_o hG hYm18 rfl (.inr rfl) rfl
        have th9 := (zu_at hYm18)
        obtain rfl : C = _ := hC
        obtain rfl : M = _ := hM
        exact ⟨zRx_1 hR19, hV20, ⟨Z, _, .inl ⟨rfl, yFr_w hG21 (by decide)⟩, zFc_r, yFr_r⟩, zThr_e th9 (by decide)⟩
      · obtain ⟨Ym22, hYm22, hM⟩ := zl_x hM
        have hR23 : zRx [] 0 Z Ym22 := zRx_o hRb hYm22 rfl
        have hV24 : zV Ym22 := zV_o hV hYm22 rfl
        have hG25 := yFr_o hG hYm22 rfl (.inr rfl) rfl
        replace hM := zE_n hM (by first | (have q1 := zhx q1; have q2 := zhx q2; omega) | (simp only [zhx q1, zhx q2] at h3 h12 h17 ⊢ <;> omega))
        replace hM := zE_p hM (by first | (have q1 := zhx q1; have q2 := zhx q2; omega) | (simp only [zhx q1, zhx q2] at h3 h12 h17 ⊢ <;> omega))
        obtain ⟨Ym26, hYm26, hM⟩ := zl_x hM
        have hR27 : zRx [] 0 Z Ym26 := zRx_o hR23 hYm26 rfl
        have hV28 : zV Ym26 := zV_o hV24 hYm26 rfl
        have hG29 := yFr_o hG25 hYm26 rfl (.inr rfl) rfl
        exact False.elim (by have q1 := zhx q1; have q2 := zhx q2; first | omega | grind)

/- face parcel -/
theorem rf_parcel {Z Y : qz_Z} {dm : qz_Z → Int → Int → Int → Int → Int → Int → Int → qz_Z} {a1 a2 : Int} (hRa : zR 0 Z Y) (hV : zV Y) (hI : zI none Z) (hd : zDf dm) (hD1 : zD1 0 Z Y) (hD4 : zD4 0 Z Y) (hN1 : zN1 Y) (hN4 : zN4 Y) (hDs : zDs 0 Z Y) (hDw : zDw 0 Z Y) (hDl : zDl 0 Z Y) {C : qz_Z × Int × Int} {M : qz_Z × Int} (hC : zE C (zx_226 Z a1 a2)) (hM : zE M (zy_449 Y a1 a2)) : zR 0 C.1 M.1 ∧ zV M.1 ∧ zDd [] [99999] Z Y dm C.1 M.1 ∧ zThr [(24, 1), (13, 2)] C.2 (M.1 1 0 0 2) M.2 := by
  by_cases l9 : a2 < 0
  · exact rf_parcel_l hRa hV hI hd hD1 hD4 hN1 hN4 hDs hDw hDl l9 hC hM
  by_cases u9 : 20 < a2
  · exact rf_parcel_h hRa hV hI hd hD1 hD4 hN1 hN4 hDs hDw hDl u9 hC hM
  have c9 : a2 = 0 ∨ a2 = 1 ∨ a2 = 2 ∨ a2 = 3 ∨ a2 = 4 ∨ a2 = 5 ∨ a2 = 6 ∨ a2 = 7 ∨ a2 = 8 ∨ a2 = 9 ∨ a2 = 10 ∨ a2 = 11 ∨ a2 = 12 ∨ a2 = 13 ∨ a2 = 14 ∨ a2 = 15 ∨ a2 = 16 ∨ a2 = 17 ∨ a2 = 18 ∨ a2 = 19 ∨ a2 = 20 := by omega
  rcases c9 with rfl | rfl | rfl | rfl | rfl | rfl | rfl | rfl | rfl | rfl | rfl | rfl | rfl | rfl | rfl | rfl | rfl | rfl | rfl | rfl | rfl
  · exact rf_parcel_0 hRa hV hI hd hD1 hD4 hN1 hN4 hDs hDw hDl hC hM
  · exact rf_parcel_1 hRa hV hI hd hD1 hD4 hN1 hN4 hDs hDw hDl hC hM
  · exact rf_parcel_2 hRa hV hI hd hD1 hD4 hN1 hN4 hDs hDw hDl hC hM
  · exact rf_parcel_3 hRa hV hI hd hD1 hD4 hN1 hN4 hDs hDw hDl hC hM
  · exact rf_parcel_4 hRa hV hI hd hD1 hD4 hN1 hN4 hDs hDw hDl hC hM
  · exact rf_parcel_5 hRa hV hI hd hD1 hD4 hN1 hN4 hDs hDw hDl hC hM
  · exact rf_parcel_6 hRa hV hI hd hD1 hD4 hN1 hN4 hDs hDw hDl hC hM
  · exact rf_parcel_7 hRa hV hI hd hD1 hD4 hN1 hN4 hDs hDw hDl hC hM
  · exact rf_parcel_8 hRa hV hI hd hD1 hD4 hN1 hN4 hDs hDw hDl hC hM
  · exact rf_parcel_9 hRa hV hI hd hD1 hD4 hN1 hN4 hDs hDw hDl hC hM
  · exact rf_parcel_10 hRa hV hI hd hD1 hD4 hN1 hN4 hDs hDw hDl hC hM
  · exact rf_parcel_11 hRa hV hI hd hD1 hD4 hN1 hN4 hDs hDw hDl hC hM
  · exact rf_parcel_12 hRa hV hI hd hD1 hD4 hN1 hN4 hDs hDw hDl hC hM
  · exact rf_parcel_13 hRa hV hI hd hD1 hD4 hN1 hN4 hDs hDw hDl hC hM
  · exact rf_parcel_14 hRa hV hI hd hD1 hD4 hN1 hN4 hDs hDw hDl hC hM
  · exact rf_parcel_15 hRa hV hI hd hD1 hD4 hN1 hN4 hDs hDw hDl hC hM
  · exact rf_parcel_16 hRa hV hI hd hD1 hD4 hN1 hN4 hDs hDw hDl hC hM
  · exact rf_parcel_17 hRa hV hI hd hD1 hD4 hN1 hN4 hDs hDw hDl hC hM
  · exact rf_parcel_18 hRa hV hI hd hD1 hD4 hN1 hN4 hDs hDw hDl hC hM
  · exact rf_parcel_19 hRa hV hI hd hD1 hD4 hN1 hN4 hDs hDw hDl hC hM
  · exact rf_parcel_20 hRa hV hI hd hD1 hD4 hN1 hN4 hDs hDw hDl hC hM
