/- face quarrel -/
theorem rf_quarrel {Z Y : qz_Z} {dm : qz_Z → Int → Int → Int → Int → Int → Int → Int → qz_Z} {a1 a2 : Int} (hRa : zR 0 Z Y) (hV : zV Y) (hI : zI none Z) (hd : zDf dm) (hNq : zNq Y)  {C : qz_Z × Int × Int} {M : qz_Z × Int} (hC : zE C (zx_231 Z a1 a2)) (hM : zE M (zy_457 Y dm a1 a2)) : zR 0 C.1 M.1 ∧ zV M.1 ∧ zDd [1110, 5400, 5401, 5402, 5407] [1110, 5400, 5401, 5407, 99999] Z Y dm C.1 M.1 ∧ zThr [(24, 1), (13, 2), (15, 3)] C.2 (M.1 1 0 0 2) M.2 ∧ zNq M.1 := by
  have hRb := zRx_0 hRa
  have hF : zFc [] 0 Z Z := zFc_r
  have hG : yFr [99999] Y Y := yFr_r
  unfold zx_231 at hC
  unfold zy_457 at hM
  have q1 := zhd ((hNq (Y 2 0 0 3815) (Int.le_refl _) : Y 2 0 0 3815 < 12 → Y 2 0 0 (3852 + 8 * (Y 2 0 0 3815)) = 0))
  have q2 := zhd (zVr_11_6 (a := 2000) hV (by omega))
  have q3 := zhd ((zRl_11_6 (a := 2000) hRa (by omega)))
  rcases zE_c hC with ⟨h4, hC⟩ | ⟨h4, hC⟩
  · rcases zE_c hC with ⟨h5, hC⟩ | ⟨h5, hC⟩
    · obtain ⟨v6, hv6, hC⟩ := zl_x hC
      have q7 := zhd (show v6 = (zf_410 Y a1) from hv6.trans (rr_3 hRa hV  (by have q1 := zhx q1; have q2 := zhx q2; have q3 := zhx q3; omega) (by have q1 := zhx q1; have q2 := zhx q2; have q3 := zhx q3; omega) rfl rfl))
      rcases zE_c hC with ⟨h8, hC⟩ | ⟨h8, hC⟩
      · replace hM := zE_n hM (by first | (have q1 := zhx q1; have q2 := zhx q2; have q3 := zhx q3; have q7 := zhx q7; omega) | (simp only [zhx q1, zhx q2, zhx q3, zhx q7] at h4 h5 h8 ⊢ <;> omega))
        replace hM := zE_n hM (by first | (have q1 := zhx q1; have q2 := zhx q2; have q3 := zhx q3; have q7 := zhx q7; omega) | (simp only [zhx q1, zhx q2, zhx q3, zhx q7] at h4 h5 h8 ⊢ <;> omega))
        obtain ⟨Ym9, hYm9, hM⟩ := zl_x hM
        have hR10 : zRx [] 0 Z Ym9 := zRx_o hRb hYm9 rfl
        have hV11 : zV Ym9 := zV_o hV hYm9 rfl
        have hG12 := yFr_o hG hYm9 rfl (.inr rfl) rfl
        replace hM := zE_n hM (by first | (have q1 := zhx q1; have q2 := zhx q2; have q3 := zhx q3; have q7 := zhx q7; omega) | (simp only [zhx q1, zhx q2, zhx q3, zhx q7] at h4 h5 h8 ⊢ <;> omega))
        replace hM := zE_n hM (by first | (have q1 := zhx q1; have q2 := zhx q2; have q3 := zhx q3; have q7 := zhx q7; omega) | (simp only [zhx q1, zhx q2, zhx q3, zhx q7] at h4 h5 h8 ⊢ <;> omega))
        obtain ⟨Ym13, hYm13, hM⟩ := zl_x hM
        have hR14 : zRx [] 0 Z Ym13 := zRx_o hR10 hYm13 rfl
        have hV15 : zV Ym13 := zV_o hV11 hYm13 rfl
        have hG16 := yFr_o hG12 hYm13 rfl (.inr rfl) rfl
        obtain ⟨v17, hv17, hM⟩ := zl_x hM
        have q18 := zhd (show v6 = (zf_410 Ym13 a1) from hv6.trans (rr_3 (zRx_1 hR14) hV15  (by first | (have q1 := zhx q1; omega) | (have q1 := zhx q1; have q2 := zhx q2; have q3 := zhx q3; have q7 := zhx q7; omega)) (by first | (have q1 := zhx q1; omega) | (have q1 := zhx q1; have q2 := zhx q2; have q3 := zhx q3; have q7 := zhx q7; omega)) rfl rfl))
        have q19 := zhd (hv17)
        have q20 := zhd (zVr_11_10 (a := 3815) hV (by omega))
        have q21 := zhd (((zu_ne (k' := 2) (b' := 0) (i' := 0) (j' := 3815) hYm13 (fun q => absurd q.1 (by decide))).trans (zu_ne (k' := 2) (b' := 0) (i' := 0) (j' := 3815) hYm9 (fun q => absurd q.1 (by decide)))))
        have q22 := zhd ((fun n9 => (z410_s hv17 n9).1 : v17 ≠ 0 → (Ym13 2 0 0 3815) < 12))
        rcases zE_c hM with ⟨h23, hM⟩ | ⟨h23, hM⟩
        · obtain ⟨Ym24, hYm24, hM⟩ := zl_x hM
          have hR25 : zRx [] 0 Z Ym24 := zRx_o hR14 hYm24 rfl
          have hV26 : zV Ym24 := zV_o hV15 hYm24 rfl
          have hG27 := yFr_o hG16 hYm24 rfl (.inr rfl) rfl
          exact False.elim (by have q1 := zhx q1; have q2 := zhx q2; have q3 := zhx q3; have q7 := zhx q7; have q18 := zhx q18; have q19 := zhx q19; have q20 := zhx q20; have q21 := zhx q21; have q22 := zhx q22; first | omega | grind)
        · obtain ⟨Ym28, hYm28, hM⟩ := zl_x hM
          have hR29 : zRx [] 0 Z Ym28 := zRx_o hR14 hYm28 rfl
          have hV30 : zV Ym28 := zV_o hV15 hYm28 rfl
          have hG31 := yFr_o hG16 hYm28 rfl (.inr rfl) rfl
          obtain ⟨Zc32, hZc32, hC⟩ := zl_x hC
          obtain ⟨Ym33, hYm33, hM⟩ := zl_x hM
          have hR34 : zRx [] 0 Zc32 Ym33 := zRx_dd hR29 hI hd hZc32 hYm33
          have hV35 : zV Ym33 := zV_dm hV30 hd hYm33
          have hNq_36 : zNq Ym33 := (zNq_f (zNq_f hNq hV hG31.1 ⟨rfl, rfl⟩) hV30 (yFa_dm hd hYm33) ⟨rfl, rfl⟩)
          have hF37 : zFc [1110, 5400, 5401, 5402, 5407] 0 Zc32 Zc32 := zFc_r
          have hG38 : yFr [1110, 5400, 5401, 5407] Ym33 Ym33 := yFr_r
          have q39 := zhd (((((yFa_dm hd hYm33 (3815) rfl).trans (zu_ne (k' := 2) (b' := 0) (i' := 0) (j' := 3815) hYm28 (fun q => absurd q.1 (by decide)))).trans (zu_ne (k' := 2) (b' := 0) (i' := 0) (j' := 3815) hYm13 (fun q => absurd q.1 (by decide)))).trans (zu_ne (k' := 2) (b' := 0) (i' := 0) (j' := 3815) hYm9 (fun q => absurd q.1 (by decide)))))
          have q40 := zhd (((zRl_11_10 (a := 3815) (zRx_1 hR34) (by omega)).trans (zhx q39)))
          obtain ⟨Zc41, hZc41, hC⟩ := zl_x hC
          obtain ⟨Ym42, hYm42, hM⟩ := zl_x hM
          have hV43 : zV Ym42 := zV_i hV35 hYm42 (zvi_54_0 (x := (Y 2 0 0 3815)) (by first | (have q1 := zhx q1; have q19 := zhx q19; have q20 := zhx q20; have q21 := zhx q21; have q22 := zhx q22; have q39 := zhx q39; omega) | (have q1 := zhx q1; have q2 := zhx q2; have q3 := zhx q3; have q7 := zhx q7; have q18 := zhx q18; have q19 := zhx q19; have q20 := zhx q20; have q21 := zhx q21; have q22 := zhx q22; have q39 := zhx q39; omega)) (by first | (have q1 := zhx q1; have q19 := zhx q19; have q20 := zhx q20; have q21 := zhx q21; have q22 := zhx q22; have q39 := zhx q39; omega) | (have q1 := zhx q1; have q2 := zhx q2; have q3 := zhx q3; have q7 := zhx q7; have q18 := zhx q18; have q19 := zhx q19; have q20 := zhx q20; have q21 := zhx q21; have q22 := zhx q22; have q39 := zhx q39; omega)) (by first | (have q1 := zhx q1; have q19 := zhx q19; have q20 := zhx q20; have q21 := zhx q21; have q22 := zhx q22; have q39 := zhx q39; omega) | (have q1 := zhx q1; have q2 := zhx q2; have q3 := zhx q3; have q7 := zhx q7; have q18 := zhx q18; have q19 := zhx q19; have q20 := zhx q20; have q21 := zhx q21; have q22 := zhx q22; have q39 := zhx q39; omega))) (by have q1 := zhx q1; have q2 := zhx q2; have q3 := zhx q3; have q7 := zhx q7; have q18 := zhx q18; have q19 := zhx q19; have q20 := zhx q20; have q21 := zhx q21; have q22 := zhx q22; first | omega | exact w3_r _)
          have hR44 : zRx [] 0 Zc41 Ym42 := zRx_w hR34 (ac_54_0 (by first | (have q1 := zhx q1; have q19 := zhx q19; have q20 := zhx q20; have q21 := zhx q21; have q22 := zhx q22; have q39 := zhx q39; have q40 := zhx q40; omega) | (have q1 := zhx q1; have q2 := zhx q2; have q3 := zhx q3; have q7 := zhx q7; have q18 := zhx q18; have q19 := zhx q19; have q20 := zhx q20; have q21 := zhx q21; have q22 := zhx q22; have q39 := zhx q39; have q40 := zhx q40; omega)) (by first | (have q1 := zhx q1; have q19 := zhx q19; have q20 := zhx q20; have q21 := zhx q21; have q22 := zhx q22; have q39 := zhx q39; have q40 := zhx q40; omega) | (have q1 := zhx q1; have q2 := zhx q2; have q3 := zhx q3; have q7 := zhx q7; have q18 := zhx q18; have q19 := zhx q19; have q20 := zhx q20; have q21 := zhx q21; have q22 := zhx q22; have q39 := zhx q39; have q40 := zhx q40; omega)) (by first | (have q1 := zhx q1; have q19 := zhx q19; have q20 := zhx q20; have q21 := zhx q21; have q22 := zhx q22; have q39 := zhx q39; have q40 := zhx q40; omega) | (have q1 := zhx q1; have q2 := zhx q2; have q3 := zhx q3; have q7 := zhx q7; have q18 := zhx q18; have q19 := zhx q19; have q20 := zhx q20; have q21 := zhx q21; have q22 := zhx q22; have q39 := zhx q39; have q40 := zhx q40; omega))) hZc41 hYm42 (by first | rfl | (have q1 := zhx q1; have q19 := zhx q19; have q20 := zhx q20; have q21 := zhx q21; have q22 := zhx q22; omega) | (simp only [zhx q1, zhx q19, zhx q20, zhx q21, zhx q22] <;> omega) | (have q1 := zhx q1; have q2 := zhx q2; have q3 := zhx q3; have q7 := zhx q7; have q18 := zhx q18; have q19 := zhx q19; have q20 := zhx q20; have q21 := zhx q21; have q22 := zhx q22; omega))
          have hF45 := zFc_u hF37 hZc41 rfl rfl
          have hG46 := yFr_u hG38 hYm42 (zcm_s (ac_54_0 (a := 3850 + 8 * (Ym33 2 0 0 3815)) (x := (Y 2 0 0 3815)) (by first | (have q1 := zhx q1; have q19 := zhx q19; have q20 := zhx q20; have q21 := zhx q21; have q22 := zhx q22; have q39 := zhx q39; omega) | (have q1 := zhx q1; have q2 := zhx q2; have q3 := zhx q3; have q7 := zhx q7; have q18 := zhx q18; have q19 := zhx q19; have q20 := zhx q20; have q21 := zhx q21; have q22 := zhx q22; have q39 := zhx q39; omega)) (by first | (have q1 := zhx q1; have q19 := zhx q19; have q20 := zhx q20; have q21 := zhx q21; have q22 := zhx q22; have q39 := zhx q39; omega) | (have q1 := zhx q1; have q2 := zhx q2; have q3 := zhx q3; have q7 := zhx q7; have q18 := zhx q18; have q19 := zhx q19; have q20 := zhx q20; have q21 := zhx q21; have q22 := zhx q22; have q39 := zhx q39; omega)) (by first | (have q1 := zhx q1; have q19 := zhx q19; have q20 := zhx q20; have q21 := zhx q21; have q22 := zhx q22; have q39 := zhx q39; omega) | (have q1 := zhx q1; have q2 := zhx q2; have q3 := zhx q3; have q7 := zhx q7; have q18 := zhx q18; have q19 := zhx q19; have q20 := zhx q20; have q21 := zhx q21; have q22 := zhx q22; have q39 := zhx q39; omega)))) rfl
          obtain ⟨Zc47, hZc47, hC⟩ := zl_x hC
          obtain ⟨Ym48, hYm48, hM⟩ := zl_x hM
          have hV49 : zV Ym48 := zV_n hV43 hYm48 (zvn_54_1 (x := (Y 2 0 0 3815)) (by first | (have q1 := zhx q1; have q19 := zhx q19; have q20 := zhx q20; have q21 := zhx q21; have q22 := zhx q22; have q39 := zhx q39; omega) | (have q1 := zhx q1; have q2 := zhx q2; have q3 := zhx q3; have q7 := zhx q7; have q18 := zhx q18; have q19 := zhx q19; have q20 := zhx q20; have q21 := zhx q21; have q22 := zhx q22; have q39 := zhx q39; omega)) (by first | (have q1 := zhx q1; have q19 := zhx q19; have q20 := zhx q20; have q21 := zhx q21; have q22 := zhx q22; have q39 := zhx q39; omega) | (have q1 := zhx q1; have q2 := zhx q2; have q3 := zhx q3; have q7 := zhx q7; have q18 := zhx q18; have q19 := zhx q19; have q20 := zhx q20; have q21 := zhx q21; have q22 := zhx q22; have q39 := zhx q39; omega)) (by first | (have q1 := zhx q1; have q19 := zhx q19; have q20 := zhx q20; have q21 := zhx q21; have q22 := zhx q22; have q39 := zhx q39; omega) | (have q1 := zhx q1; have q2 := zhx q2; have q3 := zhx q3; have q7 := zhx q7; have q18 := zhx q18; have q19 := zhx q19; have q20 := zhx q20; have q21 := zhx q21; have q22 := zhx q22; have q39 := zhx q39; omega)))
          have hR50 : zRx [] 0 Zc47 Ym48 := zRx_w hR44 (ac_54_1 (by first | (have q1 := zhx q1; have q19 := zhx q19; have q20 := zhx q20; have q21 := zhx q21; have q22 := zhx q22; have q39 := zhx q39; have q40 := zhx q40; omega) | (have q1 := zhx q1; have q2 := zhx q2; have q3 := zhx q3; have q7 := zhx q7; have q18 := zhx q18; have q19 := zhx q19; have q20 := zhx q20; have q21 := zhx q21; have q22 := zhx q22; have q39 := zhx q39; have q40 := zhx q40; omega)) (by first | (have q1 := zhx q1; have q19 := zhx q19; have q20 := zhx q20; have q21 := zhx q21; have q22 := zhx q22; have q39 := zhx q39; have q40 := zhx q40; omega) | (have q1 := zhx q1; have q2 := zhx q2; have q3 := zhx q3; have q7 := zhx q7; have q18 := zhx q18; have q19 := zhx q19; have q20 := zhx q20; have q21 := zhx q21; have q22 := zhx q22; have q39 := zhx q39; have q40 := zhx q40; omega)) (by first | (have q1 := zhx q1; have q19 := zhx q19; have q20 := zhx q20; have q21 := zhx q21; have q22 := zhx q22; have q39 := zhx q39; have q40 := zhx q40; omega) | (have q1 := zhx q1; have q2 := zhx q2; have q3 := zhx q3; have q7 := zhx q7; have q18 := zhx q18; have q19 := zhx q19; have q20 := zhx q20; have q21 := zhx q21; have q22 := zhx q22; have q39 := zhx q39; have q40 := zhx q40; omega))) hZc47 hYm48 (by first | rfl | (have q1 := zhx q1; have q19 := zhx q19; have q20 := zhx q20; have q21 := zhx q21; have q22 := zhx q22; omega) | (simp only [zhx q1, zhx q19, zhx q20, zhx q21, zhx q22] <;> omega) | (have q1 := zhx q1; have q2 := zhx q2; have q3 := zhx q3; have q7 := zhx q7; have q18 := zhx q18; have q19 := zhx q19; have q20 := zhx q20; have q21 := zhx q21; have q22 := zhx q22; omega))
          have hF51 := zFc_u hF45 hZc47 rfl rfl
          have hG52 := yFr_u hG46 hYm48 (zcm_s (ac_54_1 (a := 3851 + 8 * (Ym33 2 0 0 3815)) (x := (Y 2 0 0 3815)) (by first | (have q1 := zhx q1; have q19 := zhx q19; have q20 := zhx q20; have q21 := zhx q21; have q22 := zhx q22; have q39 := zhx q39; omega) | (have q1 := zhx q1; have q2 := zhx q2; have q3 := zhx q3; have q7 := zhx q7; have q18 := zhx q18; have q19 := zhx q19; have q20 := zhx q20; have q21 := zhx q21; have q22 := zhx q22; have q39 := zhx q39; omega)) (by first | (have q1 := zhx q1; have q19 := zhx q19; have q20 := zhx q20; have q21 := zhx q21; have q22 := zhx q22; have q39 := zhx q39; omega) | (have q1 := zhx q1; have q2 := zhx q2; have q3 := zhx q3; have q7 := zhx q7; have q18 := zhx q18; have q19 := zhx q19; have q20 := zhx q20; have q21 := zhx q21; have q22 := zhx q22; have q39 := zhx q39; omega)) (by first | (have q1 := zhx q1; have q19 := zhx q19; have q20 := zhx q20; have q21 := zhx q21; have q22 := zhx q22; have q39 := zhx q39; omega) | (have q1 := zhx q1; have q2 := zhx q2; have q3 := zhx q3; have q7 := zhx q7; have q18 := zhx q18; have q19 := zhx q19; have q20 := zhx q20; have q21 := zhx q21; have q22 := zhx q22; have q39 := zhx q39; omega)))) rfl
          obtain ⟨Zc53, hZc53, hC⟩ := zl_x hC
          have hR54 : zRx [(54, (Zc32 11 0 0 10), 2)] 0 Zc53 Ym48 := zRx_z hR50 hZc53
          have hF55 := zFc_u hF51 hZc53 rfl rfl
          have q56 := zhd (zVr_11_13 (a := 0) hV (by omega))
          have q57 := zhd (((zRlx hR54 (ac_11_13 (a := 0) (by omega)) (by simp)).trans (((((((zu_ne (k' := 2) (b' := 0) (i' := 0) (j' := 0) hYm48 (fun q => absurd q.2.2.2 (by first | (have q1 := zhx q1; have q19 := zhx q19; have q20 := zhx q20; have q21 := zhx q21; have q22 := zhx q22; have q39 := zhx q39; omega) | (have q1 := zhx q1; have q2 := zhx q2; have q3 := zhx q3; have q7 := zhx q7; have q18 := zhx q18; have q19 := zhx q19; have q20 := zhx q20; have q21 := zhx q21; have q22 := zhx q22; have q39 := zhx q39; omega)))).trans (zu_ne (k' := 2) (b' := 0) (i' := 0) (j' := 0) hYm42 (fun q => absurd q.2.2.2 (by first | (have q1 := zhx q1; have q19 := zhx q19; have q20 := zhx q20; have q21 := zhx q21; have q22 := zhx q22; have q39 := zhx q39; omega) | (have q1 := zhx q1; have q2 := zhx q2; have q3 := zhx q3; have q7 := zhx q7; have q18 := zhx q18; have q19 := zhx q19; have q20 := zhx q20; have q21 := zhx q21; have q22 := zhx q22; have q39 := zhx q39; omega))))).trans (yFa_dm hd hYm33 (0) rfl)).trans (zu_ne (k' := 2) (b' := 0) (i' := 0) (j' := 0) hYm28 (fun q => absurd q.1 (by decide)))).trans (zu_ne (k' := 2) (b' := 0) (i' := 0) (j' := 0) hYm13 (fun q => absurd q.1 (by decide)))).trans (zu_ne (k' := 2) (b' := 0) (i' := 0) (j' := 0) hYm9 (fun q => absurd q.1 (by decide)))))))
          have q58 := zhd (((((((zu_ne (k' := 2) (b' := 0) (i' := 0) (j' := 0) hYm48 (fun q => absurd q.2.2.2 (by first | (have q1 := zhx q1; have q19 := zhx q19; have q20 := zhx q20; have q21 := zhx q21; have q22 := zhx q22; have q39 := zhx q39; omega) | (have q1 := zhx q1; have q2 := zhx q2; have q3 := zhx q3; have q7 := zhx q7; have q18 := zhx q18; have q19 := zhx q19; have q20 := zhx q20; have q21 := zhx q21; have q22 := zhx q22; have q39 := zhx q39; omega)))).trans (zu_ne (k' := 2) (b' := 0) (i' := 0) (j' := 0) hYm42 (fun q => absurd q.2.2.2 (by first | (have q1 := zhx q1; have q19 := zhx q19; have q20 := zhx q20; have q21 := zhx q21; have q22 := zhx q22; have q39 := zhx q39; omega) | (have q1 := zhx q1; have q2 := zhx q2; have q3 := zhx q3; have q7 := zhx q7; have q18 := zhx q18; have q19 := zhx q19; have q20 := zhx q20; have q21 := zhx q21; have q22 := zhx q22; have q39 := zhx q39; omega))))).trans (yFa_dm hd hYm33 (0) rfl)).trans (zu_ne (k' := 2) (b' := 0) (i' := 0) (j' := 0) hYm28 (fun q => absurd q.1 (by decide)))).trans (zu_ne (k' := 2) (b' := 0) (i' := 0) (j' := 0) hYm13 (fun q => absurd q.1 (by decide)))).trans (zu_ne (k' := 2) (b' := 0) (i' := 0) (j' := 0) hYm9 (fun q => absurd q.1 (by decide)))))
          obtain ⟨Zc59, hZc59, hC⟩ := zl_x hC
          obtain ⟨Ym60, hYm60, hM⟩ := zl_x hM
          have hV61 : zV Ym60 := zV_n hV49 hYm60 (zvn_54_7 (x := (Y 2 0 0 3815)) (by first | (have q1 := zhx q1; have q19 := zhx q19; have q20 := zhx q20; have q21 := zhx q21; have q22 := zhx q22; have q39 := zhx q39; omega) | (have q1 := zhx q1; have q2 := zhx q2; have q3 := zhx q3; have q7 := zhx q7; have q18 := zhx q18; have q19 := zhx q19; have q20 := zhx q20; have q21 := zhx q21; have q22 := zhx q22; have q39 := zhx q39; omega)) (by first | (have q1 := zhx q1; have q19 := zhx q19; have q20 := zhx q20; have q21 := zhx q21; have q22 := zhx q22; have q39 := zhx q39; omega) | (have q1 := zhx q1; have q2 := zhx q2; have q3 := zhx q3; have q7 := zhx q7; have q18 := zhx q18; have q19 := zhx q19; have q20 := zhx q20; have q21 := zhx q21; have q22 := zhx q22; have q39 := zhx q39; omega)) (by first | (have q1 := zhx q1; have q19 := zhx q19; have q20 := zhx q20; have q21 := zhx q21; have q22 := zhx q22; have q39 := zhx q39; omega) | (have q1 := zhx q1; have q2 := zhx q2; have q3 := zhx q3; have q7 := zhx q7; have q18 := zhx q18; have q19 := zhx q19; have q20 := zhx q20; have q21 := zhx q21; have q22 := zhx q22; have q39 := zhx q39; omega)))
          have hR62 : zRx [(54, (Zc32 11 0 0 10), 2)] 0 Zc59 Ym60 := zRx_w hR54 (ac_54_7 (by first | (have q1 := zhx q1; have q19 := zhx q19; have q20 := zhx q20; have q21 := zhx q21; have q22 := zhx q22; have q39 := zhx q39; have q40 := zhx q40; omega) | (have q1 := zhx q1; have q2 := zhx q2; have q3 := zhx q3; have q7 := zhx q7; have q18 := zhx q18; have q19 := zhx q19; have q20 := zhx q20; have q21 := zhx q21; have q22 := zhx q22; have q39 := zhx q39; have q40 := zhx q40; omega)) (by first | (have q1 := zhx q1; have q19 := zhx q19; have q20 := zhx q20; have q21 := zhx q21; have q22 := zhx q22; have q39 := zhx q39; have q40 := zhx q40; omega) | (have q1 := zhx q1; have q2 := zhx q2; have q3 := zhx q3; have q7 := zhx q7; have q18 := zhx q18; have q19 := zhx q19; have q20 := zhx q20; have q21 := zhx q21; have q22 := zhx q22; have q39 := zhx q39; have q40 := zhx q40; omega)) (by first | (have q1 := zhx q1; have q19 := zhx q19; have q20 := zhx q20; have q21 := zhx q21; have q22 := zhx q22; have q39 := zhx q39; have q40 := zhx q40; omega) | (have q1 := zhx q1; have q2 := zhx q2; have q3 := zhx q3; have q7 := zhx q7; have q18 := zhx q18; have q19 := zhx q19; have q20 := zhx q20; have q21 := zhx q21; have q22 := zhx q22; have q39 := zhx q39; have q40 := zhx q40; omega))) hZc59 hYm60 (by first | rfl | (have q1 := zhx q1; have q19 := zhx q19; have q20 := zhx q20; have q21 := zhx q21; have q22 := zhx q22; have q56 := zhx q56; have q57 := zhx q57; have q58 := zhx q58; omega) | (simp only [zhx q1, zhx q19, zhx q20, zhx q21, zhx q22, zhx q56, zhx q57, zhx q58] <;> omega) | (have q1 := zhx q1; have q2 := zhx q2; have q3 := zhx q3; have q7 := zhx q7; have q18 := zhx q18; have q19 := zhx q19; have q20 := zhx q20; have q21 := zhx q21; have q22 := zhx q22; have q56 := zhx q56; have q57 := zhx q57; have q58 := zhx q58; omega))
          have hF63 := zFc_u hF55 hZc59 rfl rfl
          have hG64 := yFr_u hG52 hYm60 (zcm_s (ac_54_7 (a := 3857 + 8 * (Ym33 2 0 0 3815)) (x := (Y 2 0 0 3815)) (by first | (have q1 := zhx q1; have q19 := zhx q19; have q20 := zhx q20; have q21 := zhx q21; have q22 := zhx q22; have q39 := zhx q39; omega) | (have q1 := zhx q1; have q2 := zhx q2; have q3 := zhx q3; have q7 := zhx q7; have q18 := zhx q18; have q19 := zhx q19; have q20 := zhx q20; have q21 := zhx q21; have q22 := zhx q22; have q39 := zhx q39; omega)) (by first | (have q1 := zhx q1; have q19 := zhx q19; have q20 := zhx q20; have q21 := zhx q21; have q22 := zhx q22; have q39 := zhx q39; omega) | (have q1 := zhx q1; have q2 := zhx q2; have q3 := zhx q3; have q7 := zhx q7; have q18 := zhx q18; have q19 := zhx q19; have q20 := zhx q20; have q21 := zhx q21; have q22 := zhx q22; have q39 := zhx q39; omega)) (by first | (have q1 := zhx q1; have q19 := zhx q19; have q20 := zhx q20; have q21 := zhx q21; have q22 := zhx q22; have q39 := zhx q39; omega) | (have q1 := zhx q1; have q2 := zhx q2; have q3 := zhx q3; have q7 := zhx q7; have q18 := zhx q18; have q19 := zhx q19; have q20 := zhx q20; have q21 := zhx q21; have q22 := zhx q22; have q39 := zhx q39; omega)))) rfl
          have q65 := zhd (((zRlx hR62 (ac_11_10 (a := 3815) (by omega)) (by simp)).trans (((((zu_ne (k' := 2) (b' := 0) (i' := 0) (j' := 3815) hYm60 (fun q => absurd q.2.2.2 (by first | (have q1 := zhx q1; have q19 := zhx q19; have q20 := zhx q20; have q21 := zhx q21; have q22 := zhx q22; have q39 := zhx q39; omega) | (have q1 := zhx q1; have q2 := zhx q2; have q3 := zhx q3; have q7 := zhx q7; have q18 := zhx q18; have q19 := zhx q19; have q20 := zhx q20; have q21 := zhx q21; have q22 := zhx q22; have q39 := zhx q39; omega)))).trans (zu_ne (k' := 2) (b' := 0) (i' := 0) (j' := 3815) hYm48 (fun q => absurd q.2.2.2 (by first | (have q1 := zhx q1; have q19 := zhx q19; have q20 := zhx q20; have q21 := zhx q21; have q22 := zhx q22; have q39 := zhx q39; omega) | (have q1 := zhx q1; have q2 := zhx q2; have q3 := zhx q3; have q7 := zhx q7; have q18 := zhx q18; have q19 := zhx q19; have q20 := zhx q20; have q21 := zhx q21; have q22 := zhx q22; have q39 := zhx q39; omega))))).trans (zu_ne (k' := 2) (b' := 0) (i' := 0) (j' := 3815) hYm42 (fun q => absurd q.2.2.2 (by first | (have q1 := zhx q1; have q19 := zhx q19; have q20 := zhx q20; have q21 := zhx q21; have q22 := zhx q22; have q39 := zhx q39; omega) | (have q1 := zhx q1; have q2 := zhx q2; have q3 := zhx q3; have q7 := zhx q7; have q18 := zhx q18; have q19 := zhx q19; have q20 := zhx q20; have q21 := zhx q21; have q22 := zhx q22; have q39 := zhx q39; omega))))).trans (zhx q39)))))
          have q66 := zhd (((((zu_ne (k' := 2) (b' := 0) (i' := 0) (j' := 3815) hYm60 (fun q => absurd q.2.2.2 (by first | (have q1 := zhx q1; have q19 := zhx q19; have q20 := zhx q20; have q21 := zhx q21; have q22 := zhx q22; have q39 := zhx q39; omega) | (have q1 := zhx q1; have q2 := zhx q2; have q3 := zhx q3; have q7 := zhx q7; have q18 := zhx q18; have q19 := zhx q19; have q20 := zhx q20; have q21 := zhx q21; have q22 := zhx q22; have q39 := zhx q39; omega)))).trans (zu_ne (k' := 2) (b' := 0) (i' := 0) (j' := 3815) hYm48 (fun q => absurd q.2.2.2 (by first | (have q1 := zhx q1; have q19 := zhx q19; have q20 := zhx q20; have q21 := zhx q21; have q22 := zhx q22; have q39 := zhx q39; omega) | (have q1 := zhx q1; have q2 := zhx q2; have q3 := zhx q3; have q7 := zhx q7; have q18 := zhx q18; have q19 := zhx q19; have q20 := zhx q20; have q21 := zhx q21; have q22 := zhx q22; have q39 := zhx q39; omega))))).trans (zu_ne (k' := 2) (b' := 0) (i' := 0) (j' := 3815) hYm42 (fun q => absurd q.2.2.2 (by first | (have q1 := zhx q1; have q19 := zhx q19; have q20 := zhx q20; have q21 := zhx q21; have q22 := zhx q22; have q39 := zhx q39; omega) | (have q1 := zhx q1; have q2 := zhx q2; have q3 := zhx q3; have q7 := zhx q7; have q18 := zhx q18; have q19 := zhx q19; have q20 := zhx q20; have q21 := zhx q21; have q22 := zhx q22; have q39 := zhx q39; omega))))).trans (zhx q39)))
          obtain ⟨Zc67, hZc67, hC⟩ := zl_x hC
          obtain ⟨Ym68, hYm68, hM⟩ := zl_x hM
          have hV69 : zV Ym68 := zV_i hV61 hYm68 (zvi_11_10 (by first | (have q1 := zhx q1; have q19 := zhx q19; have q20 := zhx q20; have q21 := zhx q21; have q22 := zhx q22; omega) | (have q1 := zhx q1; have q2 := zhx q2; have q3 := zhx q3; have q7 := zhx q7; have q18 := zhx q18; have q19 := zhx q19; have q20 := zhx q20; have q21 := zhx q21; have q22 := zhx q22; omega))) (by have q1 := zhx q1; have q2 := zhx q2; have q3 := zhx q3; have q7 := zhx q7; have q18 := zhx q18; have q19 := zhx q19; have q20 := zhx q20; have q21 := zhx q21; have q22 := zhx q22; have q66 := zhx q66; first | omega | exact w3_r _)
          have hR70 : zRx [(54, (Zc32 11 0 0 10), 2)] 0 Zc67 Ym68 := zRx_w hR62 (ac_11_10 (by first | (have q1 := zhx q1; have q19 := zhx q19; have q20 := zhx q20; have q21 := zhx q21; have q22 := zhx q22; omega) | (have q1 := zhx q1; have q2 := zhx q2; have q3 := zhx q3; have q7 := zhx q7; have q18 := zhx q18; have q19 := zhx q19; have q20 := zhx q20; have q21 := zhx q21; have q22 := zhx q22; omega))) hZc67 hYm68 (by first | rfl | (have q1 := zhx q1; have q19 := zhx q19; have q20 := zhx q20; have q21 := zhx q21; have q22 := zhx q22; have q65 := zhx q65; have q66 := zhx q66; omega) | (simp only [zhx q1, zhx q19, zhx q20, zhx q21, zhx q22, zhx q65, zhx q66] <;> omega) | (have q1 := zhx q1; have q2 := zhx q2; have q3 := zhx q3; have q7 := zhx q7; have q18 := zhx q18; have q19 := zhx q19; have q20 := zhx q20; have q21 := zhx q21; have q22 := zhx q22; have q65 := zhx q65; have q66 := zhx q66; omega))
          have hF71 := zFc_u hF63 hZc67 rfl rfl
          have hG72 := yFr_u hG64 hYm68 (zcm_s (ac_11_10 (a := 3815) (by first | (have q1 := zhx q1; have q19 := zhx q19; have q20 := zhx q20; have q21 := zhx q21; have q22 := zhx q22; omega) | (have q1 := zhx q1; have q2 := zhx q2; have q3 := zhx q3; have q7 := zhx q7; have q18 := zhx q18; have q19 := zhx q19; have q20 := zhx q20; have q21 := zhx q21; have q22 := zhx q22; omega)))) rfl
          have q75 := zhd ((((zu_ne (k' := 54) (b' := 0) (i' := (Zc32 11 0 0 10)) (j' := 2) hZc67 (fun q => absurd q.1 (by decide))).trans (zu_ne (k' := 54) (b' := 0) (i' := (Zc32 11 0 0 10)) (j' := 2) hZc59 (fun q => absurd q.2.2.2 (by decide)))).trans (zu_at hZc53)))
          have q76 := zhd ((congrArg (fun x => Zc67 54 0 x 2) (show (Y 2 0 0 3815) = (Zc32 11 0 0 10) from (by first | (have q1 := zhx q1; have q19 := zhx q19; have q20 := zhx q20; have q21 := zhx q21; have q22 := zhx q22; have q40 := zhx q40; omega) | (have q1 := zhx q1; have q2 := zhx q2; have q3 := zhx q3; have q7 := zhx q7; have q18 := zhx q18; have q19 := zhx q19; have q20 := zhx q20; have q21 := zhx q21; have q22 := zhx q22; have q40 := zhx q40; omega)))).trans (zhx q75))
          have q77 := zhd ((((((((((zu_ne (k' := 2) (b' := 0) (i' := 0) (j' := 3852 + 8 * (Y 2 0 0 3815)) hYm68 (fun q => absurd q.2.2.2 (by first | (have q1 := zhx q1; have q19 := zhx q19; have q20 := zhx q20; have q21 := zhx q21; have q22 := zhx q22; omega) | (have q1 := zhx q1; have q2 := zhx q2; have q3 := zhx q3; have q7 := zhx q7; have q18 := zhx q18; have q19 := zhx q19; have q20 := zhx q20; have q21 := zhx q21; have q22 := zhx q22; omega)))).trans (zu_ne (k' := 2) (b' := 0) (i' := 0) (j' := 3852 + 8 * (Y 2 0 0 3815)) hYm60 (fun q => absurd q.2.2.2 (by first | (have q1 := zhx q1; have q19 := zhx q19; have q20 := zhx q20; have q21 := zhx q21; have q22 := zhx q22; have q39 := zhx q39; omega) | (have q1 := zhx q1; have q2 := zhx q2; have q3 := zhx q3; have q7 := zhx q7; have q18 := zhx q18; have q19 := zhx q19; have q20 := zhx q20; have q21 := zhx q21; have q22 := zhx q22; have q39 := zhx q39; omega))))).trans (zu_ne (k' := 2) (b' := 0) (i' := 0) (j' := 3852 + 8 * (Y 2 0 0 3815)) hYm48 (fun q => absurd q.2.2.2 (by first | (have q1 := zhx q1; have q19 := zhx q19; have q20 := zhx q20; have q21 := zhx q21; have q22 := zhx q22; have q39 := zhx q39; omega) | (have q1 := zhx q1; have q2 := zhx q2; have q3 := zhx q3; have q7 := zhx q7; have q18 := zhx q18; have q19 := zhx q19; have q20 := zhx q20; have q21 := zhx q21; have q22 := zhx q22; have q39 := zhx q39; omega))))).trans (zu_ne (k' := 2) (b' := 0) (i' := 0) (j' := 3852 + 8 * (Y 2 0 0 3815)) hYm42 (fun q => absurd q.2.2.2 (by first | (have q1 := zhx q1; have q19 := zhx q19; have q20 := zhx q20; have q21 := zhx q21; have q22 := zhx q22; have q39 := zhx q39; omega) | (have q1 := zhx q1; have q2 := zhx q2; have q3 := zhx q3; have q7 := zhx q7; have q18 := zhx q18; have q19 := zhx q19; have q20 := zhx q20; have q21 := zhx q21; have q22 := zhx q22; have q39 := zhx q39; omega))))).trans (yFa_dm hd hYm33 (3852 + 8 * (Y 2 0 0 3815)) rfl)).trans (zu_ne (k' := 2) (b' := 0) (i' := 0) (j' := 3852 + 8 * (Y 2 0 0 3815)) hYm28 (fun q => absurd q.1 (by decide)))).trans (zu_ne (k' := 2) (b' := 0) (i' := 0) (j' := 3852 + 8 * (Y 2 0 0 3815)) hYm13 (fun q => absurd q.1 (by decide)))).trans (zu_ne (k' := 2) (b' := 0) (i' := 0) (j' := 3852 + 8 * (Y 2 0 0 3815)) hYm9 (fun q => absurd q.1 (by decide)))).trans ((hNq (Y 2 0 0 3815) (Int.le_refl _) (by have q1 := zhx q1; have q2 := zhx q2; have q3 := zhx q3; have q7 := zhx q7; have q18 := zhx q18; have q19 := zhx q19; have q20 := zhx q20; have q21 := zhx q21; have q22 := zhx q22; omega)))))
          have hR78 : zRx [] 0 Zc67 Ym68 := zRx_d hR70 (ac_54_2 (a := 3852 + 8 * (Y 2 0 0 3815)) (by first | (have q1 := zhx q1; have q19 := zhx q19; have q20 := zhx q20; have q21 := zhx q21; have q22 := zhx q22; have q40 := zhx q40; omega) | (have q1 := zhx q1; have q2 := zhx q2; have q3 := zhx q3; have q7 := zhx q7; have q18 := zhx q18; have q19 := zhx q19; have q20 := zhx q20; have q21 := zhx q21; have q22 := zhx q22; have q40 := zhx q40; omega)) (by first | (have q1 := zhx q1; have q19 := zhx q19; have q20 := zhx q20; have q21 := zhx q21; have q22 := zhx q22; have q40 := zhx q40; omega) | (have q1 := zhx q1; have q2 := zhx q2; have q3 := zhx q3; have q7 := zhx q7; have q18 := zhx q18; have q19 := zhx q19; have q20 := zhx q20; have q21 := zhx q21; have q22 := zhx q22; have q40 := zhx q40; omega)) (by first | (have q1 := zhx q1; have q19 := zhx q19; have q20 := zhx q20; have q21 := zhx q21; have q22 := zhx q22; have q40 := zhx q40; omega) | (have q1 := zhx q1; have q2 := zhx q2; have q3 := zhx q3; have q7 := zhx q7; have q18 := zhx q18; have q19 := zhx q19; have q20 := zhx q20; have q21 := zhx q21; have q22 := zhx q22; have q40 := zhx q40; omega))) (by first | rfl | (have q1 := zhx q1; have q19 := zhx q19; have q20 := zhx q20; have q21 := zhx q21; have q22 := zhx q22; have q40 := zhx q40; have q75 := zhx q75; have q76 := zhx q76; have q77 := zhx q77; omega) | (simp only [zhx q1, zhx q19, zhx q20, zhx q21, zhx q22, zhx q40, zhx q75, zhx q76, zhx q77] <;> omega) | (have q1 := zhx q1; have q2 := zhx q2; have q3 := zhx q3; have q7 := zhx q7; have q18 := zhx q18; have q19 := zhx q19; have q20 := zhx q20; have q21 := zhx q21; have q22 := zhx q22; have q40 := zhx q40; have q75 := zhx q75; have q76 := zhx q76; have q77 := zhx q77; omega))
          have th9 := ((((((zu_ne (k' := 1) (b' := 0) (i' := 0) (j' := 2) hYm68 (fun q => absurd q.1 (by decide))).trans (zu_ne (k' := 1) (b' := 0) (i' := 0) (j' := 2) hYm60 (fun q => absurd q.1 (by decide)))).trans (zu_ne (k' := 1) (b' := 0) (i' := 0) (j' := 2) hYm48 (fun q => absurd q.1 (by decide)))).trans (zu_ne (k' := 1) (b' := 0) (i' := 0) (j' := 2) hYm42 (fun q => absurd q.1 (by decide)))).trans (zTh_dm hd hYm33 (by decide))).trans (zu_at hYm28))
          have q79 := zhd (((((yFa_dm hd hYm33 (3815) rfl).trans (zu_ne (k' := 2) (b' := 0) (i' := 0) (j' := 3815) hYm28 (fun q => absurd q.1 (by decide)))).trans (zu_ne (k' := 2) (b' := 0) (i' := 0) (j' := 3815) hYm13 (fun q => absurd q.1 (by decide)))).trans (zu_ne (k' := 2) (b' := 0) (i' := 0) (j' := 3815) hYm9 (fun q => absurd q.1 (by decide)))))
          have q80 := zhd ((zu_at hYm68))
          obtain rfl : C = _ := hC
          obtain rfl : M = _ := hM
          exact ⟨zRx_1 hR78, hV69, ⟨Zc32, Ym33, .inr ⟨25, a1, a2, 0, 0, 0, 0, 26, Ym28, hZc32, yFr_w hG31 (by decide), hYm33, (by unfold zcode; omega)⟩, zFc_w hF71 (by decide), yFr_w hG72 (by decide)⟩, zThr_a th9 (by first | rfl | (have q1 := zhx q1; have q2 := zhx q2; have q3 := zhx q3; have q7 := zhx q7; have q18 := zhx q18; have q19 := zhx q19; have q20 := zhx q20; have q21 := zhx q21; have q22 := zhx q22; have q39 := zhx q39; have q65 := zhx q65; omega) | (simp only [zhx q1, zhx q2, zhx q3, zhx q7, zhx q18, zhx q19, zhx q20, zhx q21, zhx q22, zhx q39, zhx q65] <;> omega) | (have q1 := zhx q1; have q2 := zhx q2; have q3 := zhx q3; have q7 := zhx q7; have q18 := zhx q18; have q19 := zhx q19; have q20 := zhx q20; have q21 := zhx q21; have q22 := zhx q22; have q39 := zhx q39; have q65 := zhx q65; refine w3z ?_ ?_ ?_ <;> omega) | (have q1 := zhx q1; have q2 := zhx q2; have q3 := zhx q3; have q7 := zhx q7; have q18 := zhx q18; have q19 := zhx q19; have q20 := zhx q20; have q21 := zhx q21; have q22 := zhx q22; have q39 := zhx q39; have q65 := zhx q65; refine w3y ?_ ?_ ?_ <;> omega) | (have q1 := zhx q1; have q2 := zhx q2; have q3 := zhx q3; have q7 := zhx q7; have q18 := zhx q18; have q19 := zhx q19; have q20 := zhx q20; have q21 := zhx q21; have q22 := zhx q22; have q39 := zhx q39; have q65 := zhx q65; refine z2o ?_ ?_ ?_ <;> omega)), (zNq_put (Y := Ym33) (M := Ym68) (c := (Y 2 0 0 3815)) hNq_36 (by first | (have q1 := zhx q1; have q19 := zhx q19; have q20 := zhx q20; have q21 := zhx q21; have q22 := zhx q22; have q39 := zhx q39; have q79 := zhx q79; omega) | (have q1 := zhx q1; have q2 := zhx q2; have q3 := zhx q3; have q7 := zhx q7; have q18 := zhx q18; have q19 := zhx q19; have q20 := zhx q20; have q21 := zhx q21; have q22 := zhx q22; have q39 := zhx q39; have q79 := zhx q79; omega)) (fun i g1 g2 => ((((zu_ne (k' := 2) (b' := 0) (i' := 0) (j' := 3852 + 8 * i) hYm68 (fun x => absurd x.2.2.2 (by first | (have q1 := zhx q1; have q19 := zhx q19; have q20 := zhx q20; have q21 := zhx q21; have q22 := zhx q22; omega) | (have q1 := zhx q1; have q2 := zhx q2; have q3 := zhx q3; have q7 := zhx q7; have q18 := zhx q18; have q19 := zhx q19; have q20 := zhx q20; have q21 := zhx q21; have q22 := zhx q22; omega)))).trans (zu_ne (k' := 2) (b' := 0) (i' := 0) (j' := 3852 + 8 * i) hYm60 (fun x => absurd x.2.2.2 (by first | (have q1 := zhx q1; have q19 := zhx q19; have q20 := zhx q20; have q21 := zhx q21; have q22 := zhx q22; have q39 := zhx q39; have q79 := zhx q79; omega) | (have q1 := zhx q1; have q2 := zhx q2; have q3 := zhx q3; have q7 := zhx q7; have q18 := zhx q18; have q19 := zhx q19; have q20 := zhx q20; have q21 := zhx q21; have q22 := zhx q22; have q39 := zhx q39; have q79 := zhx q79; omega))))).trans (zu_ne (k' := 2) (b' := 0) (i' := 0) (j' := 3852 + 8 * i) hYm48 (fun x => absurd x.2.2.2 (by first | (have q1 := zhx q1; have q19 := zhx q19; have q20 := zhx q20; have q21 := zhx q21; have q22 := zhx q22; have q39 := zhx q39; have q79 := zhx q79; omega) | (have q1 := zhx q1; have q2 := zhx q2; have q3 := zhx q3; have q7 := zhx q7; have q18 := zhx q18; have q19 := zhx q19; have q20 := zhx q20; have q21 := zhx q21; have q22 := zhx q22; have q39 := zhx q39; have q79 := zhx q79; omega))))).trans (zu_ne (k' := 2) (b' := 0) (i' := 0) (j' := 3852 + 8 * i) hYm42 (fun x => absurd x.2.2.2 (by first | (have q1 := zhx q1; have q19 := zhx q19; have q20 := zhx q20; have q21 := zhx q21; have q22 := zhx q22; have q39 := zhx q39; have q79 := zhx q79; omega) | (have q1 := zhx q1; have q2 := zhx q2; have q3 := zhx q3; have q7 := zhx q7; have q18 := zhx q18; have q19 := zhx q19; have q20 := zhx q20; have q21 := zhx q21; have q22 := zhx q22; have q39 := zhx q39; have q79 := zhx q79; omega)))))) (by first | (have q1 := zhx q1; have q19 := zhx q19; have q20 := zhx q20; have q21 := zhx q21; have q22 := zhx q22; have q39 := zhx q39; have q66 := zhx q66; have q79 := zhx q79; have q80 := zhx q80; omega) | (have q1 := zhx q1; have q2 := zhx q2; have q3 := zhx q3; have q7 := zhx q7; have q18 := zhx q18; have q19 := zhx q19; have q20 := zhx q20; have q21 := zhx q21; have q22 := zhx q22; have q39 := zhx q39; have q66 := zhx q66; have q79 := zhx q79; have q80 := zhx q80; omega)))⟩
      · replace hM := zE_n hM (by first | (have q1 := zhx q1; have q2 := zhx q2; have q3 := zhx q3; have q7 := zhx q7; omega) | (simp only [zhx q1, zhx q2, zhx q3, zhx q7] at h4 h5 h8 ⊢ <;> omega))
        replace hM := zE_n hM (by first | (have q1 := zhx q1; have q2 := zhx q2; have q3 := zhx q3; have q7 := zhx q7; omega) | (simp only [zhx q1, zhx q2, zhx q3, zhx q7] at h4 h5 h8 ⊢ <;> omega))
        obtain ⟨Ym81, hYm81, hM⟩ := zl_x hM
        have hR82 : zRx [] 0 Z Ym81 := zRx_o hRb hYm81 rfl
        have hV83 : zV Ym81 := zV_o hV hYm81 rfl
        have hG84 := yFr_o hG hYm81 rfl (.inr rfl) rfl
        replace hM := zE_n hM (by first | (have q1 := zhx q1; have q2 := zhx q2; have q3 := zhx q3; have q7 := zhx q7; omega) | (simp only [zhx q1, zhx q2, zhx q3, zhx q7] at h4 h5 h8 ⊢ <;> omega))
        replace hM := zE_n hM (by first | (have q1 := zhx q1; have q2 := zhx q2; have q3 := zhx q3; have q7 := zhx q7; omega) | (simp only [zhx q1, zhx q2, zhx q3, zhx q7] at h4 h5 h8 ⊢ <;> omega))
        obtain ⟨Ym85, hYm85, hM⟩ := zl_x hM
        have hR86 : zRx [] 0 Z Ym85 := zRx_o hR82 hYm85 rfl
        have hV87 : zV Ym85 := zV_o hV83 hYm85 rfl
        have hG88 := yFr_o hG84 hYm85 rfl (.inr rfl) rfl
        obtain ⟨v89, hv89, hM⟩ := zl_x hM
        have q90 := zhd (show v6 = (zf_410 Ym85 a1) from hv6.trans (rr_3 (zRx_1 hR86) hV87  (by first | (have q1 := zhx q1; omega) | (have q1 := zhx q1; have q2 := zhx q2; have q3 := zhx q3; have q7 := zhx q7; omega)) (by first | (have q1 := zhx q1; omega) | (have q1 := zhx q1; have q2 := zhx q2; have q3 := zhx q3; have q7 := zhx q7; omega)) rfl rfl))
        have q91 := zhd (hv89)
        have q92 := zhd (zVr_11_10 (a := 3815) hV (by omega))
        have q93 := zhd (((zu_ne (k' := 2) (b' := 0) (i' := 0) (j' := 3815) hYm85 (fun q => absurd q.1 (by decide))).trans (zu_ne (k' := 2) (b' := 0) (i' := 0) (j' := 3815) hYm81 (fun q => absurd q.1 (by decide)))))
        have q94 := zhd ((fun n9 => (z410_s hv89 n9).1 : v89 ≠ 0 → (Ym85 2 0 0 3815) < 12))
        rcases zE_c hM with ⟨h95, hM⟩ | ⟨h95, hM⟩
        · obtain ⟨Ym96, hYm96, hM⟩ := zl_x hM
          have hR97 : zRx [] 0 Z Ym96 := zRx_o hR86 hYm96 rfl
          have hV98 : zV Ym96 := zV_o hV87 hYm96 rfl
          have hG99 := yFr_o hG88 hYm96 rfl (.inr rfl) rfl
          have th9 := (zu_at hYm96)
          obtain rfl : C = _ := hC
          obtain rfl : M = _ := hM
          exact ⟨zRx_1 hR97, hV98, ⟨Z, _, .inl ⟨rfl, yFr_w hG99 (by decide)⟩, zFc_r, yFr_r⟩, zThr_e th9 (by decide), (zNq_f hNq hV hG99.1 ⟨rfl, rfl⟩)⟩
        · obtain ⟨Ym100, hYm100, hM⟩ := zl_x hM
          have hR101 : zRx [] 0 Z Ym100 := zRx_o hR86 hYm100 rfl
          have hV102 : zV Ym100 := zV_o hV87 hYm100 rfl
          have hG103 := yFr_o hG88 hYm100 rfl (.inr rfl) rfl
          exact False.elim (by have q1 := zhx q1; have q2 := zhx q2; have q3 := zhx q3; have q7 := zhx q7; have q90 := zhx q90; have q91 := zhx q91; have q92 := zhx q92; have q93 := zhx q93; have q94 := zhx q94; first | omega | grind)
    · replace hM := zE_n hM (by first | (have q1 := zhx q1; have q2 := zhx q2; have q3 := zhx q3; omega) | (simp only [zhx q1, zhx q2, zhx q3] at h4 h5 ⊢ <;> omega))
      replace hM := zE_n hM (by first | (have q1 := zhx q1; have q2 := zhx q2; have q3 := zhx q3; omega) | (simp only [zhx q1, zhx q2, zhx q3] at h4 h5 ⊢ <;> omega))
      obtain ⟨Ym104, hYm104, hM⟩ := zl_x hM
      have hR105 : zRx [] 0 Z Ym104 := zRx_o hRb hYm104 rfl
      have hV106 : zV Ym104 := zV_o hV hYm104 rfl
      have hG107 := yFr_o hG hYm104 rfl (.inr rfl) rfl
      rcases zE_c hM with ⟨h108, hM⟩ | ⟨h108, hM⟩
      · obtain ⟨Ym109, hYm109, hM⟩ := zl_x hM
        have hR110 : zRx [] 0 Z Ym109 := zRx_o hR105 hYm109 rfl
        have hV111 : zV Ym109 := zV_o hV106 hYm109 rfl
        have hG112 := yFr_o hG107 hYm109 rfl (.inr rfl) rfl
        have th9 := (zu_at hYm109)
        obtain rfl : C = _ := hC
        obtain rfl : M = _ := hM
        exact ⟨zRx_1 hR110, hV111, ⟨Z, _, .inl ⟨rfl, yFr_w hG112 (by decide)⟩, zFc_r, yFr_r⟩, zThr_e th9 (by decide), (zNq_f hNq hV hG112.1 ⟨rfl, rfl⟩)⟩
      · rcases zE_c hM with ⟨h113, hM⟩ | ⟨h113, hM⟩
        · obtain ⟨Ym114, hYm114, hM⟩ := zl_x hM
          have hR115 : zRx [] 0 Z Ym114 := zRx_o hR105 hYm114 rfl
          have hV116 : zV Ym114 := zV_o hV106 hYm114 rfl
          have hG117 := yFr_o hG107 hYm114 rfl (.inr rfl) rfl
          have th9 := (zu_at hYm114)
          obtain rfl : C = _ := hC
          obtain rfl : M = _ := hM
          exact ⟨zRx_1 hR115, hV116, ⟨Z, _, .inl ⟨rfl, yFr_w hG117 (by decide)⟩, zFc_r, yFr_r⟩, zThr_e th9 (by decide), (zNq_f hNq hV hG117.1 ⟨rfl, rfl⟩)⟩
        · obtain ⟨Ym118, hYm118, hM⟩ := zl_x hM
          have hR119 : zRx [] 0 Z Ym118 := zRx_o hR105 hYm118 rfl
          have hV120 : zV Ym118 := zV_o hV106 hYm118 rfl
          have hG121 := yFr_o hG107 hYm118 rfl (.inr rfl) rfl
          obtain ⟨v122, hv122, hM⟩ := zl_x hM
          have q123 := zhd (zVr_11_10 (a := 3815) hV (by omega))
          have q124 := zhd (((zu_ne (k' := 2) (b' := 0) (i' := 0) (j' := 3815) hYm118 (fun q => absurd q.1 (by decide))).trans (zu_ne (k' := 2) (b' := 0) (i' := 0) (j' := 3815) hYm104 (fun q => absurd q.1 (by decide)))))
          have q125 := zhd ((fun n9 => (z410_s hv122 n9).1 : v122 ≠ 0 → (Ym118 2 0 0 3815) < 12))
          rcases zE_c hM with ⟨h126, hM⟩ | ⟨h126, hM⟩
          · obtain ⟨Ym127, hYm127, hM⟩ := zl_x hM
            have hR128 : zRx [] 0 Z Ym127 := zRx_o hR119 hYm127 rfl
            have hV129 : zV Ym127 := zV_o hV120 hYm127 rfl
            have hG130 := yFr_o hG121 hYm127 rfl (.inr rfl) rfl
            exact False.elim (by have q1 := zhx q1; have q2 := zhx q2; have q3 := zhx q3; have q123 := zhx q123; have q124 := zhx q124; have q125 := zhx q125; first | omega | grind)
          · obtain ⟨Ym131, hYm131, hM⟩ := zl_x hM
            have hR132 : zRx [] 0 Z Ym131 := zRx_o hR119 hYm131 rfl
            have hV133 : zV Ym131 := zV_o hV120 hYm131 rfl
            have hG134 := yFr_o hG121 hYm131 rfl (.inr rfl) rfl
            exact False.elim (by have q1 := zhx q1; have q2 := zhx q2; have q3 := zhx q3; have q123 := zhx q123; have q124 := zhx q124; have q125 := zhx q125; first | omega | grind)
  · rcases zE_c hM with ⟨h135, hM⟩ | ⟨h135, hM⟩
    · obtain ⟨Ym136, hYm136, hM⟩ := zl_x hM
      have hR137 : zRx [] 0 Z Ym136 := zRx_o hRb hYm136 rfl
      have hV138 : zV Ym136 := zV_o hV hYm136 rfl
      have hG139 := yFr_o hG hYm136 rfl (.inr rfl) rfl
      have th9 := (zu_at hYm136)
      obtain rfl : C = _ := hC
      obtain rfl : M = _ := hM
      exact ⟨zRx_1 hR137, hV138, ⟨Z, _, .inl ⟨rfl, yFr_w hG139 (by decide)⟩, zFc_r, yFr_r⟩, zThr_e th9 (by decide), (zNq_f hNq hV hG139.1 ⟨rfl, rfl⟩)⟩
    · rcases zE_c hM with ⟨h140, hM⟩ | ⟨h140, hM⟩
      · obtain ⟨Ym141, hYm141, hM⟩ := zl_x hM
        have hR142 : zRx [] 0 Z Ym141 := zRx_o hRb hYm141 rfl
        have hV143 : zV Ym141 := zV_o hV hYm141 rfl
        have hG144 := yFr_o hG hYm141 rfl (.inr rfl) rfl
        have th9 := (zu_at hYm141)
        obtain rfl : C = _ := hC
        obtain rfl : M = _ := hM
        exact ⟨zRx_1 hR142, hV143, ⟨Z, _, .inl ⟨rfl, yFr_w hG144 (by decide)⟩, zFc_r, yFr_r⟩, zThr_e th9 (by decide), (zNq_f hNq hV hG144.1 ⟨rfl, rfl⟩)⟩
      · obtain ⟨Ym145, hYm145, hM⟩ := zl_x hM
        have hR146 : zRx [] 0 Z Ym145 := zRx_o hRb hYm145 rfl
        have hV147 : zV Ym145 := zV_o hV hYm145 rfl
        have hG148 := yFr_o hG hYm145 rfl (.inr rfl) rfl
        rcases zE_c hM with ⟨h149, hM⟩ | ⟨h149, hM⟩
        · obtain ⟨Ym150, hYm150, hM⟩ := zl_x hM
          have hR151 : zRx [] 0 Z Ym150 := zRx_o hR146 hYm150 rfl
          have hV152 : zV Ym150 := zV_o hV147 hYm150 rfl
          have hG153 := yFr_o hG148 hYm150 rfl (.inr rfl) rfl
          exact False.elim (by have q1 := zhx q1; have q2 := zhx q2; have q3 := zhx q3; first | omega | grind)
        · rcases zE_c hM with ⟨h154, hM⟩ | ⟨h154, hM⟩
          · obtain ⟨Ym155, hYm155, hM⟩ := zl_x hM
            have hR156 : zRx [] 0 Z Ym155 := zRx_o hR146 hYm155 rfl
            have hV157 : zV Ym155 := zV_o hV147 hYm155 rfl
            have hG158 := yFr_o hG148 hYm155 rfl (.inr rfl) rfl
            exact False.elim (by have q1 := zhx q1; have q2 := zhx q2; have q3 := zhx q3; first | omega | grind)
          · obtain ⟨Ym159, hYm159, hM⟩ := zl_x hM
            have hR160 : zRx [] 0 Z Ym159 := zRx_o hR146 hYm159 rfl
            have hV161 : zV Ym159 := zV_o hV147 hYm159 rfl
            have hG162 := yFr_o hG148 hYm159 rfl (.inr rfl) rfl
            obtain ⟨v163, hv163, hM⟩ := zl_x hM
            have q164 := zhd (zVr_11_10 (a := 3815) hV (by omega))
            have q165 := zhd (((zu_ne (k' := 2) (b' := 0) (i' := 0) (j' := 3815) hYm159 (fun q => absurd q.1 (by decide))).trans (zu_ne (k' := 2) (b' := 0) (i' := 0) (j' := 3815) hYm145 (fun q => absurd q.1 (by decide)))))
            have q166 := zhd ((fun n9 => (z410_s hv163 n9).1 : v163 ≠ 0 → (Ym159 2 0 0 3815) < 12))
            rcases zE_c hM with ⟨h167, hM⟩ | ⟨h167, hM⟩
            · obtain ⟨Ym168, hYm168, hM⟩ := zl_x hM
              have hR169 : zRx [] 0 Z Ym168 := zRx_o hR160 hYm168 rfl
              have hV170 : zV Ym168 := zV_o hV161 hYm168 rfl
              have hG171 := yFr_o hG162 hYm168 rfl (.inr rfl) rfl
              exact False.elim (by have q1 := zhx q1; have q2 := zhx q2; have q3 := zhx q3; have q164 := zhx q164; have q165 := zhx q165; have q166 := zhx q166; first | omega | grind)
            · obtain ⟨Ym172, hYm172, hM⟩ := zl_x hM
              have hR173 : zRx [] 0 Z Ym172 := zRx_o hR160 hYm172 rfl
              have hV174 : zV Ym172 := zV_o hV161 hYm172 rfl
              have hG175 := yFr_o hG162 hYm172 rfl (.inr rfl) rfl
              exact False.elim (by have q1 := zhx q1; have q2 := zhx q2; have q3 := zhx q3; have q164 := zhx q164; have q165 := zhx q165; have q166 := zhx q166; first | omega | grind)

/- face round -/
theorem rf_round {Z Y : qz_Z} {dm : qz_Z → Int → Int → Int → Int → Int → Int → Int → qz_Z} {a1 a2 a3 : Int} (hRa : zR 0 Z Y) (hV : zV Y) (hI : zI none Z) (hd : zDf dm) (hNk : zNk Y)  {C : qz_Z × Int × Int} {M : qz_Z × Int} (hC : zE C (zx_237 Z a1 a2 a3)) (hM : zE M (zy_496 Y dm a1 a2 a3)) : zR 0 C.1 M.1 ∧ zV M.1 ∧ zDd [5102, 5103] [5102, 5103, 99999] Z Y dm C.1 M.1 ∧ zThr [(24, 1), (13, 2)] C.2 (M.1 1 0 0 2) M.2 ∧ zNk M.1 := by
  have hRb := zRx_0 hRa
  have hF : zFc [] 0 Z Z := zFc_r
  have hG : yFr [99999] Y Y := yFr_r
  unfold zx_237 at hC
  unfold zy_496 at hM
  have q1 := zhd (zVr_11_9 (a := 3500) hV (by omega))
  have q2 := zhd ((zRl_11_9 (a := 3500) hRa (by omega)))
  rcases zE_c hC with ⟨h3, hC⟩ | ⟨h3, hC⟩
  · rcases zE_c hC with ⟨h4, hC⟩ | ⟨h4, hC⟩
    · obtain ⟨v5, hv5, hC⟩ := zl_x hC
      have q6 := zhd (show v5 = (zf_361 Y a3) from hv5.trans (rr_129r hRa hV   rfl rfl))
      rcases zE_c hC with ⟨h7, hC⟩ | ⟨h7, hC⟩
      · replace hM := zE_n hM (by first | (have q1 := zhx q1; have q2 := zhx q2; have q6 := zhx q6; omega) | (simp only [zhx q1, zhx q2, zhx q6] at h3 h4 h7 ⊢ <;> omega))
        replace hM := zE_n hM (by first | (have q1 := zhx q1; have q2 := zhx q2; have q6 := zhx q6; omega) | (simp only [zhx q1, zhx q2, zhx q6] at h3 h4 h7 ⊢ <;> omega))
        obtain ⟨Ym8, hYm8, hM⟩ := zl_x hM
        have hR9 : zRx [] 0 Z Ym8 := zRx_o hRb hYm8 rfl
        have hV10 : zV Ym8 := zV_o hV hYm8 rfl
        have hG11 := yFr_o hG hYm8 rfl (.inr rfl) rfl
        replace hM := zE_n hM (by first | (have q1 := zhx q1; have q2 := zhx q2; have q6 := zhx q6; omega) | (simp only [zhx q1, zhx q2, zhx q6] at h3 h4 h7 ⊢ <;> omega))
        replace hM := zE_n hM (by first | (have q1 := zhx q1; have q2 := zhx q2; have q6 := zhx q6; omega) | (simp only [zhx q1, zhx q2, zhx q6] at h3 h4 h7 ⊢ <;> omega))
        obtain ⟨v12, hv12, hM⟩ := zl_x hM
        have q13 := zhd (show v5 = (zf_361 Ym8 a3) from hv5.trans (rr_129r (zRx_1 hR9) hV10   rfl rfl))
        have q14 := zhd (hv12)
        have q15 := zhd ((fun n9 => ⟨(z361_s hV10 hv12 n9).1, (z361_s hV10 hv12 n9).2.1⟩ : v12 ≠ 0 → 0 ≤ a3 ∧ a3 ≤ 777777))
        rcases zE_c hM with ⟨h16, hM⟩ | ⟨h16, hM⟩
        · obtain ⟨Ym17, hYm17, hM⟩ := zl_x hM
          have hR18 : zRx [] 0 Z Ym17 := zRx_o hR9 hYm17 rfl
          have hV19 : zV Ym17 := zV_o hV10 hYm17 rfl
          have hG20 := yFr_o hG11 hYm17 rfl (.inr rfl) rfl
          exact False.elim (by have q1 := zhx q1; have q2 := zhx q2; have q6 := zhx q6; have q13 := zhx q13; have q14 := zhx q14; have q15 := zhx q15; first | omega | grind)
        · obtain ⟨Ym21, hYm21, hM⟩ := zl_x hM
          have hR22 : zRx [] 0 Z Ym21 := zRx_o hR9 hYm21 rfl
          have hV23 : zV Ym21 := zV_o hV10 hYm21 rfl
          have hG24 := yFr_o hG11 hYm21 rfl (.inr rfl) rfl
          obtain ⟨Zc25, hZc25, hC⟩ := zl_x hC
          obtain ⟨Ym26, hYm26, hM⟩ := zl_x hM
          have hR27 : zRx [] 0 Zc25 Ym26 := zRx_dd hR22 hI hd hZc25 hYm26
          have hV28 : zV Ym26 := zV_dm hV23 hd hYm26
          have hNk_29 : zNk Ym26 := (zNk_f (zNk_f hNk hG24.1 rfl) (yFa_dm hd hYm26) rfl)
          have hF30 : zFc [5102, 5103] 0 Zc25 Zc25 := zFc_r
          have hG31 : yFr [5102, 5103] Ym26 Ym26 := yFr_r
          obtain ⟨Zc32, hZc32, hC⟩ := zl_x hC
          obtain ⟨Ym33, hYm33, hM⟩ := zl_x hM
          have hV34 : zV Ym33 := zV_n hV28 hYm33 (zvn_51_2 (x := a1) (by first | (have q14 := zhx q14; have q15 := zhx q15; omega) | (have q1 := zhx q1; have q2 := zhx q2; have q6 := zhx q6; have q13 := zhx q13; have q14 := zhx q14; have q15 := zhx q15; omega)) (by first | (have q14 := zhx q14; have q15 := zhx q15; omega) | (have q1 := zhx q1; have q2 := zhx q2; have q6 := zhx q6; have q13 := zhx q13; have q14 := zhx q14; have q15 := zhx q15; omega)) (by first | (have q14 := zhx q14; have q15 := zhx q15; omega) | (have q1 := zhx q1; have q2 := zhx q2; have q6 := zhx q6; have q13 := zhx q13; have q14 := zhx q14; have q15 := zhx q15; omega)))
          have hR35 : zRx [] 0 Zc32 Ym33 := zRx_w hR27 (ac_51_2 (by first | (have q14 := zhx q14; have q15 := zhx q15; omega) | (have q1 := zhx q1; have q2 := zhx q2; have q6 := zhx q6; have q13 := zhx q13; have q14 := zhx q14; have q15 := zhx q15; omega)) (by first | (have q14 := zhx q14; have q15 := zhx q15; omega) | (have q1 := zhx q1; have q2 := zhx q2; have q6 := zhx q6; have q13 := zhx q13; have q14 := zhx q14; have q15 := zhx q15; omega)) (by first | (have q14 := zhx q14; have q15 := zhx q15; omega) | (have q1 := zhx q1; have q2 := zhx q2; have q6 := zhx q6; have q13 := zhx q13; have q14 := zhx q14; have q15 := zhx q15; omega))) hZc32 hYm33 (by first | rfl | (have q14 := zhx q14; have q15 := zhx q15; omega) | (simp only [zhx q14, zhx q15] <;> omega) | (have q1 := zhx q1; have q2 := zhx q2; have q6 := zhx q6; have q13 := zhx q13; have q14 := zhx q14; have q15 := zhx q15; omega))
          have hF36 := zFc_u hF30 hZc32 rfl rfl
          have hG37 := yFr_u hG31 hYm33 (zcm_s (ac_51_2 (a := 3522 + 10 * a1) (x := a1) (by first | (have q14 := zhx q14; have q15 := zhx q15; omega) | (have q1 := zhx q1; have q2 := zhx q2; have q6 := zhx q6; have q13 := zhx q13; have q14 := zhx q14; have q15 := zhx q15; omega)) (by first | (have q14 := zhx q14; have q15 := zhx q15; omega) | (have q1 := zhx q1; have q2 := zhx q2; have q6 := zhx q6; have q13 := zhx q13; have q14 := zhx q14; have q15 := zhx q15; omega)) (by first | (have q14 := zhx q14; have q15 := zhx q15; omega) | (have q1 := zhx q1; have q2 := zhx q2; have q6 := zhx q6; have q13 := zhx q13; have q14 := zhx q14; have q15 := zhx q15; omega)))) rfl
          obtain ⟨Zc38, hZc38, hC⟩ := zl_x hC
          obtain ⟨Ym39, hYm39, hM⟩ := zl_x hM
          have hV40 : zV Ym39 := zV_n hV34 hYm39 (zvn_51_3 (x := a1) (by first | (have q14 := zhx q14; have q15 := zhx q15; omega) | (have q1 := zhx q1; have q2 := zhx q2; have q6 := zhx q6; have q13 := zhx q13; have q14 := zhx q14; have q15 := zhx q15; omega)) (by first | (have q14 := zhx q14; have q15 := zhx q15; omega) | (have q1 := zhx q1; have q2 := zhx q2; have q6 := zhx q6; have q13 := zhx q13; have q14 := zhx q14; have q15 := zhx q15; omega)) (by first | (have q14 := zhx q14; have q15 := zhx q15; omega) | (have q1 := zhx q1; have q2 := zhx q2; have q6 := zhx q6; have q13 := zhx q13; have q14 := zhx q14; have q15 := zhx q15; omega)))
          have hR41 : zRx [] 0 Zc38 Ym39 := zRx_w hR35 (ac_51_3 (by first | (have q14 := zhx q14; have q15 := zhx q15; omega) | (have q1 := zhx q1; have q2 := zhx q2; have q6 := zhx q6; have q13 := zhx q13; have q14 := zhx q14; have q15 := zhx q15; omega)) (by first | (have q14 := zhx q14; have q15 := zhx q15; omega) | (have q1 := zhx q1; have q2 := zhx q2; have q6 := zhx q6; have q13 := zhx q13; have q14 := zhx q14; have q15 := zhx q15; omega)) (by first | (have q14 := zhx q14; have q15 := zhx q15; omega) | (have q1 := zhx q1; have q2 := zhx q2; have q6 := zhx q6; have q13 := zhx q13; have q14 := zhx q14; have q15 := zhx q15; omega))) hZc38 hYm39 (by first | rfl | (have q14 := zhx q14; have q15 := zhx q15; omega) | (simp only [zhx q14, zhx q15] <;> omega) | (have q1 := zhx q1; have q2 := zhx q2; have q6 := zhx q6; have q13 := zhx q13; have q14 := zhx q14; have q15 := zhx q15; omega))
          have hF42 := zFc_u hF36 hZc38 rfl rfl
          have hG43 := yFr_u hG37 hYm39 (zcm_s (ac_51_3 (a := 3523 + 10 * a1) (x := a1) (by first | (have q14 := zhx q14; have q15 := zhx q15; omega) | (have q1 := zhx q1; have q2 := zhx q2; have q6 := zhx q6; have q13 := zhx q13; have q14 := zhx q14; have q15 := zhx q15; omega)) (by first | (have q14 := zhx q14; have q15 := zhx q15; omega) | (have q1 := zhx q1; have q2 := zhx q2; have q6 := zhx q6; have q13 := zhx q13; have q14 := zhx q14; have q15 := zhx q15; omega)) (by first | (have q14 := zhx q14; have q15 := zhx q15; omega) | (have q1 := zhx q1; have q2 := zhx q2; have q6 := zhx q6; have q13 := zhx q13; have q14 := zhx q14; have q15 := zhx q15; omega)))) rfl
          obtain ⟨v44, hv44, hC⟩ := zl_x hC
          have q45 := zhd (show v44 = (zf_374 Ym39 a3) from hv44.trans (rr_133r (zRx_1 hR41) hV40  (by first | (have q14 := zhx q14; have q15 := zhx q15; omega) | (have q1 := zhx q1; have q2 := zhx q2; have q6 := zhx q6; have q13 := zhx q13; have q14 := zhx q14; have q15 := zhx q15; omega)) rfl rfl))
          obtain ⟨v46, hv46, hM⟩ := zl_x hM
          have q47 := zhd (hv46)
          have th9 := ((((zu_ne (k' := 1) (b' := 0) (i' := 0) (j' := 2) hYm39 (fun q => absurd q.1 (by decide))).trans (zu_ne (k' := 1) (b' := 0) (i' := 0) (j' := 2) hYm33 (fun q => absurd q.1 (by decide)))).trans (zTh_dm hd hYm26 (by decide))).trans (zu_at hYm21))
          have q48 := zhd ((zu_at hYm39))
          obtain rfl : C = _ := hC
          obtain rfl : M = _ := hM
          exact ⟨zRx_1 hR41, hV40, ⟨Zc25, Ym26, .inr ⟨23, a1, a2, a3, 0, 0, 0, 24, Ym21, hZc25, yFr_w hG24 (by decide), hYm26, (by unfold zcode; omega)⟩, zFc_w hF42 (by decide), yFr_w hG43 (by decide)⟩, zThr_a th9 (by first | rfl | (have q1 := zhx q1; have q2 := zhx q2; have q6 := zhx q6; have q13 := zhx q13; have q14 := zhx q14; have q15 := zhx q15; have q45 := zhx q45; have q47 := zhx q47; omega) | (simp only [zhx q1, zhx q2, zhx q6, zhx q13, zhx q14, zhx q15, zhx q45, zhx q47] <;> omega) | (have q1 := zhx q1; have q2 := zhx q2; have q6 := zhx q6; have q13 := zhx q13; have q14 := zhx q14; have q15 := zhx q15; have q45 := zhx q45; have q47 := zhx q47; refine w3z ?_ ?_ ?_ <;> omega) | (have q1 := zhx q1; have q2 := zhx q2; have q6 := zhx q6; have q13 := zhx q13; have q14 := zhx q14; have q15 := zhx q15; have q45 := zhx q45; have q47 := zhx q47; refine w3y ?_ ?_ ?_ <;> omega) | (have q1 := zhx q1; have q2 := zhx q2; have q6 := zhx q6; have q13 := zhx q13; have q14 := zhx q14; have q15 := zhx q15; have q45 := zhx q45; have q47 := zhx q47; refine z2o ?_ ?_ ?_ <;> omega)), (zNk_put (Y := Ym26) (M := Ym39) (q := a1) (x := a3) hNk_29 (fun k ne k0 k1 => ((zu_ne (k' := 2) (b' := 0) (i' := 0) (j' := 3523 + 10 * k) hYm39 (fun x => absurd x.2.2.2 (by first | (have q14 := zhx q14; have q15 := zhx q15; omega) | (have q1 := zhx q1; have q2 := zhx q2; have q6 := zhx q6; have q13 := zhx q13; have q14 := zhx q14; have q15 := zhx q15; omega)))).trans (zu_ne (k' := 2) (b' := 0) (i' := 0) (j' := 3523 + 10 * k) hYm33 (fun x => absurd x.2.2.2 (by first | (have q14 := zhx q14; have q15 := zhx q15; omega) | (have q1 := zhx q1; have q2 := zhx q2; have q6 := zhx q6; have q13 := zhx q13; have q14 := zhx q14; have q15 := zhx q15; omega)))))) (by first | (have q14 := zhx q14; have q15 := zhx q15; have q48 := zhx q48; omega) | (have q1 := zhx q1; have q2 := zhx q2; have q6 := zhx q6; have q13 := zhx q13; have q14 := zhx q14; have q15 := zhx q15; have q48 := zhx q48; omega)) (z361_s (hV10) hv12 (by have q1 := zhx q1; have q2 := zhx q2; have q6 := zhx q6; have q13 := zhx q13; have q14 := zhx q14; have q15 := zhx q15; omega)))⟩
      · replace hM := zE_n hM (by first | (have q1 := zhx q1; have q2 := zhx q2; have q6 := zhx q6; omega) | (simp only [zhx q1, zhx q2, zhx q6] at h3 h4 h7 ⊢ <;> omega))
        replace hM := zE_n hM (by first | (have q1 := zhx q1; have q2 := zhx q2; have q6 := zhx q6; omega) | (simp only [zhx q1, zhx q2, zhx q6] at h3 h4 h7 ⊢ <;> omega))
        obtain ⟨Ym49, hYm49, hM⟩ := zl_x hM
        have hR50 : zRx [] 0 Z Ym49 := zRx_o hRb hYm49 rfl
        have hV51 : zV Ym49 := zV_o hV hYm49 rfl
        have hG52 := yFr_o hG hYm49 rfl (.inr rfl) rfl
        replace hM := zE_n hM (by first | (have q1 := zhx q1; have q2 := zhx q2; have q6 := zhx q6; omega) | (simp only [zhx q1, zhx q2, zhx q6] at h3 h4 h7 ⊢ <;> omega))
        replace hM := zE_n hM (by first | (have q1 := zhx q1; have q2 := zhx q2; have q6 := zhx q6; omega) | (simp only [zhx q1, zhx q2, zhx q6] at h3 h4 h7 ⊢ <;> omega))
        obtain ⟨v53, hv53, hM⟩ := zl_x hM
        have q54 := zhd (show v5 = (zf_361 Ym49 a3) from hv5.trans (rr_129r (zRx_1 hR50) hV51   rfl rfl))
        have q55 := zhd (hv53)
        have q56 := zhd ((fun n9 => ⟨(z361_s hV51 hv53 n9).1, (z361_s hV51 hv53 n9).2.1⟩ : v53 ≠ 0 → 0 ≤ a3 ∧ a3 ≤ 777777))
        rcases zE_c hM with ⟨h57, hM⟩ | ⟨h57, hM⟩
        · obtain ⟨Ym58, hYm58, hM⟩ := zl_x hM
          have hR59 : zRx [] 0 Z Ym58 := zRx_o hR50 hYm58 rfl
          have hV60 : zV Ym58 := zV_o hV51 hYm58 rfl
          have hG61 := yFr_o hG52 hYm58 rfl (.inr rfl) rfl
          have th9 := (zu_at hYm58)
          obtain rfl : C = _ := hC
          obtain rfl : M = _ := hM
          exact ⟨zRx_1 hR59, hV60, ⟨Z, _, .inl ⟨rfl, yFr_w hG61 (by decide)⟩, zFc_r, yFr_r⟩, zThr_e th9 (by decide), (zNk_f hNk hG61.1 rfl)⟩
        · obtain ⟨Ym62, hYm62, hM⟩ := zl_x hM
          have hR63 : zRx [] 0 Z Ym62 := zRx_o hR50 hYm62 rfl
          have hV64 : zV Ym62 := zV_o hV51 hYm62 rfl
          have hG65 := yFr_o hG52 hYm62 rfl (.inr rfl) rfl
          exact False.elim (by have q1 := zhx q1; have q2 := zhx q2; have q6 := zhx q6; have q54 := zhx q54; have q55 := zhx q55; have q56 := zhx q56; first | omega | grind)
    · replace hM := zE_n hM (by first | (have q1 := zhx q1; have q2 := zhx q2; omega) | (simp only [zhx q1, zhx q2] at h3 h4 ⊢ <;> omega))
      replace hM := zE_n hM (by first | (have q1 := zhx q1; have q2 := zhx q2; omega) | (simp only [zhx q1, zhx q2] at h3 h4 ⊢ <;> omega))
      obtain ⟨Ym66, hYm66, hM⟩ := zl_x hM
      have hR67 : zRx [] 0 Z Ym66 := zRx_o hRb hYm66 rfl
      have hV68 : zV Ym66 := zV_o hV hYm66 rfl
      have hG69 := yFr_o hG hYm66 rfl (.inr rfl) rfl
      rcases zE_c hM with ⟨h70, hM⟩ | ⟨h70, hM⟩
      · obtain ⟨Ym71, hYm71, hM⟩ := zl_x hM
        have hR72 : zRx [] 0 Z Ym71 := zRx_o hR67 hYm71 rfl
        have hV73 : zV Ym71 := zV_o hV68 hYm71 rfl
        have hG74 := yFr_o hG69 hYm71 rfl (.inr rfl) rfl
        have th9 := (zu_at hYm71)
        obtain rfl : C = _ := hC
        obtain rfl : M = _ := hM
        exact ⟨zRx_1 hR72, hV73, ⟨Z, _, .inl ⟨rfl, yFr_w hG74 (by decide)⟩, zFc_r, yFr_r⟩, zThr_e th9 (by decide), (zNk_f hNk hG74.1 rfl)⟩
      · rcases zE_c hM with ⟨h75, hM⟩ | ⟨h75, hM⟩
        · obtain ⟨Ym76, hYm76, hM⟩ := zl_x hM
          have hR77 : zRx [] 0 Z Ym76 := zRx_o hR67 hYm76 rfl
          have hV78 : zV Ym76 := zV_o hV68 hYm76 rfl
          have hG79 := yFr_o hG69 hYm76 rfl (.inr rfl) rfl
          have th9 := (zu_at hYm76)
          obtain rfl : C = _ := hC
          obtain rfl : M = _ := hM
          exact ⟨zRx_1 hR77, hV78, ⟨Z, _, .inl ⟨rfl, yFr_w hG79 (by decide)⟩, zFc_r, yFr_r⟩, zThr_e th9 (by decide), (zNk_f hNk hG79.1 rfl)⟩
        · obtain ⟨v80, hv80, hM⟩ := zl_x hM
          have q81 := zhd ((fun n9 => ⟨(z361_s hV68 hv80 n9).1, (z361_s hV68 hv80 n9).2.1⟩ : v80 ≠ 0 → 0 ≤ a3 ∧ a3 ≤ 777777))
          rcases zE_c hM with ⟨h82, hM⟩ | ⟨h82, hM⟩
          · obtain ⟨Ym83, hYm83, hM⟩ := zl_x hM
            have hR84 : zRx [] 0 Z Ym83 := zRx_o hR67 hYm83 rfl
            have hV85 : zV Ym83 := zV_o hV68 hYm83 rfl
            have hG86 := yFr_o hG69 hYm83 rfl (.inr rfl) rfl
            have th9 := (zu_at hYm83)
            obtain rfl : C = _ := hC
            obtain rfl : M = _ := hM
            exact ⟨zRx_1 hR84, hV85, ⟨Z, _, .inl ⟨rfl, yFr_w hG86 (by decide)⟩, zFc_r, yFr_r⟩, zThr_e th9 (by decide), (zNk_f hNk hG86.1 rfl)⟩
          · obtain ⟨Ym87, hYm87, hM⟩ := zl_x hM
            have hR88 : zRx [] 0 Z Ym87 := zRx_o hR67 hYm87 rfl
            have hV89 : zV Ym87 := zV_o hV68 hYm87 rfl
            have hG90 := yFr_o hG69 hYm87 rfl (.inr rfl) rfl
            exact False.elim (by have q1 := zhx q1; have q2 := zhx q2; have q81 := zhx q81; first | omega | grind)
  · rcases zE_c hM with ⟨h91, hM⟩ | ⟨h91, hM⟩
    · obtain ⟨Ym92, hYm92, hM⟩ := zl_x hM
      have hR93 : zRx [] 0 Z Ym92 := zRx_o hRb hYm92 rfl
      have hV94 : zV Ym92 := zV_o hV hYm92 rfl
      have hG95 := yFr_o hG hYm92 rfl (.inr rfl) rfl
      have th9 := (zu_at hYm92)
      obtain rfl : C = _ := hC
      obtain rfl : M = _ := hM
      exact ⟨zRx_1 hR93, hV94, ⟨Z, _, .inl ⟨rfl, yFr_w hG95 (by decide)⟩, zFc_r, yFr_r⟩, zThr_e th9 (by decide), (zNk_f hNk hG95.1 rfl)⟩
    · rcases zE_c hM with ⟨h96, hM⟩ | ⟨h96, hM⟩
      · obtain ⟨Ym97, hYm97, hM⟩ := zl_x hM
        have hR98 : zRx [] 0 Z Ym97 := zRx_o hRb hYm97 rfl
        have hV99 : zV Ym97 := zV_o hV hYm97 rfl
        have hG100 := yFr_o hG hYm97 rfl (.inr rfl) rfl
        have th9 := (zu_at hYm97)
        obtain rfl : C = _ := hC
        obtain rfl : M = _ := hM
        exact ⟨zRx_1 hR98, hV99, ⟨Z, _, .inl ⟨rfl, yFr_w hG100 (by decide)⟩, zFc_r, yFr_r⟩, zThr_e th9 (by decide), (zNk_f hNk hG100.1 rfl)⟩
      · obtain ⟨Ym101, hYm101, hM⟩ := zl_x hM
        have hR102 : zRx [] 0 Z Ym101 := zRx_o hRb hYm101 rfl
        have hV103 : zV Ym101 := zV_o hV hYm101 rfl
        have hG104 := yFr_o hG hYm101 rfl (.inr rfl) rfl
        rcases zE_c hM with ⟨h105, hM⟩ | ⟨h105, hM⟩
        · obtain ⟨Ym106, hYm106, hM⟩ := zl_x hM
          have hR107 : zRx [] 0 Z Ym106 := zRx_o hR102 hYm106 rfl
          have hV108 : zV Ym106 := zV_o hV103 hYm106 rfl
          have hG109 := yFr_o hG104 hYm106 rfl (.inr rfl) rfl
          exact False.elim (by have q1 := zhx q1; have q2 := zhx q2; first | omega | grind)
        · rcases zE_c hM with ⟨h110, hM⟩ | ⟨h110, hM⟩
          · obtain ⟨Ym111, hYm111, hM⟩ := zl_x hM
            have hR112 : zRx [] 0 Z Ym111 := zRx_o hR102 hYm111 rfl
            have hV113 : zV Ym111 := zV_o hV103 hYm111 rfl
            have hG114 := yFr_o hG104 hYm111 rfl (.inr rfl) rfl
            exact False.elim (by have q1 := zhx q1; have q2 := zhx q2; first | omega | grind)
          · obtain ⟨v115, hv115, hM⟩ := zl_x hM
            have q116 := zhd ((fun n9 => ⟨(z361_s hV103 hv115 n9).1, (z361_s hV103 hv115 n9).2.1⟩ : v115 ≠ 0 → 0 ≤ a3 ∧ a3 ≤ 777777))
            rcases zE_c hM with ⟨h117, hM⟩ | ⟨h117, hM⟩
            · obtain ⟨Ym118, hYm118, hM⟩ := zl_x hM
              have hR119 : zRx [] 0 Z Ym118 := zRx_o hR102 hYm118 rfl
              have hV120 : zV Ym118 := zV_o hV103 hYm118 rfl
              have hG121 := yFr_o hG104 hYm118 rfl (.inr rfl) rfl
              exact False.elim (by have q1 := zhx q1; have q2 := zhx q2; have q116 := zhx q116; first | omega | grind)
            · obtain ⟨Ym122, hYm122, hM⟩ := zl_x hM
              have hR123 : zRx [] 0 Z Ym122 := zRx_o hR102 hYm122 rfl
              have hV124 : zV Ym122 := zV_o hV103 hYm122 rfl
              have hG125 := yFr_o hG104 hYm122 rfl (.inr rfl) rfl
              exact False.elim (by have q1 := zhx q1; have q2 := zhx q2; have q116 := zhx q116; first | omega | grind)

/- face pay -/
theorem rf_pay {Z Y : qz_Z} {dm : qz_Z → Int → Int → Int → Int → Int → Int → Int → qz_Z} {a1 a2 : Int} (hRa : zR 0 Z Y) (hV : zV Y) (hI : zI none Z) (hd : zDf dm) (hPb : zPb 0 Z)  {C : qz_Z × Int × Int} {M : qz_Z × Int} (hC : zE C (zx_228 Z a1 a2)) (hM : zE M (zy_9451 Y dm a1 a2)) : zR 0 C.1 M.1 ∧ zV M.1 ∧ zDd [1112, 1400, 4503, 4512, 5300, 5301, 5302, 5303, 5304] [1112, 1400, 4503, 4512, 5300, 5301, 5302, 5303, 5304, 99999] Z Y dm C.1 M.1 ∧ zThr [(24, 1), (13, 2), (15, 3)] C.2 (M.1 1 0 0 2) M.2 := by
  have hRb := zRx_0 hRa
  have hF : zFc [] 0 Z Z := zFc_r
  have hG : yFr [99999] Y Y := yFr_r
  unfold zx_228 at hC
  unfold zy_9451 at hM
  have q1 := zhd ((fun x0 x1 => zPb_y hPb hRa x0 x1 : 0 ≤ a1 → a1 < 8 → 0 ≤ Y 2 0 0 (1413 + 12 * a1) ∧ Y 2 0 0 (1413 + 12 * a1) ≤ 128797119))
  have q2 := zhd (zVr_11_4 (a := 1400) hV (by omega))
  have q3 := zhd ((zRl_11_4 (a := 1400) hRa (by omega)))
  rcases zE_c hC with ⟨h4, hC⟩ | ⟨h4, hC⟩
  · rcases zE_c hC with ⟨h5, hC⟩ | ⟨h5, hC⟩
    · have q6 := zhd ((zRl_45_3 (x := a1) (a := 1413 + 12 * a1) hRa (by have q1 := zhx q1; have q2 := zhx q2; have q3 := zhx q3; omega) (by have q1 := zhx q1; have q2 := zhx q2; have q3 := zhx q3; omega) (by have q1 := zhx q1; have q2 := zhx q2; have q3 := zhx q3; omega)))
      rcases zE_c hC with ⟨h7, hC⟩ | ⟨h7, hC⟩
      · replace hM := zE_n hM (by first | (have q1 := zhx q1; have q2 := zhx q2; have q3 := zhx q3; have q6 := zhx q6; omega) | (simp only [zhx q1, zhx q2, zhx q3, zhx q6] at h4 h5 h7 ⊢ <;> omega))
        replace hM := zE_n hM (by first | (have q1 := zhx q1; have q2 := zhx q2; have q3 := zhx q3; have q6 := zhx q6; omega) | (simp only [zhx q1, zhx q2, zhx q3, zhx q6] at h4 h5 h7 ⊢ <;> omega))
        obtain ⟨Ym8, hYm8, hM⟩ := zl_x hM
        have hR9 : zRx [] 0 Z Ym8 := zRx_o hRb hYm8 rfl
        have hV10 : zV Ym8 := zV_o hV hYm8 rfl
        have hG11 := yFr_o hG hYm8 rfl (.inr rfl) rfl
        replace hM := zE_n hM (by first | (have q1 := zhx q1; have q2 := zhx q2; have q3 := zhx q3; have q6 := zhx q6; omega) | (simp only [zhx q1, zhx q2, zhx q3, zhx q6] at h4 h5 h7 ⊢ <;> omega))
        replace hM := zE_n hM (by first | (have q1 := zhx q1; have q2 := zhx q2; have q3 := zhx q3; have q6 := zhx q6; omega) | (simp only [zhx q1, zhx q2, zhx q3, zhx q6] at h4 h5 h7 ⊢ <;> omega))
        obtain ⟨Ym12, hYm12, hM⟩ := zl_x hM
        have hR13 : zRx [] 0 Z Ym12 := zRx_o hR9 hYm12 rfl
        have hV14 : zV Ym12 := zV_o hV10 hYm12 rfl
        have hG15 := yFr_o hG11 hYm12 rfl (.inr rfl) rfl
        have q16 := zhd (((zu_ne (k' := 2) (b' := 0) (i' := 0) (j' := 1413 + 12 * a1) hYm12 (fun q => absurd q.1 (by decide))).trans (zu_ne (k' := 2) (b' := 0) (i' := 0) (j' := 1413 + 12 * a1) hYm8 (fun q => absurd q.1 (by decide)))))
        replace hM := zE_p hM (by first | (have q1 := zhx q1; have q2 := zhx q2; have q3 := zhx q3; have q6 := zhx q6; have q16 := zhx q16; omega) | (simp only [zhx q1, zhx q2, zhx q3, zhx q6, zhx q16] at h4 h5 h7 ⊢ <;> omega))
        obtain ⟨Ym17, hYm17, hM⟩ := zl_x hM
        have hR18 : zRx [] 0 Z Ym17 := zRx_o hR13 hYm17 rfl
        have hV19 : zV Ym17 := zV_o hV14 hYm17 rfl
        have hG20 := yFr_o hG15 hYm17 rfl (.inr rfl) rfl
        have th9 := (zu_at hYm17)
        obtain rfl : C = _ := hC
        obtain rfl : M = _ := hM
        exact ⟨zRx_1 hR18, hV19, ⟨Z, _, .inl ⟨rfl, yFr_w hG20 (by decide)⟩, zFc_r, yFr_r⟩, zThr_e th9 (by decide)⟩
      · replace hM := zE_n hM (by first | (have q1 := zhx q1; have q2 := zhx q2; have q3 := zhx q3; have q6 := zhx q6; omega) | (simp only [zhx q1, zhx q2, zhx q3, zhx q6] at h4 h5 h7 ⊢ <;> omega))
        replace hM := zE_n hM (by first | (have q1 := zhx q1; have q2 := zhx q2; have q3 := zhx q3; have q6 := zhx q6; omega) | (simp only [zhx q1, zhx q2, zhx q3, zhx q6] at h4 h5 h7 ⊢ <;> omega))
        obtain ⟨Ym21, hYm21, hM⟩ := zl_x hM
        have hR22 : zRx [] 0 Z Ym21 := zRx_o hRb hYm21 rfl
        have hV23 : zV Ym21 := zV_o hV hYm21 rfl
        have hG24 := yFr_o hG hYm21 rfl (.inr rfl) rfl
        replace hM := zE_n hM (by first | (have q1 := zhx q1; have q2 := zhx q2; have q3 := zhx q3; have q6 := zhx q6; omega) | (simp only [zhx q1, zhx q2, zhx q3, zhx q6] at h4 h5 h7 ⊢ <;> omega))
        replace hM := zE_n hM (by first | (have q1 := zhx q1; have q2 := zhx q2; have q3 := zhx q3; have q6 := zhx q6; omega) | (simp only [zhx q1, zhx q2, zhx q3, zhx q6] at h4 h5 h7 ⊢ <;> omega))
        obtain ⟨Ym25, hYm25, hM⟩ := zl_x hM
        have hR26 : zRx [] 0 Z Ym25 := zRx_o hR22 hYm25 rfl
        have hV27 : zV Ym25 := zV_o hV23 hYm25 rfl
        have hG28 := yFr_o hG24 hYm25 rfl (.inr rfl) rfl
        have q29 := zhd (((zu_ne (k' := 2) (b' := 0) (i' := 0) (j' := 1413 + 12 * a1) hYm25 (fun q => absurd q.1 (by decide))).trans (zu_ne (k' := 2) (b' := 0) (i' := 0) (j' := 1413 + 12 * a1) hYm21 (fun q => absurd q.1 (by decide)))))
        replace hM := zE_n hM (by first | (have q1 := zhx q1; have q2 := zhx q2; have q3 := zhx q3; have q6 := zhx q6; have q29 := zhx q29; omega) | (simp only [zhx q1, zhx q2, zhx q3, zhx q6, zhx q29] at h4 h5 h7 ⊢ <;> omega))
        obtain ⟨Ym30, hYm30, hM⟩ := zl_x hM
        have hR31 : zRx [] 0 Z Ym30 := zRx_o hR26 hYm30 rfl
        have hV32 : zV Ym30 := zV_o hV27 hYm30 rfl
        have hG33 := yFr_o hG28 hYm30 rfl (.inr rfl) rfl
        obtain ⟨Zc34, hZc34, hC⟩ := zl_x hC
        obtain ⟨Ym35, hYm35, hM⟩ := zl_x hM
        have hR36 : zRx [] 0 Zc34 Ym35 := zRx_dd hR31 hI hd hZc34 hYm35
        have hV37 : zV Ym35 := zV_dm hV32 hd hYm35
        have hPb_38 : zPb 0 Zc34 := (zPb_f (zPb_f hPb hF.1 (by decide)) (zFa_dd hI hZc34) (by decide))
        have hF39 : zFc [1112, 1400, 4503, 4512, 5300, 5301, 5302, 5303, 5304] 0 Zc34 Zc34 := zFc_r
        have hG40 : yFr [1112, 1400, 4503, 4512, 5300, 5301, 5302, 5303, 5304] Ym35 Ym35 := yFr_r
        obtain ⟨Yr42, v43, g41, hC⟩ := zl_x2 hC
        replace g41 : zE _ _ := g41
        unfold zf_31 at g41
        have q44 := zhd ((((yFa_dm hd hYm35 (1413 + 12 * a1) rfl).trans (zu_ne (k' := 2) (b' := 0) (i' := 0) (j' := 1413 + 12 * a1) hYm30 (fun q => absurd q.1 (by decide)))).trans (zhx q29)))
        have q45 := zhd (((zRl_45_3 (x := a1) (a := 1413 + 12 * a1) (zRx_1 hR36) (by first | (have q1 := zhx q1; omega) | (have q1 := zhx q1; have q2 := zhx q2; have q3 := zhx q3; have q6 := zhx q6; omega)) (by first | (have q1 := zhx q1; omega) | (have q1 := zhx q1; have q2 := zhx q2; have q3 := zhx q3; have q6 := zhx q6; omega)) (by first | (have q1 := zhx q1; omega) | (have q1 := zhx q1; have q2 := zhx q2; have q3 := zhx q3; have q6 := zhx q6; omega))).trans (zhx q44)))
        obtain ⟨Zc46, hZc46, g41⟩ := zl_x g41
        obtain ⟨Ym47, hYm47, hM⟩ := zl_x hM
        have hV48 : zV Ym47 := zV_n hV37 hYm47 (zvn_45_3 (x := a1) (by first | (have q1 := zhx q1; omega) | (have q1 := zhx q1; have q2 := zhx q2; have q3 := zhx q3; have q6 := zhx q6; omega)) (by first | (have q1 := zhx q1; omega) | (have q1 := zhx q1; have q2 := zhx q2; have q3 := zhx q3; have q6 := zhx q6; omega)) (by first | (have q1 := zhx q1; omega) | (have q1 := zhx q1; have q2 := zhx q2; have q3 := zhx q3; have q6 := zhx q6; omega)))
        have hR49 : zRx [] 0 Zc46 Ym47 := zRx_w hR36 (ac_45_3 (by first | (have q1 := zhx q1; omega) | (have q1 := zhx q1; have q2 := zhx q2; have q3 := zhx q3; have q6 := zhx q6; omega)) (by first | (have q1 := zhx q1; omega) | (have q1 := zhx q1; have q2 := zhx q2; have q3 := zhx q3; have q6 := zhx q6; omega)) (by first | (have q1 := zhx q1; omega) | (have q1 := zhx q1; have q2 := zhx q2; have q3 := zhx q3; have q6 := zhx q6; omega))) hZc46 hYm47 (by first | (simp only [zhx q1, zhx q44, zhx q45] <;> omega) | rfl | (have q1 := zhx q1; have q44 := zhx q44; have q45 := zhx q45; omega) | (have q1 := zhx q1; have q2 := zhx q2; have q3 := zhx q3; have q6 := zhx q6; have q44 := zhx q44; have q45 := zhx q45; omega))
        have hF50 := zFc_u hF39 hZc46 rfl rfl
        have hG51 := yFr_u hG40 hYm47 (zcm_s (ac_45_3 (a := 1413 + 12 * a1) (x := a1) (by first | (have q1 := zhx q1; omega) | (have q1 := zhx q1; have q2 := zhx q2; have q3 := zhx q3; have q6 := zhx q6; omega)) (by first | (have q1 := zhx q1; omega) | (have q1 := zhx q1; have q2 := zhx q2; have q3 := zhx q3; have q6 := zhx q6; omega)) (by first | (have q1 := zhx q1; omega) | (have q1 := zhx q1; have q2 := zhx q2; have q3 := zhx q3; have q6 := zhx q6; omega)))) rfl
        have q52 := zhd ((((((zu_ne (k' := 2) (b' := 0) (i' := 0) (j' := 1415 + 12 * a1) hYm47 (fun q => absurd q.2.2.2 (by first | (have q1 := zhx q1; omega) | (have q1 := zhx q1; have q2 := zhx q2; have q3 := zhx q3; have q6 := zhx q6; omega)))).trans (yFa_dm hd hYm35 (1415 + 12 * a1) rfl)).trans (zu_ne (k' := 2) (b' := 0) (i' := 0) (j' := 1415 + 12 * a1) hYm30 (fun q => absurd q.1 (by decide)))).trans (zu_ne (k' := 2) (b' := 0) (i' := 0) (j' := 1415 + 12 * a1) hYm25 (fun q => absurd q.1 (by decide)))).trans (zu_ne (k' := 2) (b' := 0) (i' := 0) (j' := 1415 + 12 * a1) hYm21 (fun q => absurd q.1 (by decide)))))
        have q53 := zhd (((zRl_45_12 (x := a1) (a := 1415 + 12 * a1) (zRx_1 hR49) (by first | (have q1 := zhx q1; omega) | (have q1 := zhx q1; have q2 := zhx q2; have q3 := zhx q3; have q6 := zhx q6; omega)) (by first | (have q1 := zhx q1; omega) | (have q1 := zhx q1; have q2 := zhx q2; have q3 := zhx q3; have q6 := zhx q6; omega)) (by first | (have q1 := zhx q1; omega) | (have q1 := zhx q1; have q2 := zhx q2; have q3 := zhx q3; have q6 := zhx q6; omega))).trans (zhx q52)))
        obtain ⟨Zc54, hZc54, g41⟩ := zl_x g41
        obtain ⟨Ym55, hYm55, hM⟩ := zl_x hM
        have hV56 : zV Ym55 := zV_n hV48 hYm55 (zvn_45_12 (x := a1) (by first | (have q1 := zhx q1; omega) | (have q1 := zhx q1; have q2 := zhx q2; have q3 := zhx q3; have q6 := zhx q6; omega)) (by first | (have q1 := zhx q1; omega) | (have q1 := zhx q1; have q2 := zhx q2; have q3 := zhx q3; have q6 := zhx q6; omega)) (by first | (have q1 := zhx q1; omega) | (have q1 := zhx q1; have q2 := zhx q2; have q3 := zhx q3; have q6 := zhx q6; omega)))
        have hR57 : zRx [] 0 Zc54 Ym55 := zRx_w hR49 (ac_45_12 (by first | (have q1 := zhx q1; omega) | (have q1 := zhx q1; have q2 := zhx q2; have q3 := zhx q3; have q6 := zhx q6; omega)) (by first | (have q1 := zhx q1; omega) | (have q1 := zhx q1; have q2 := zhx q2; have q3 := zhx q3; have q6 := zhx q6; omega)) (by first | (have q1 := zhx q1; omega) | (have q1 := zhx q1; have q2 := zhx q2; have q3 := zhx q3; have q6 := zhx q6; omega))) hZc54 hYm55 (by first | (simp only [zhx q1, zhx q52, zhx q53] <;> omega) | rfl | (have q1 := zhx q1; have q52 := zhx q52; have q53 := zhx q53; omega) | (have q1 := zhx q1; have q2 := zhx q2; have q3 := zhx q3; have q6 := zhx q6; have q52 := zhx q52; have q53 := zhx q53; omega))
        have hF58 := zFc_u hF50 hZc54 rfl rfl
        have hG59 := yFr_u hG51 hYm55 (zcm_s (ac_45_12 (a := 1415 + 12 * a1) (x := a1) (by first | (have q1 := zhx q1; omega) | (have q1 := zhx q1; have q2 := zhx q2; have q3 := zhx q3; have q6 := zhx q6; omega)) (by first | (have q1 := zhx q1; omega) | (have q1 := zhx q1; have q2 := zhx q2; have q3 := zhx q3; have q6 := zhx q6; omega)) (by first | (have q1 := zhx q1; omega) | (have q1 := zhx q1; have q2 := zhx q2; have q3 := zhx q3; have q6 := zhx q6; omega)))) rfl
        obtain ⟨Yr61, g60, hM⟩ := zl_x hM
        replace g60 : zE _ _ := g60
        unfold zf_403 at g60
        replace g60 := zE_p g60 (by first | (have q1 := zhx q1; have q2 := zhx q2; have q3 := zhx q3; have q6 := zhx q6; omega) | (simp only [zhx q1, zhx q2, zhx q3, zhx q6] at h4 h5 h7 ⊢ <;> omega))
        have q62 := zhd (((((((zu_ne (k' := 2) (b' := 0) (i' := 0) (j' := 3801) hYm55 (fun q => absurd q.2.2.2 (by first | (have q1 := zhx q1; omega) | (have q1 := zhx q1; have q2 := zhx q2; have q3 := zhx q3; have q6 := zhx q6; omega)))).trans (zu_ne (k' := 2) (b' := 0) (i' := 0) (j' := 3801) hYm47 (fun q => absurd q.2.2.2 (by first | (have q1 := zhx q1; omega) | (have q1 := zhx q1; have q2 := zhx q2; have q3 := zhx q3; have q6 := zhx q6; omega))))).trans (yFa_dm hd hYm35 (3801) rfl)).trans (zu_ne (k' := 2) (b' := 0) (i' := 0) (j' := 3801) hYm30 (fun q => absurd q.1 (by decide)))).trans (zu_ne (k' := 2) (b' := 0) (i' := 0) (j' := 3801) hYm25 (fun q => absurd q.1 (by decide)))).trans (zu_ne (k' := 2) (b' := 0) (i' := 0) (j' := 3801) hYm21 (fun q => absurd q.1 (by decide)))))
        have q63 := zhd (((zRl_14_s (x := 1) (a := 3801) (zRx_1 hR57) (by first | (have q1 := zhx q1; omega) | (have q1 := zhx q1; have q2 := zhx q2; have q3 := zhx q3; have q6 := zhx q6; omega)) (by first | (have q1 := zhx q1; omega) | (have q1 := zhx q1; have q2 := zhx q2; have q3 := zhx q3; have q6 := zhx q6; omega)) (by first | (have q1 := zhx q1; omega) | (have q1 := zhx q1; have q2 := zhx q2; have q3 := zhx q3; have q6 := zhx q6; omega))).trans (zhx q62)))
        have q64 := zhd (congrArg (Ym55 2 0 0) (show (3800 + 1) = 3801 from (by first | (have q1 := zhx q1; omega) | (have q1 := zhx q1; have q2 := zhx q2; have q3 := zhx q3; have q6 := zhx q6; omega))))
        obtain ⟨Zc65, hZc65, g41⟩ := zl_x g41
        obtain ⟨Ym66, hYm66, g60⟩ := zl_x g60
        have hV67 : zV Ym66 := zV_n hV56 hYm66 (zvn_14_s (x := 1) (by first | (have q1 := zhx q1; omega) | (have q1 := zhx q1; have q2 := zhx q2; have q3 := zhx q3; have q6 := zhx q6; omega)) (by first | (have q1 := zhx q1; omega) | (have q1 := zhx q1; have q2 := zhx q2; have q3 := zhx q3; have q6 := zhx q6; omega)) (by first | (have q1 := zhx q1; omega) | (have q1 := zhx q1; have q2 := zhx q2; have q3 := zhx q3; have q6 := zhx q6; omega)))
        have hR68 : zRx [] 0 Zc65 Ym66 := zRx_w hR57 (ac_14_s (by first | (have q1 := zhx q1; omega) | (have q1 := zhx q1; have q2 := zhx q2; have q3 := zhx q3; have q6 := zhx q6; omega)) (by first | (have q1 := zhx q1; omega) | (have q1 := zhx q1; have q2 := zhx q2; have q3 := zhx q3; have q6 := zhx q6; omega)) (by first | (have q1 := zhx q1; omega) | (have q1 := zhx q1; have q2 := zhx q2; have q3 := zhx q3; have q6 := zhx q6; omega))) hZc65 hYm66 (by first | (simp only [zhx q1, zhx q62, zhx q63, zhx q64] <;> omega) | rfl | (have q1 := zhx q1; have q62 := zhx q62; have q63 := zhx q63; have q64 := zhx q64; omega) | (have q1 := zhx q1; have q2 := zhx q2; have q3 := zhx q3; have q6 := zhx q6; have q62 := zhx q62; have q63 := zhx q63; have q64 := zhx q64; omega))
        have hF69 := zFc_u hF58 hZc65 rfl rfl
        have hG70 := yFr_u hG59 hYm66 (zcm_s (ac_14_s (a := 3800 + 1) (x := 1) (by first | (have q1 := zhx q1; omega) | (have q1 := zhx q1; have q2 := zhx q2; have q3 := zhx q3; have q6 := zhx q6; omega)) (by first | (have q1 := zhx q1; omega) | (have q1 := zhx q1; have q2 := zhx q2; have q3 := zhx q3; have q6 := zhx q6; omega)) (by first | (have q1 := zhx q1; omega) | (have q1 := zhx q1; have q2 := zhx q2; have q3 := zhx q3; have q6 := zhx q6; omega)))) rfl
        have q71 := zhd ((((((((zu_ne (k' := 2) (b' := 0) (i' := 0) (j' := 3800) hYm66 (fun q => absurd q.2.2.2 (by first | (have q1 := zhx q1; omega) | (have q1 := zhx q1; have q2 := zhx q2; have q3 := zhx q3; have q6 := zhx q6; omega)))).trans (zu_ne (k' := 2) (b' := 0) (i' := 0) (j' := 3800) hYm55 (fun q => absurd q.2.2.2 (by first | (have q1 := zhx q1; omega) | (have q1 := zhx q1; have q2 := zhx q2; have q3 := zhx q3; have q6 := zhx q6; omega))))).trans (zu_ne (k' := 2) (b' := 0) (i' := 0) (j' := 3800) hYm47 (fun q => absurd q.2.2.2 (by first | (have q1 := zhx q1; omega) | (have q1 := zhx q1; have q2 := zhx q2; have q3 := zhx q3; have q6 := zhx q6; omega))))).trans (yFa_dm hd hYm35 (3800) rfl)).trans (zu_ne (k' := 2) (b' := 0) (i' := 0) (j' := 3800) hYm30 (fun q => absurd q.1 (by decide)))).trans (zu_ne (k' := 2) (b' := 0) (i' := 0) (j' := 3800) hYm25 (fun q => absurd q.1 (by decide)))).trans (zu_ne (k' := 2) (b' := 0) (i' := 0) (j' := 3800) hYm21 (fun q => absurd q.1 (by decide)))))
        have q72 := zhd (((zRl_14_s (x := 0) (a := 3800) (zRx_1 hR68) (by first | (have q1 := zhx q1; omega) | (have q1 := zhx q1; have q2 := zhx q2; have q3 := zhx q3; have q6 := zhx q6; omega)) (by first | (have q1 := zhx q1; omega) | (have q1 := zhx q1; have q2 := zhx q2; have q3 := zhx q3; have q6 := zhx q6; omega)) (by first | (have q1 := zhx q1; omega) | (have q1 := zhx q1; have q2 := zhx q2; have q3 := zhx q3; have q6 := zhx q6; omega))).trans (zhx q71)))
        have q73 := zhd (congrArg (Ym66 2 0 0) (show (3800 + 0) = 3800 from (by first | (have q1 := zhx q1; omega) | (have q1 := zhx q1; have q2 := zhx q2; have q3 := zhx q3; have q6 := zhx q6; omega))))
        obtain ⟨Zc74, hZc74, g41⟩ := zl_x g41
        obtain ⟨Ym75, hYm75, g60⟩ := zl_x g60
        have hV76 : zV Ym75 := zV_n hV67 hYm75 (zvn_14_s (x := 0) (by first | (have q1 := zhx q1; omega) | (have q1 := zhx q1; have q2 := zhx q2; have q3 := zhx q3; have q6 := zhx q6; omega)) (by first | (have q1 := zhx q1; omega) | (have q1 := zhx q1; have q2 := zhx q2; have q3 := zhx q3; have q6 := zhx q6; omega)) (by first | (have q1 := zhx q1; omega) | (have q1 := zhx q1; have q2 := zhx q2; have q3 := zhx q3; have q6 := zhx q6; omega)))
        have hR77 : zRx [] 0 Zc74 Ym75 := zRx_w hR68 (ac_14_s (by first | (have q1 := zhx q1; omega) | (have q1 := zhx q1; have q2 := zhx q2; have q3 := zhx q3; have q6 := zhx q6; omega)) (by first | (have q1 := zhx q1; omega) | (have q1 := zhx q1; have q2 := zhx q2; have q3 := zhx q3; have q6 := zhx q6; omega)) (by first | (have q1 := zhx q1; omega) | (have q1 := zhx q1; have q2 := zhx q2; have q3 := zhx q3; have q6 := zhx q6; omega))) hZc74 hYm75 (by first | (simp only [zhx q1, zhx q71, zhx q72, zhx q73] <;> omega) | rfl | (have q1 := zhx q1; have q71 := zhx q71; have q72 := zhx q72; have q73 := zhx q73; omega) | (have q1 := zhx q1; have q2 := zhx q2; have q3 := zhx q3; have q6 := zhx q6; have q71 := zhx q71; have q72 := zhx q72; have q73 := zhx q73; omega))
        have hF78 := zFc_u hF69 hZc74 rfl rfl
        have hG79 := yFr_u hG70 hYm75 (zcm_s (ac_14_s (a := 3800 + 0) (x := 0) (by first | (have q1 := zhx q1; omega) | (have q1 := zhx q1; have q2 := zhx q2; have q3 := zhx q3; have q6 := zhx q6; omega)) (by first | (have q1 := zhx q1; omega) | (have q1 := zhx q1; have q2 := zhx q2; have q3 := zhx q3; have q6 := zhx q6; omega)) (by first | (have q1 := zhx q1; omega) | (have q1 := zhx q1; have q2 := zhx q2; have q3 := zhx q3; have q6 := zhx q6; omega)))) rfl
        have q80 := zhd (((((((((zu_ne (k' := 2) (b' := 0) (i' := 0) (j' := 3814) hYm75 (fun q => absurd q.2.2.2 (by first | (have q1 := zhx q1; omega) | (have q1 := zhx q1; have q2 := zhx q2; have q3 := zhx q3; have q6 := zhx q6; omega)))).trans (zu_ne (k' := 2) (b' := 0) (i' := 0) (j' := 3814) hYm66 (fun q => absurd q.2.2.2 (by first | (have q1 := zhx q1; omega) | (have q1 := zhx q1; have q2 := zhx q2; have q3 := zhx q3; have q6 := zhx q6; omega))))).trans (zu_ne (k' := 2) (b' := 0) (i' := 0) (j' := 3814) hYm55 (fun q => absurd q.2.2.2 (by first | (have q1 := zhx q1; omega) | (have q1 := zhx q1; have q2 := zhx q2; have q3 := zhx q3; have q6 := zhx q6; omega))))).trans (zu_ne (k' := 2) (b' := 0) (i' := 0) (j' := 3814) hYm47 (fun q => absurd q.2.2.2 (by first | (have q1 := zhx q1; omega) | (have q1 := zhx q1; have q2 := zhx q2; have q3 := zhx q3; have q6 := zhx q6; omega))))).trans (yFa_dm hd hYm35 (3814) rfl)).trans (zu_ne (k' := 2) (b' := 0) (i' := 0) (j' := 3814) hYm30 (fun q => absurd q.1 (by decide)))).trans (zu_ne (k' := 2) (b' := 0) (i' := 0) (j' := 3814) hYm25 (fun q => absurd q.1 (by decide)))).trans (zu_ne (k' := 2) (b' := 0) (i' := 0) (j' := 3814) hYm21 (fun q => absurd q.1 (by decide)))))
        have q81 := zhd (((zRl_11_12 (a := 3814) (zRx_1 hR77) (by omega)).trans (zhx q80)))
        obtain ⟨Zc82, hZc82, g41⟩ := zl_x g41
        obtain ⟨Ym83, hYm83, g60⟩ := zl_x g60
        have hV84 : zV Ym83 := zV_n hV76 hYm83 (zvn_53_0 (x := (((Y 2 0 0 3814)) % 60)) (by first | (have q1 := zhx q1; have q80 := zhx q80; omega) | (have q1 := zhx q1; have q2 := zhx q2; have q3 := zhx q3; have q6 := zhx q6; have q80 := zhx q80; omega)) (by first | (have q1 := zhx q1; have q80 := zhx q80; omega) | (have q1 := zhx q1; have q2 := zhx q2; have q3 := zhx q3; have q6 := zhx q6; have q80 := zhx q80; omega)) (by first | (have q1 := zhx q1; have q80 := zhx q80; omega) | (have q1 := zhx q1; have q2 := zhx q2; have q3 := zhx q3; have q6 := zhx q6; have q80 := zhx q80; omega)))
        have hR85 : zRx [] 0 Zc82 Ym83 := zRx_w hR77 (ac_53_0 (by first | (have q1 := zhx q1; have q80 := zhx q80; have q81 := zhx q81; omega) | (have q1 := zhx q1; have q2 := zhx q2; have q3 := zhx q3; have q6 := zhx q6; have q80 := zhx q80; have q81 := zhx q81; omega)) (by first | (have q1 := zhx q1; have q80 := zhx q80; have q81 := zhx q81; omega) | (have q1 := zhx q1; have q2 := zhx q2; have q3 := zhx q3; have q6 := zhx q6; have q80 := zhx q80; have q81 := zhx q81; omega)) (by first | (have q1 := zhx q1; have q80 := zhx q80; have q81 := zhx q81; omega) | (have q1 := zhx q1; have q2 := zhx q2; have q3 := zhx q3; have q6 := zhx q6; have q80 := zhx q80; have q81 := zhx q81; omega))) hZc82 hYm83 (by first | rfl | (have q1 := zhx q1; omega) | (simp only [zhx q1] <;> omega) | (have q1 := zhx q1; have q2 := zhx q2; have q3 := zhx q3; have q6 := zhx q6; omega))
        have hF86 := zFc_u hF78 hZc82 rfl rfl
        have hG87 := yFr_u hG79 hYm83 (zcm_s (ac_53_0 (a := 3950 + 5 * ((Ym75 2 0 0 3814) % 60)) (x := (((Y 2 0 0 3814)) % 60)) (by first | (have q1 := zhx q1; have q80 := zhx q80; omega) | (have q1 := zhx q1; have q2 := zhx q2; have q3 := zhx q3; have q6 := zhx q6; have q80 := zhx q80; omega)) (by first | (have q1 := zhx q1; have q80 := zhx q80; omega) | (have q1 := zhx q1; have q2 := zhx q2; have q3 := zhx q3; have q6 := zhx q6; have q80 := zhx q80; omega)) (by first | (have q1 := zhx q1; have q80 := zhx q80; omega) | (have q1 := zhx q1; have q2 := zhx q2; have q3 := zhx q3; have q6 := zhx q6; have q80 := zhx q80; omega)))) rfl
        obtain ⟨Zc88, hZc88, g41⟩ := zl_x g41
        obtain ⟨Ym89, hYm89, g60⟩ := zl_x g60
        have hV90 : zV Ym89 := zV_n hV84 hYm89 (zvn_53_1 (x := (((Y 2 0 0 3814)) % 60)) (by first | (have q1 := zhx q1; have q80 := zhx q80; omega) | (have q1 := zhx q1; have q2 := zhx q2; have q3 := zhx q3; have q6 := zhx q6; have q80 := zhx q80; omega)) (by first | (have q1 := zhx q1; have q80 := zhx q80; omega) | (have q1 := zhx q1; have q2 := zhx q2; have q3 := zhx q3; have q6 := zhx q6; have q80 := zhx q80; omega)) (by first | (have q1 := zhx q1; have q80 := zhx q80; omega) | (have q1 := zhx q1; have q2 := zhx q2; have q3 := zhx q3; have q6 := zhx q6; have q80 := zhx q80; omega)))
        have hR91 : zRx [] 0 Zc88 Ym89 := zRx_w hR85 (ac_53_1 (by first | (have q1 := zhx q1; have q80 := zhx q80; have q81 := zhx q81; omega) | (have q1 := zhx q1; have q2 := zhx q2; have q3 := zhx q3; have q6 := zhx q6; have q80 := zhx q80; have q81 := zhx q81; omega)) (by first | (have q1 := zhx q1; have q80 := zhx q80; have q81 := zhx q81; omega) | (have q1 := zhx q1; have q2 := zhx q2; have q3 := zhx q3; have q6 := zhx q6; have q80 := zhx q80; have q81 := zhx q81; omega)) (by first | (have q1 := zhx q1; have q80 := zhx q80; have q81 := zhx q81; omega) | (have q1 := zhx q1; have q2 := zhx q2; have q3 := zhx q3; have q6 := zhx q6; have q80 := zhx q80; have q81 := zhx q81; omega))) hZc88 hYm89 (by first | rfl | (have q1 := zhx q1; omega) | (simp only [zhx q1] <;> omega) | (have q1 := zhx q1; have q2 := zhx q2; have q3 := zhx q3; have q6 := zhx q6; omega))
        have hF92 := zFc_u hF86 hZc88 rfl rfl
        have hG93 := yFr_u hG87 hYm89 (zcm_s (ac_53_1 (a := 3951 + 5 * ((Ym75 2 0 0 3814) % 60)) (x := (((Y 2 0 0 3814)) % 60)) (by first | (have q1 := zhx q1; have q80 := zhx q80; omega) | (have q1 := zhx q1; have q2 := zhx q2; have q3 := zhx q3; have q6 := zhx q6; have q80 := zhx q80; omega)) (by first | (have q1 := zhx q1; have q80 := zhx q80; omega) | (have q1 := zhx q1; have q2 := zhx q2; have q3 := zhx q3; have q6 := zhx q6; have q80 := zhx q80; omega)) (by first | (have q1 := zhx q1; have q80 := zhx q80; omega) | (have q1 := zhx q1; have q2 := zhx q2; have q3 := zhx q3; have q6 := zhx q6; have q80 := zhx q80; omega)))) rfl
        obtain ⟨Zc94, hZc94, g41⟩ := zl_x g41
        obtain ⟨Ym95, hYm95, g60⟩ := zl_x g60
        have hV96 : zV Ym95 := zV_n hV90 hYm95 (zvn_53_2 (x := (((Y 2 0 0 3814)) % 60)) (by first | (have q1 := zhx q1; have q80 := zhx q80; omega) | (have q1 := zhx q1; have q2 := zhx q2; have q3 := zhx q3; have q6 := zhx q6; have q80 := zhx q80; omega)) (by first | (have q1 := zhx q1; have q80 := zhx q80; omega) | (have q1 := zhx q1; have q2 := zhx q2; have q3 := zhx q3; have q6 := zhx q6; have q80 := zhx q80; omega)) (by first | (have q1 := zhx q1; have q80 := zhx q80; omega) | (have q1 := zhx q1; have q2 := zhx q2; have q3 := zhx q3; have q6 := zhx q6; have q80 := zhx q80; omega)))
        have hR97 : zRx [] 0 Zc94 Ym95 := zRx_w hR91 (ac_53_2 (by first | (have q1 := zhx q1; have q80 := zhx q80; have q81 := zhx q81; omega) | (have q1 := zhx q1; have q2 := zhx q2; have q3 := zhx q3; have q6 := zhx q6; have q80 := zhx q80; have q81 := zhx q81; omega)) (by first | (have q1 := zhx q1; have q80 := zhx q80; have q81 := zhx q81; omega) | (have q1 := zhx q1; have q2 := zhx q2; have q3 := zhx q3; have q6 := zhx q6; have q80 := zhx q80; have q81 := zhx q81; omega)) (by first | (have q1 := zhx q1; have q80 := zhx q80; have q81 := zhx q81; omega) | (have q1 := zhx q1; have q2 := zhx q2; have q3 := zhx q3; have q6 := zhx q6; have q80 := zhx q80; have q81 := zhx q81; omega))) hZc94 hYm95 (by first | rfl | (have q1 := zhx q1; omega) | (simp only [zhx q1] <;> omega) | (have q1 := zhx q1; have q2 := zhx q2; have q3 := zhx q3; have q6 := zhx q6; omega))
        have hF98 := zFc_u hF92 hZc94 rfl rfl
        have hG99 := yFr_u hG93 hYm95 (zcm_s (ac_53_2 (a := 3952 + 5 * ((Ym75 2 0 0 3814) % 60)) (x := (((Y 2 0 0 3814)) % 60)) (by first | (have q1 := zhx q1; have q80 := zhx q80; omega) | (have q1 := zhx q1; have q2 := zhx q2; have q3 := zhx q3; have q6 := zhx q6; have q80 := zhx q80; omega)) (by first | (have q1 := zhx q1; have q80 := zhx q80; omega) | (have q1 := zhx q1; have q2 := zhx q2; have q3 := zhx q3; have q6 := zhx q6; have q80 := zhx q80; omega)) (by first | (have q1 := zhx q1; have q80 := zhx q80; omega) | (have q1 := zhx q1; have q2 := zhx q2; have q3 := zhx q3; have q6 := zhx q6; have q80 := zhx q80; omega)))) rfl
        obtain ⟨Zc100, hZc100, g41⟩ := zl_x g41
        obtain ⟨Ym101, hYm101, g60⟩ := zl_x g60
        have hV102 : zV Ym101 := zV_n hV96 hYm101 (zvn_53_3 (x := (((Y 2 0 0 3814)) % 60)) (by first | (have q1 := zhx q1; have q80 := zhx q80; omega) | (have q1 := zhx q1; have q2 := zhx q2; have q3 := zhx q3; have q6 := zhx q6; have q80 := zhx q80; omega)) (by first | (have q1 := zhx q1; have q80 := zhx q80; omega) | (have q1 := zhx q1; have q2 := zhx q2; have q3 := zhx q3; have q6 := zhx q6; have q80 := zhx q80; omega)) (by first | (have q1 := zhx q1; have q80 := zhx q80; omega) | (have q1 := zhx q1; have q2 := zhx q2; have q3 := zhx q3; have q6 := zhx q6; have q80 := zhx q80; omega)))
        have hR103 : zRx [] 0 Zc100 Ym101 := zRx_w hR97 (ac_53_3 (by first | (have q1 := zhx q1; have q80 := zhx q80; have q81 := zhx q81; omega) | (have q1 := zhx q1; have q2 := zhx q2; have q3 := zhx q3; have q6 := zhx q6; have q80 := zhx q80; have q81 := zhx q81; omega)) (by first | (have q1 := zhx q1; have q80 := zhx q80; have q81 := zhx q81; omega) | (have q1 := zhx q1; have q2 := zhx q2; have q3 := zhx q3; have q6 := zhx q6; have q80 := zhx q80; have q81 := zhx q81; omega)) (by first | (have q1 := zhx q1; have q80 := zhx q80; have q81 := zhx q81; omega) | (have q1 := zhx q1; have q2 := zhx q2; have q3 := zhx q3; have q6 := zhx q6; have q80 := zhx q80; have q81 := zhx q81; omega))) hZc100 hYm101 (by first | rfl | (have q1 := zhx q1; omega) | (simp only [zhx q1] <;> omega) | (have q1 := zhx q1; have q2 := zhx q2; have q3 := zhx q3; have q6 := zhx q6; omega))
        have hF104 := zFc_u hF98 hZc100 rfl rfl
        have hG105 := yFr_u hG99 hYm101 (zcm_s (ac_53_3 (a := 3953 + 5 * ((Ym75 2 0 0 3814) % 60)) (x := (((Y 2 0 0 3814)) % 60)) (by first | (have q1 := zhx q1; have q80 := zhx q80; omega) | (have q1 := zhx q1; have q2 := zhx q2; have q3 := zhx q3; have q6 := zhx q6; have q80 := zhx q80; omega)) (by first | (have q1 := zhx q1; have q80 := zhx q80; omega) | (have q1 := zhx q1; have q2 := zhx q2; have q3 := zhx q3; have q6 := zhx q6; have q80 := zhx q80; omega)) (by first | (have q1 := zhx q1; have q80 := zhx q80; omega) | (have q1 := zhx q1; have q2 := zhx q2; have q3 := zhx q3; have q6 := zhx q6; have q80 := zhx q80; omega)))) rfl
        have q106 := zhd (zVr_11_13 (a := 0) hV (by omega))
        have q107 := zhd (((((((((((((zu_ne (k' := 2) (b' := 0) (i' := 0) (j' := 0) hYm101 (fun q => absurd q.2.2.2 (by first | (have q1 := zhx q1; have q80 := zhx q80; omega) | (have q1 := zhx q1; have q2 := zhx q2; have q3 := zhx q3; have q6 := zhx q6; have q80 := zhx q80; omega)))).trans (zu_ne (k' := 2) (b' := 0) (i' := 0) (j' := 0) hYm95 (fun q => absurd q.2.2.2 (by first | (have q1 := zhx q1; have q80 := zhx q80; omega) | (have q1 := zhx q1; have q2 := zhx q2; have q3 := zhx q3; have q6 := zhx q6; have q80 := zhx q80; omega))))).trans (zu_ne (k' := 2) (b' := 0) (i' := 0) (j' := 0) hYm89 (fun q => absurd q.2.2.2 (by first | (have q1 := zhx q1; have q80 := zhx q80; omega) | (have q1 := zhx q1; have q2 := zhx q2; have q3 := zhx q3; have q6 := zhx q6; have q80 := zhx q80; omega))))).trans (zu_ne (k' := 2) (b' := 0) (i' := 0) (j' := 0) hYm83 (fun q => absurd q.2.2.2 (by first | (have q1 := zhx q1; have q80 := zhx q80; omega) | (have q1 := zhx q1; have q2 := zhx q2; have q3 := zhx q3; have q6 := zhx q6; have q80 := zhx q80; omega))))).trans (zu_ne (k' := 2) (b' := 0) (i' := 0) (j' := 0) hYm75 (fun q => absurd q.2.2.2 (by first | (have q1 := zhx q1; omega) | (have q1 := zhx q1; have q2 := zhx q2; have q3 := zhx q3; have q6 := zhx q6; omega))))).trans (zu_ne (k' := 2) (b' := 0) (i' := 0) (j' := 0) hYm66 (fun q => absurd q.2.2.2 (by first | (have q1 := zhx q1; omega) | (have q1 := zhx q1; have q2 := zhx q2; have q3 := zhx q3; have q6 := zhx q6; omega))))).trans (zu_ne (k' := 2) (b' := 0) (i' := 0) (j' := 0) hYm55 (fun q => absurd q.2.2.2 (by first | (have q1 := zhx q1; omega) | (have q1 := zhx q1; have q2 := zhx q2; have q3 := zhx q3; have q6 := zhx q6; omega))))).trans (zu_ne (k' := 2) (b' := 0) (i' := 0) (j' := 0) hYm47 (fun q => absurd q.2.2.2 (by first | (have q1 := zhx q1; omega) | (have q1 := zhx q1; have q2 := zhx q2; have q3 := zhx q3; have q6 := zhx q6; omega))))).trans (yFa_dm hd hYm35 (0) rfl)).trans (zu_ne (k' := 2) (b' := 0) (i' := 0) (j' := 0) hYm30 (fun q => absurd q.1 (by decide)))).trans (zu_ne (k' := 2) (b' := 0) (i' := 0) (j' := 0) hYm25 (fun q => absurd q.1 (by decide)))).trans (zu_ne (k' := 2) (b' := 0) (i' := 0) (j' := 0) hYm21 (fun q => absurd q.1 (by decide)))))
        have q108 := zhd (((zRl_11_13 (a := 0) (zRx_1 hR103) (by omega)).trans (zhx q107)))
        obtain ⟨Zc109, hZc109, g41⟩ := zl_x g41
        obtain ⟨Ym110, hYm110, g60⟩ := zl_x g60
        have hV111 : zV Ym110 := zV_n hV102 hYm110 (zvn_53_4 (x := (((Y 2 0 0 3814)) % 60)) (by first | (have q1 := zhx q1; have q80 := zhx q80; omega) | (have q1 := zhx q1; have q2 := zhx q2; have q3 := zhx q3; have q6 := zhx q6; have q80 := zhx q80; omega)) (by first | (have q1 := zhx q1; have q80 := zhx q80; omega) | (have q1 := zhx q1; have q2 := zhx q2; have q3 := zhx q3; have q6 := zhx q6; have q80 := zhx q80; omega)) (by first | (have q1 := zhx q1; have q80 := zhx q80; omega) | (have q1 := zhx q1; have q2 := zhx q2; have q3 := zhx q3; have q6 := zhx q6; have q80 := zhx q80; omega)))
        have hR112 : zRx [] 0 Zc109 Ym110 := zRx_w hR103 (ac_53_4 (by first | (have q1 := zhx q1; have q80 := zhx q80; have q81 := zhx q81; omega) | (have q1 := zhx q1; have q2 := zhx q2; have q3 := zhx q3; have q6 := zhx q6; have q80 := zhx q80; have q81 := zhx q81; omega)) (by first | (have q1 := zhx q1; have q80 := zhx q80; have q81 := zhx q81; omega) | (have q1 := zhx q1; have q2 := zhx q2; have q3 := zhx q3; have q6 := zhx q6; have q80 := zhx q80; have q81 := zhx q81; omega)) (by first | (have q1 := zhx q1; have q80 := zhx q80; have q81 := zhx q81; omega) | (have q1 := zhx q1; have q2 := zhx q2; have q3 := zhx q3; have q6 := zhx q6; have q80 := zhx q80; have q81 := zhx q81; omega))) hZc109 hYm110 (by first | rfl | (have q1 := zhx q1; have q106 := zhx q106; have q107 := zhx q107; have q108 := zhx q108; omega) | (simp only [zhx q1, zhx q106, zhx q107, zhx q108] <;> omega) | (have q1 := zhx q1; have q2 := zhx q2; have q3 := zhx q3; have q6 := zhx q6; have q106 := zhx q106; have q107 := zhx q107; have q108 := zhx q108; omega))
        have hF113 := zFc_u hF104 hZc109 rfl rfl
        have hG114 := yFr_u hG105 hYm110 (zcm_s (ac_53_4 (a := 3954 + 5 * ((Ym75 2 0 0 3814) % 60)) (x := (((Y 2 0 0 3814)) % 60)) (by first | (have q1 := zhx q1; have q80 := zhx q80; omega) | (have q1 := zhx q1; have q2 := zhx q2; have q3 := zhx q3; have q6 := zhx q6; have q80 := zhx q80; omega)) (by first | (have q1 := zhx q1; have q80 := zhx q80; omega) | (have q1 := zhx q1; have q2 := zhx q2; have q3 := zhx q3; have q6 := zhx q6; have q80 := zhx q80; omega)) (by first | (have q1 := zhx q1; have q80 := zhx q80; omega) | (have q1 := zhx q1; have q2 := zhx q2; have q3 := zhx q3; have q6 := zhx q6; have q80 := zhx q80; omega)))) rfl
        have q115 := zhd (((((((zu_ne (k' := 2) (b' := 0) (i' := 0) (j' := 3814) hYm110 (fun q => absurd q.2.2.2 (by first | (have q1 := zhx q1; have q80 := zhx q80; omega) | (have q1 := zhx q1; have q2 := zhx q2; have q3 := zhx q3; have q6 := zhx q6; have q80 := zhx q80; omega)))).trans (zu_ne (k' := 2) (b' := 0) (i' := 0) (j' := 3814) hYm101 (fun q => absurd q.2.2.2 (by first | (have q1 := zhx q1; have q80 := zhx q80; omega) | (have q1 := zhx q1; have q2 := zhx q2; have q3 := zhx q3; have q6 := zhx q6; have q80 := zhx q80; omega))))).trans (zu_ne (k' := 2) (b' := 0) (i' := 0) (j' := 3814) hYm95 (fun q => absurd q.2.2.2 (by first | (have q1 := zhx q1; have q80 := zhx q80; omega) | (have q1 := zhx q1; have q2 := zhx q2; have q3 := zhx q3; have q6 := zhx q6; have q80 := zhx q80; omega))))).trans (zu_ne (k' := 2) (b' := 0) (i' := 0) (j' := 3814) hYm89 (fun q => absurd q.2.2.2 (by first | (have q1 := zhx q1; have q80 := zhx q80; omega) | (have q1 := zhx q1; have q2 := zhx q2; have q3 := zhx q3; have q6 := zhx q6; have q80 := zhx q80; omega))))).trans (zu_ne (k' := 2) (b' := 0) (i' := 0) (j' := 3814) hYm83 (fun q => absurd q.2.2.2 (by first | (have q1 := zhx q1; have q80 := zhx q80; omega) | (have q1 := zhx q1; have q2 := zhx q2; have q3 := zhx q3; have q6 := zhx q6; have q80 := zhx q80; omega))))).trans (zhx q80)))
        have q116 := zhd (((zRl_11_12 (a := 3814) (zRx_1 hR112) (by omega)).trans (zhx q115)))
        obtain ⟨Zc117, hZc117, g41⟩ := zl_x g41
        obtain ⟨Ym118, hYm118, g60⟩ := zl_x g60
        have hV119 : zV Ym118 := zV_n hV111 hYm118 (zvn_11_12 (by first | (have q1 := zhx q1; omega) | (have q1 := zhx q1; have q2 := zhx q2; have q3 := zhx q3; have q6 := zhx q6; omega)))
        have hR120 : zRx [] 0 Zc117 Ym118 := zRx_w hR112 (ac_11_12 (by first | (have q1 := zhx q1; omega) | (have q1 := zhx q1; have q2 := zhx q2; have q3 := zhx q3; have q6 := zhx q6; omega))) hZc117 hYm118 (by first | rfl | (have q1 := zhx q1; have q115 := zhx q115; have q116 := zhx q116; omega) | (simp only [zhx q1, zhx q115, zhx q116] <;> omega) | (have q1 := zhx q1; have q2 := zhx q2; have q3 := zhx q3; have q6 := zhx q6; have q115 := zhx q115; have q116 := zhx q116; omega))
        have hF121 := zFc_u hF113 hZc117 rfl rfl
        have hG122 := yFr_u hG114 hYm118 (zcm_s (ac_11_12 (a := 3814) (by first | (have q1 := zhx q1; omega) | (have q1 := zhx q1; have q2 := zhx q2; have q3 := zhx q3; have q6 := zhx q6; omega)))) rfl
        have e9 : Zc117 = Yr42 := Eq.symm (show Yr42 = _ from congrArg (fun x9 => x9.1) (show _ = _ from g41))
        subst e9
        have q123 := zhd (((((((((((zu_ne (k' := 2) (b' := 0) (i' := 0) (j' := 1413 + 12 * a1) hYm118 (fun q => absurd q.2.2.2 (by first | (have q1 := zhx q1; omega) | (have q1 := zhx q1; have q2 := zhx q2; have q3 := zhx q3; have q6 := zhx q6; omega)))).trans (zu_ne (k' := 2) (b' := 0) (i' := 0) (j' := 1413 + 12 * a1) hYm110 (fun q => absurd q.2.2.2 (by first | (have q1 := zhx q1; have q80 := zhx q80; omega) | (have q1 := zhx q1; have q2 := zhx q2; have q3 := zhx q3; have q6 := zhx q6; have q80 := zhx q80; omega))))).trans (zu_ne (k' := 2) (b' := 0) (i' := 0) (j' := 1413 + 12 * a1) hYm101 (fun q => absurd q.2.2.2 (by first | (have q1 := zhx q1; have q80 := zhx q80; omega) | (have q1 := zhx q1; have q2 := zhx q2; have q3 := zhx q3; have q6 := zhx q6; have q80 := zhx q80; omega))))).trans (zu_ne (k' := 2) (b' := 0) (i' := 0) (j' := 1413 + 12 * a1) hYm95 (fun q => absurd q.2.2.2 (by first | (have q1 := zhx q1; have q80 := zhx q80; omega) | (have q1 := zhx q1; have q2 := zhx q2; have q3 := zhx q3; have q6 := zhx q6; have q80 := zhx q80; omega))))).trans (zu_ne (k' := 2) (b' := 0) (i' := 0) (j' := 1413 + 12 * a1) hYm89 (fun q => absurd q.2.2.2 (by first | (have q1 := zhx q1; have q80 := zhx q80; omega) | (have q1 := zhx q1; have q2 := zhx q2; have q3 := zhx q3; have q6 := zhx q6; have q80 := zhx q80; omega))))).trans (zu_ne (k' := 2) (b' := 0) (i' := 0) (j' := 1413 + 12 * a1) hYm83 (fun q => absurd q.2.2.2 (by first | (have q1 := zhx q1; have q80 := zhx q80; omega) | (have q1 := zhx q1; have q2 := zhx q2; have q3 := zhx q3; have q6 := zhx q6; have q80 := zhx q80; omega))))).trans (zu_ne (k' := 2) (b' := 0) (i' := 0) (j' := 1413 + 12 * a1) hYm75 (fun q => absurd q.2.2.2 (by first | (have q1 := zhx q1; omega) | (have q1 := zhx q1; have q2 := zhx q2; have q3 := zhx q3; have q6 := zhx q6; omega))))).trans (zu_ne (k' := 2) (b' := 0) (i' := 0) (j' := 1413 + 12 * a1) hYm66 (fun q => absurd q.2.2.2 (by first | (have q1 := zhx q1; omega) | (have q1 := zhx q1; have q2 := zhx q2; have q3 := zhx q3; have q6 := zhx q6; omega))))).trans (zu_ne (k' := 2) (b' := 0) (i' := 0) (j' := 1413 + 12 * a1) hYm55 (fun q => absurd q.2.2.2 (by first | (have q1 := zhx q1; omega) | (have q1 := zhx q1; have q2 := zhx q2; have q3 := zhx q3; have q6 := zhx q6; omega))))).trans (zu_at hYm47)))
        have q124 := zhd (((zRl_45_3 (x := a1) (a := 1413 + 12 * a1) (zRx_1 hR120) (by first | (have q1 := zhx q1; omega) | (have q1 := zhx q1; have q2 := zhx q2; have q3 := zhx q3; have q6 := zhx q6; omega)) (by first | (have q1 := zhx q1; omega) | (have q1 := zhx q1; have q2 := zhx q2; have q3 := zhx q3; have q6 := zhx q6; omega)) (by first | (have q1 := zhx q1; omega) | (have q1 := zhx q1; have q2 := zhx q2; have q3 := zhx q3; have q6 := zhx q6; omega))).trans (zhx q123)))
        have e9 : (Zc117 45 0 a1 3) = v43 := Eq.symm (show v43 = _ from congrArg (fun x9 => x9.2) (show _ = _ from g41))
        subst e9
        have e9 : Ym118 = Yr61 := Eq.symm g60
        subst e9
        have th9 := ((((((((((((zu_ne (k' := 1) (b' := 0) (i' := 0) (j' := 2) hYm118 (fun q => absurd q.1 (by decide))).trans (zu_ne (k' := 1) (b' := 0) (i' := 0) (j' := 2) hYm110 (fun q => absurd q.1 (by decide)))).trans (zu_ne (k' := 1) (b' := 0) (i' := 0) (j' := 2) hYm101 (fun q => absurd q.1 (by decide)))).trans (zu_ne (k' := 1) (b' := 0) (i' := 0) (j' := 2) hYm95 (fun q => absurd q.1 (by decide)))).trans (zu_ne (k' := 1) (b' := 0) (i' := 0) (j' := 2) hYm89 (fun q => absurd q.1 (by decide)))).trans (zu_ne (k' := 1) (b' := 0) (i' := 0) (j' := 2) hYm83 (fun q => absurd q.1 (by decide)))).trans (zu_ne (k' := 1) (b' := 0) (i' := 0) (j' := 2) hYm75 (fun q => absurd q.1 (by decide)))).trans (zu_ne (k' := 1) (b' := 0) (i' := 0) (j' := 2) hYm66 (fun q => absurd q.1 (by decide)))).trans (zu_ne (k' := 1) (b' := 0) (i' := 0) (j' := 2) hYm55 (fun q => absurd q.1 (by decide)))).trans (zu_ne (k' := 1) (b' := 0) (i' := 0) (j' := 2) hYm47 (fun q => absurd q.1 (by decide)))).trans (zTh_dm hd hYm35 (by decide))).trans (zu_at hYm30))
        obtain rfl : C = _ := hC
        obtain rfl : M = _ := hM
        exact ⟨zRx_1 hR120, hV119, ⟨Zc34, Ym35, .inr ⟨13, a1, a2, 0, 0, 0, 0, 14, Ym30, hZc34, yFr_w hG33 (by decide), hYm35, (by unfold zcode; omega)⟩, zFc_w hF121 (by decide), yFr_w hG122 (by decide)⟩, zThr_a th9 (by first | rfl | (have q1 := zhx q1; have q2 := zhx q2; have q3 := zhx q3; have q6 := zhx q6; have q44 := zhx q44; have q123 := zhx q123; have q124 := zhx q124; omega) | (simp only [zhx q1, zhx q2, zhx q3, zhx q6, zhx q44, zhx q123, zhx q124] <;> omega) | (have q1 := zhx q1; have q2 := zhx q2; have q3 := zhx q3; have q6 := zhx q6; have q44 := zhx q44; have q123 := zhx q123; have q124 := zhx q124; refine w3z ?_ ?_ ?_ <;> omega) | (have q1 := zhx q1; have q2 := zhx q2; have q3 := zhx q3; have q6 := zhx q6; have q44 := zhx q44; have q123 := zhx q123; have q124 := zhx q124; refine w3y ?_ ?_ ?_ <;> omega) | (have q1 := zhx q1; have q2 := zhx q2; have q3 := zhx q3; have q6 := zhx q6; have q44 := zhx q44; have q123 := zhx q123; have q124 := zhx q124; refine z2o ?_ ?_ ?_ <;> omega))⟩
    · replace hM := zE_n hM (by first | (have q1 := zhx q1; have q2 := zhx q2; have q3 := zhx q3; omega) | (simp only [zhx q1, zhx q2, zhx q3] at h4 h5 ⊢ <;> omega))
      replace hM := zE_n hM (by first | (have q1 := zhx q1; have q2 := zhx q2; have q3 := zhx q3; omega) | (simp only [zhx q1, zhx q2, zhx q3] at h4 h5 ⊢ <;> omega))
      obtain ⟨Ym125, hYm125, hM⟩ := zl_x hM
      have hR126 : zRx [] 0 Z Ym125 := zRx_o hRb hYm125 rfl
      have hV127 : zV Ym125 := zV_o hV hYm125 rfl
      have hG128 := yFr_o hG hYm125 rfl (.inr rfl) rfl
      rcases zE_c hM with ⟨h129, hM⟩ | ⟨h129, hM⟩
      · obtain ⟨Ym130, hYm130, hM⟩ := zl_x hM
        have hR131 : zRx [] 0 Z Ym130 := zRx_o hR126 hYm130 rfl
        have hV132 : zV Ym130 := zV_o hV127 hYm130 rfl
        have hG133 := yFr_o hG128 hYm130 rfl (.inr rfl) rfl
        have th9 := (zu_at hYm130)
        obtain rfl : C = _ := hC
        obtain rfl : M = _ := hM
        exact ⟨zRx_1 hR131, hV132, ⟨Z, _, .inl ⟨rfl, yFr_w hG133 (by decide)⟩, zFc_r, yFr_r⟩, zThr_e th9 (by decide)⟩
      · rcases zE_c hM with ⟨h134, hM⟩ | ⟨h134, hM⟩
        · obtain ⟨Ym135, hYm135, hM⟩ := zl_x hM
          have hR136 : zRx [] 0 Z Ym135 := zRx_o hR126 hYm135 rfl
          have hV137 : zV Ym135 := zV_o hV127 hYm135 rfl
          have hG138 := yFr_o hG128 hYm135 rfl (.inr rfl) rfl
          have th9 := (zu_at hYm135)
          obtain rfl : C = _ := hC
          obtain rfl : M = _ := hM
          exact ⟨zRx_1 hR136, hV137, ⟨Z, _, .inl ⟨rfl, yFr_w hG138 (by decide)⟩, zFc_r, yFr_r⟩, zThr_e th9 (by decide)⟩
        · obtain ⟨Ym139, hYm139, hM⟩ := zl_x hM
          have hR140 : zRx [] 0 Z Ym139 := zRx_o hR126 hYm139 rfl
          have hV141 : zV Ym139 := zV_o hV127 hYm139 rfl
          have hG142 := yFr_o hG128 hYm139 rfl (.inr rfl) rfl
          have q143 := zhd (((zu_ne (k' := 2) (b' := 0) (i' := 0) (j' := 1413 + 12 * a1) hYm139 (fun q => absurd q.1 (by decide))).trans (zu_ne (k' := 2) (b' := 0) (i' := 0) (j' := 1413 + 12 * a1) hYm125 (fun q => absurd q.1 (by decide)))))
          rcases zE_c hM with ⟨h144, hM⟩ | ⟨h144, hM⟩
          · obtain ⟨Ym145, hYm145, hM⟩ := zl_x hM
            have hR146 : zRx [] 0 Z Ym145 := zRx_o hR140 hYm145 rfl
            have hV147 : zV Ym145 := zV_o hV141 hYm145 rfl
            have hG148 := yFr_o hG142 hYm145 rfl (.inr rfl) rfl
            exact False.elim (by have q1 := zhx q1; have q2 := zhx q2; have q3 := zhx q3; have q143 := zhx q143; first | omega | grind)
          · obtain ⟨Ym149, hYm149, hM⟩ := zl_x hM
            have hR150 : zRx [] 0 Z Ym149 := zRx_o hR140 hYm149 rfl
            have hV151 : zV Ym149 := zV_o hV141 hYm149 rfl
            have hG152 := yFr_o hG142 hYm149 rfl (.inr rfl) rfl
            exact False.elim (by have q1 := zhx q1; have q2 := zhx q2; have q3 := zhx q3; have q143 := zhx q143; first | omega | grind)
  · rcases zE_c hM with ⟨h153, hM⟩ | ⟨h153, hM⟩
    · obtain ⟨Ym154, hYm154, hM⟩ := zl_x hM
      have hR155 : zRx [] 0 Z Ym154 := zRx_o hRb hYm154 rfl
      have hV156 : zV Ym154 := zV_o hV hYm154 rfl
      have hG157 := yFr_o hG hYm154 rfl (.inr rfl) rfl
      have th9 := (zu_at hYm154)
      obtain rfl : C = _ := hC
      obtain rfl : M = _ := hM
      exact ⟨zRx_1 hR155, hV156, ⟨Z, _, .inl ⟨rfl, yFr_w hG157 (by decide)⟩, zFc_r, yFr_r⟩, zThr_e th9 (by decide)⟩
    · rcases zE_c hM with ⟨h158, hM⟩ | ⟨h158, hM⟩
      · obtain ⟨Ym159, hYm159, hM⟩ := zl_x hM
        have hR160 : zRx [] 0 Z Ym159 := zRx_o hRb hYm159 rfl
        have hV161 : zV Ym159 := zV_o hV hYm159 rfl
        have hG162 := yFr_o hG hYm159 rfl (.inr rfl) rfl
        have th9 := (zu_at hYm159)
        obtain rfl : C = _ := hC
        obtain rfl : M = _ := hM
        exact ⟨zRx_1 hR160, hV161, ⟨Z, _, .inl ⟨rfl, yFr_w hG162 (by decide)⟩, zFc_r, yFr_r⟩, zThr_e th9 (by decide)⟩
      · obtain ⟨Ym163, hYm163, hM⟩ := zl_x hM
        have hR164 : zRx [] 0 Z Ym163 := zRx_o hRb hYm163 rfl
        have hV165 : zV Ym163 := zV_o hV hYm163 rfl
        have hG166 := yFr_o hG hYm163 rfl (.inr rfl) rfl
        rcases zE_c hM with ⟨h167, hM⟩ | ⟨h167, hM⟩
        · obtain ⟨Ym168, hYm168, hM⟩ := zl_x hM
          have hR169 : zRx [] 0 Z Ym168 := zRx_o hR164 hYm168 rfl
          have hV170 : zV Ym168 := zV_o hV165 hYm168 rfl
          have hG171 := yFr_o hG166 hYm168 rfl (.inr rfl) rfl
          exact False.elim (by have q1 := zhx q1; have q2 := zhx q2; have q3 := zhx q3; first | omega | grind)
        · rcases zE_c hM with ⟨h172, hM⟩ | ⟨h172, hM⟩
          · obtain ⟨Ym173, hYm173, hM⟩ := zl_x hM
            have hR174 : zRx [] 0 Z Ym173 := zRx_o hR164 hYm173 rfl
            have hV175 : zV Ym173 := zV_o hV165 hYm173 rfl
            have hG176 := yFr_o hG166 hYm173 rfl (.inr rfl) rfl
            exact False.elim (by have q1 := zhx q1; have q2 := zhx q2; have q3 := zhx q3; first | omega | grind)
          · obtain ⟨Ym177, hYm177, hM⟩ := zl_x hM
            have hR178 : zRx [] 0 Z Ym177 := zRx_o hR164 hYm177 rfl
            have hV179 : zV Ym177 := zV_o hV165 hYm177 rfl
            have hG180 := yFr_o hG166 hYm177 rfl (.inr rfl) rfl
            have q181 := zhd (((zu_ne (k' := 2) (b' := 0) (i' := 0) (j' := 1413 + 12 * a1) hYm177 (fun q => absurd q.1 (by decide))).trans (zu_ne (k' := 2) (b' := 0) (i' := 0) (j' := 1413 + 12 * a1) hYm163 (fun q => absurd q.1 (by decide)))))
            rcases zE_c hM with ⟨h182, hM⟩ | ⟨h182, hM⟩
            · obtain ⟨Ym183, hYm183, hM⟩ := zl_x hM
              have hR184 : zRx [] 0 Z Ym183 := zRx_o hR178 hYm183 rfl
              have hV185 : zV Ym183 := zV_o hV179 hYm183 rfl
              have hG186 := yFr_o hG180 hYm183 rfl (.inr rfl) rfl
              exact False.elim (by have q1 := zhx q1; have q2 := zhx q2; have q3 := zhx q3; have q181 := zhx q181; first | omega | grind)
            · obtain ⟨Ym187, hYm187, hM⟩ := zl_x hM
              have hR188 : zRx [] 0 Z Ym187 := zRx_o hR178 hYm187 rfl
              have hV189 : zV Ym187 := zV_o hV179 hYm187 rfl
              have hG190 := yFr_o hG180 hYm187 rfl (.inr rfl) rfl
              exact False.elim (by have q1 := zhx q1; have q2 := zhx q2; have q3 := zhx q3; have q181 := zhx q181; first | omega | grind)
