/- yX10_growOlder | yX12_rHour -/
theorem rr_171 {b : Int} {Z Y : qz_Z}  (hRa : zR b Z Y) (hV : zV Y) (hD4 : zD4 b Z Y) (hN1 : zN1 Y) (hN4 : zN4 Y)  {C : qz_Z} {M : qz_Z} (hC : zE C (zf_171 Z b)) (hM : zE M (zf_471 Y )) : zR b C M ∧ zV M ∧ zFc [4305, 4307, 4308, 4309, 4407, 4408, 4711, 4712] b Z C ∧ yFr [4305, 4307, 4308, 4309, 4407, 4408, 10001, 10002] Y M ∧ zD4 b C M := by
  have hRb := zRx_0 hRa
  have hF : zFc [4305, 4307, 4308, 4309] b Z Z := zFc_r
  have hG : yFr [4305, 4307, 4308, 4309] Y Y := yFr_r
  unfold zf_171 at hC
  unfold zf_471 at hM
  have hToX : zTo (Z 12 b 0 ((Z 11 b 0 13) / 24)) Y := by
    have r := zVr_11_13 (a := 0) hV rfl
    have r2 := zRl_11_13 (a := 0) hRa rfl
    show Z 12 b 0 (Z 11 b 0 13 / 24) = Y 2 0 0 (1300 + Y 2 0 0 0 / 24)
    rw [r2]
    exact zRl_12_s (x := Y 2 0 0 0 / 24) (a := 1300 + Y 2 0 0 0 / 24) hRa (by omega) (by omega) rfl
  have q1 := zhd (zVr_11_13 (a := 0) hV (by omega))
  have q2 := zhd ((zRl_11_13 (a := 0) hRa (by omega)))
  have q3 := zhd ((zRl_12_s (x := ((Z 11 b 0 13) / 24)) (a := 1300 + (((Y 2 0 0 0)) / 24)) hRa (by have q1 := zhx q1; have q2 := zhx q2; omega) (by have q1 := zhx q1; have q2 := zhx q2; omega) (by have q1 := zhx q1; have q2 := zhx q2; omega)))
  have q4 := zhd ((congrArg (fun x => Z 12 b 0 x) (show (((Y 2 0 0 0)) / 24) = ((Z 11 b 0 13) / 24) from (by have q1 := zhx q1; have q2 := zhx q2; omega))).trans (zhx q3))
  obtain ⟨Zc5, y6, g7, hC⟩ := zl_x2 hC
  obtain ⟨Ym8, y9, g10, hM⟩ := zl_x2 hM
  have g11 := rl_171_1 _ _ (zRx_1 hRb) hV hToX (by have q1 := zhx q1; have q2 := zhx q2; have q3 := zhx q3; have q4 := zhx q4; first | omega | exact (z2_r _ _ _).1 | exact (z2_r _ _ _).2 | exact (w3_r _).1 | exact (w3_r _).2) (by have q1 := zhx q1; have q2 := zhx q2; have q3 := zhx q3; have q4 := zhx q4; first | omega | exact (z2_r _ _ _).1 | exact (z2_r _ _ _).2 | exact (w3_r _).1 | exact (w3_r _).2) (by have q1 := zhx q1; have q2 := zhx q2; have q3 := zhx q3; have q4 := zhx q4; first | omega | exact (z2_r _ _ _).1 | exact (z2_r _ _ _).2 | exact (w3_r _).1 | exact (w3_r _).2) (by have q1 := zhx q1; have q2 := zhx q2; have q3 := zhx q3; have q4 := zhx q4; omega) (by have q1 := zhx q1; have q2 := zhx q2; have q3 := zhx q3; have q4 := zhx q4; omega) g7 g10
  have hR12 : zRx [] b Zc5 Ym8 := zRx_0 g11.1
  have hV13 : zV Ym8 := g11.2.1
  have hF14 := zFc_t hF g11.2.2.1 (by decide)
  have hG15 := yFr_t hG g11.2.2.2.1 (by decide)
  have q16 := zhd (show y6 = y9 from g11.2.2.2.2)
  have hD4_17 : zD4 b Zc5 Ym8 := (zD4_f hD4 (g11.2.2.1).1 (g11.2.2.2.1).1 ⟨⟨rfl, rfl⟩, rfl, rfl, rfl⟩)
  have hN1_18 : zN1 Ym8 := (zN1_f hN1 (g11.2.2.2.1).1 ⟨rfl, rfl, rfl, rfl⟩)
  have hN4_19 : zN4 Ym8 := (zN4_f hN4 (g11.2.2.2.1).1 ⟨rfl, rfl, rfl⟩)
  have hToX_20 := (zTo_f hToX hV (g11.2.2.2.1).1 ⟨rfl, rfl⟩)
  have tF21 : zFc [4305, 4307, 4308, 4309, 4407, 4408, 4711, 4712] b Z Zc5 := zFc_w hF14 (by decide)
  have tG22 : yFr [4305, 4307, 4308, 4309, 4407, 4408, 10001, 10002] Y Ym8 := yFr_w hG15 (by decide)
  have hF23 : zFc [4407, 4408] b Zc5 Zc5 := zFc_r
  have hG24 : yFr [4407, 4408] Ym8 Ym8 := yFr_r
  obtain ⟨Zc25, y26, g27, hC⟩ := zl_x2 hC
  obtain ⟨Ym28, y29, g30, hM⟩ := zl_x2 hM
  have g31 := rl_171_2 _ _ (zRx_1 hR12) hV13 hToX_20 hN1_18 (by have q1 := zhx q1; have q2 := zhx q2; have q3 := zhx q3; have q4 := zhx q4; first | omega | exact (z2_r _ _ _).1 | exact (z2_r _ _ _).2 | exact (w3_r _).1 | exact (w3_r _).2) (by have q1 := zhx q1; have q2 := zhx q2; have q3 := zhx q3; have q4 := zhx q4; first | omega | exact (z2_r _ _ _).1 | exact (z2_r _ _ _).2 | exact (w3_r _).1 | exact (w3_r _).2) (by have q1 := zhx q1; have q2 := zhx q2; have q3 := zhx q3; have q4 := zhx q4; first | omega | exact (z2_r _ _ _).1 | exact (z2_r _ _ _).2 | exact (w3_r _).1 | exact (w3_r _).2) (by have q1 := zhx q1; have q2 := zhx q2; have q3 := zhx q3; have q4 := zhx q4; omega) (by have q1 := zhx q1; have q2 := zhx q2; have q3 := zhx q3; have q4 := zhx q4; omega) g27 g30
  have hR32 : zRx [] b Zc25 Ym28 := zRx_0 g31.1
  have hV33 : zV Ym28 := g31.2.1
  have hF34 := zFc_t hF23 g31.2.2.1 (by decide)
  have hG35 := yFr_t hG24 g31.2.2.2.1 (by decide)
  have q36 := zhd (show y26 = y29 from g31.2.2.2.2)
  have hD4_37 : zD4 b Zc25 Ym28 := (zD4_f hD4_17 (g31.2.2.1).1 (g31.2.2.2.1).1 ⟨⟨rfl, rfl⟩, rfl, rfl, rfl⟩)
  have hN1_38 : zN1 Ym28 := (zN1_f hN1_18 (g31.2.2.2.1).1 ⟨rfl, rfl, rfl, rfl⟩)
  have hN4_39 : zN4 Ym28 := (zN4_f hN4_19 (g31.2.2.2.1).1 ⟨rfl, rfl, rfl⟩)
  have hToX_40 := (zTo_f hToX_20 hV13 (g31.2.2.2.1).1 ⟨rfl, rfl⟩)
  have tF41 := zFc_t tF21 hF34 (by decide)
  have tG42 := yFr_t tG22 hG35 (by decide)
  have hF43 : zFc [4711, 4712] b Zc25 Zc25 := zFc_r
  have hG44 : yFr [10001, 10002] Ym28 Ym28 := yFr_r
  obtain ⟨Zc45, y46, g47, hC⟩ := zl_x2 hC
  obtain ⟨Ym48, y49, g50, hM⟩ := zl_x2 hM
  have g51 := rl_171_3 _ _ (zRx_1 hR32) hV33 hD4_37 hN4_39 (by first | omega | exact (z2_r _ _ _).1 | exact (z2_r _ _ _).2 | exact (w3_r _).1 | exact (w3_r _).2) (by first | omega | exact (z2_r _ _ _).1 | exact (z2_r _ _ _).2 | exact (w3_r _).1 | exact (w3_r _).2) (by first | omega | exact (z2_r _ _ _).1 | exact (z2_r _ _ _).2 | exact (w3_r _).1 | exact (w3_r _).2) (by omega) (by omega) g47 g50
  have hR52 : zRx [] b Zc45 Ym48 := zRx_0 g51.1
  have hV53 : zV Ym48 := g51.2.1
  have hF54 := zFc_t hF43 g51.2.2.1 (by decide)
  have hG55 := yFr_t hG44 g51.2.2.2.1 (by decide)
  have q56 := zhd (show y46 = y49 from g51.2.2.2.2.1)
  have hD4_57 : zD4 b Zc45 Ym48 := g51.2.2.2.2.2
  have hN1_58 : zN1 Ym48 := (zN1_f hN1_38 (g51.2.2.2.1).1 ⟨rfl, rfl, rfl, rfl⟩)
  have hN4_59 : zN4 Ym48 := (zN4_f hN4_39 (g51.2.2.2.1).1 ⟨rfl, rfl, rfl⟩)
  have hToX_60 := (zTo_f hToX_40 hV33 (g51.2.2.2.1).1 ⟨rfl, rfl⟩)
  have tF61 := zFc_t tF41 hF54 (by decide)
  have tG62 := yFr_t tG42 hG55 (by decide)
  have hF63 : zFc [] b Zc45 Zc45 := zFc_r
  have hG64 : yFr [] Ym48 Ym48 := yFr_r
  obtain rfl : C = _ := hC
  obtain rfl : M = _ := hM
  exact ⟨zRx_1 hR52, hV53, zFc_t tF61 hF63 (by decide), yFr_t tG62 hG64 (by decide), hD4_57⟩
