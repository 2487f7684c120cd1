theorem rf_owes {Z Y : qz_Z} {dm : qz_Z → Int → Int → Int → Int → Int → Int → Int → qz_Z} {a1 a2 : Int} (hRa : zR 0 Z Y) (hV : zV Y) (hDb : zDb 0 Z) {C : qz_Z × Int × Int} {M : qz_Z × Int} (hC : zE C (zx_224 Z a1 a2)) (hM : zE M (zy_445 Y a1 a2)) : zPq [(24, 1), (13, 2)] Z Y dm C M := by
  have hc : C = _ := hC
  have hm : M = _ := hM
  rw [hc, hm]
  unfold zx_224 zy_445
  simp only [zlet]
  have r3 := zRl_11_4 (a := 1400) hRa rfl
  have v3 := zVr_11_4 (a := 1400) hV rfl
  by_cases h1 : a1 < 0
  · rw [if_neg (by omega), if_pos h1]
    exact zPq_e hRa hV zqY_0 (by decide)
  rw [if_neg h1]
  by_cases h2 : Y 2 0 0 1400 - 1 < a1
  · rw [if_neg (by omega), if_pos h2]
    exact zPq_e hRa hV zqY_0 (by decide)
  rw [if_neg h2, if_pos (by omega)]
  by_cases h3 : a2 < 0
  · rw [if_pos h3, if_neg (by omega)]
    exact zPq_e hRa hV (zqY_u zqY_0) (by decide)
  rw [if_neg h3]
  by_cases h4 : 14 < a2
  · rw [if_pos h4, if_neg (by omega)]
    exact zPq_e hRa hV (zqY_u zqY_0) (by decide)
  rw [if_neg h4, if_pos (by omega)]
  obtain ⟨Y1, hY1⟩ : ∃ Y1, Y1 = zu Y 1 0 0 2 0 := ⟨_, rfl⟩
  rw [← hY1]
  have q1 : zqY Y Y1 := by rw [hY1]; exact zqY_u zqY_0
  obtain ⟨Y2, hY2⟩ : ∃ Y2, Y2 = zu Y1 1 0 0 2 0 := ⟨_, rfl⟩
  rw [← hY2]
  have q2 : zqY Y Y2 := by rw [hY2]; exact zqY_u q1
  have R2 : zR 0 Z Y2 := zR_e hRa (fun _ _ _ _ => rfl) q2.1
  have V2 : zV Y2 := zV_e hV q2.1
  have v4 := zVr_11_4 (a := 1400) V2 rfl
  have b0 : 0 ≤ a1 := by omega
  have b1 : a1 < 8 := by omega
  have ans : ∀ {v v' : Int}, v = v' → zPq [(24, 1), (13, 2)] Z Y dm (Z, v, 0) (Y2, v') := fun e => by
    rw [hY2]
    exact zPq_a hRa hV q1 e
  have c : a2 = 0 ∨ a2 = 1 ∨ a2 = 2 ∨ a2 = 3 ∨ a2 = 4 ∨ a2 = 5 ∨ a2 = 6 ∨ a2 = 7 ∨ a2 = 8 ∨ a2 = 9 ∨ a2 = 10 ∨ a2 = 11 ∨ a2 = 12 ∨ a2 = 13 ∨ a2 = 14 := by omega
  unfold zf_35
  rcases c with rfl | rfl | rfl | rfl | rfl | rfl | rfl | rfl | rfl | rfl | rfl | rfl | rfl | rfl | rfl
  · exact ans (zRl_45_0 R2 b0 b1 (by omega))
  · exact ans (zRl_45_1 R2 b0 b1 (by omega))
  · exact ans (zRl_45_2 R2 b0 b1 (by omega))
  · exact ans (zRl_45_3 R2 b0 b1 (by omega))
  · exact ans (zDb_4 R2 V2 hDb b0 b1)
  · refine ans ?_
    show w3 (w3 (Z 45 0 a1 1 + Z 45 0 a1 3) - Z 45 0 a1 4) = w3 (w3 (Y2 2 0 0 (1411 + 12 * a1) + Y2 2 0 0 (1413 + 12 * a1)) - zf_289 Y2 a1)
    rw [zRl_45_1 (x := a1) (a := 1411 + 12 * a1) R2 b0 b1 (by omega), zRl_45_3 (x := a1) (a := 1413 + 12 * a1) R2 b0 b1 (by omega), zDb_4 R2 V2 hDb b0 b1]
  · exact ans (rl_35a 61 61 (cx4 := 0) (mx2 := 0) (cx5 := 0) (mx3 := 0) R2 V2 rfl rfl rfl (by omega) (by omega) rfl (by omega) (by omega) (by omega) (by omega) rfl rfl).1
  · exact ans (zRl_45_7 R2 b0 b1 (by omega))
  · exact ans (rl_35b 61 61 R2 V2 (by omega) (by omega) (by omega) (by omega) (by omega) (by omega))
  · exact ans (zDb_9 R2 V2 hDb b0 b1)
  · exact ans (zDb_10 R2 V2 hDb b0 b1)
  · exact ans (zDb_11 R2 V2 hDb b0 b1)
  · exact ans (zRl_45_12 R2 b0 b1 (by omega))
  · exact ans (zRl_45_13 R2 b0 b1 (by omega))
  · exact ans (zDb_14 R2 V2 hDb b0 b1)
theorem rf_ordered {Z Y : qz_Z} {dm : qz_Z → Int → Int → Int → Int → Int → Int → Int → qz_Z} {a1 a2 : Int} (hRa : zR 0 Z Y) (hV : zV Y) (hDb : zDb 0 Z) {C : qz_Z × Int × Int} {M : qz_Z × Int} (hC : zE C (zx_221 Z a1 a2)) (hM : zE M (zy_442 Y a1 a2)) : zPq [(24, 1), (13, 2)] Z Y dm C M := by
  have hc : C = _ := hC
  have hm : M = _ := hM
  rw [hc, hm]
  unfold zx_221 zy_442
  simp only [zlet]
  have r3 := zRl_11_5 (a := 1401) hRa rfl
  have v3 := zVr_11_5 (a := 1401) hV rfl
  by_cases h1 : a1 < 0
  · rw [if_neg (by omega), if_pos h1]
    exact zPq_e hRa hV zqY_0 (by decide)
  rw [if_neg h1]
  by_cases h2 : Y 2 0 0 1401 - 1 < a1
  · rw [if_neg (by omega), if_pos h2]
    exact zPq_e hRa hV zqY_0 (by decide)
  rw [if_neg h2, if_pos (by omega)]
  by_cases h3 : a2 < 0
  · rw [if_pos h3, if_neg (by omega)]
    exact zPq_e hRa hV (zqY_u zqY_0) (by decide)
  rw [if_neg h3]
  by_cases h4 : 9 < a2
  · rw [if_pos h4, if_neg (by omega)]
    exact zPq_e hRa hV (zqY_u zqY_0) (by decide)
  rw [if_neg h4, if_pos (by omega)]
  obtain ⟨Y1, hY1⟩ : ∃ Y1, Y1 = zu Y 1 0 0 2 0 := ⟨_, rfl⟩
  rw [← hY1]
  have q1 : zqY Y Y1 := by rw [hY1]; exact zqY_u zqY_0
  obtain ⟨Y2, hY2⟩ : ∃ Y2, Y2 = zu Y1 1 0 0 2 0 := ⟨_, rfl⟩
  rw [← hY2]
  have q2 : zqY Y Y2 := by rw [hY2]; exact zqY_u q1
  have R2 : zR 0 Z Y2 := zR_e hRa (fun _ _ _ _ => rfl) q2.1
  have V2 : zV Y2 := zV_e hV q2.1
  have b0 : 0 ≤ a1 := by omega
  have b1 : a1 < 24 := by omega
  have ans : ∀ {v v' : Int}, v = v' → zPq [(24, 1), (13, 2)] Z Y dm (Z, v, 0) (Y2, v') := fun e => by
    rw [hY2]
    exact zPq_a hRa hV q1 e
  have c : a2 = 0 ∨ a2 = 1 ∨ a2 = 2 ∨ a2 = 3 ∨ a2 = 4 ∨ a2 = 5 ∨ a2 = 6 ∨ a2 = 7 ∨ a2 = 8 ∨ a2 = 9 := by omega
  rcases c with rfl | rfl | rfl | rfl | rfl | rfl | rfl | rfl | rfl | rfl
  · exact ans (zRl_46_0 R2 b0 b1 (by omega))
  · exact ans (zRl_46_1 R2 b0 b1 (by omega))
  · exact ans (zRl_46_2 R2 b0 b1 (by omega))
  · exact ans (zRl_46_3 R2 b0 b1 (by omega))
  · exact ans (zRl_46_4 R2 b0 b1 (by omega))
  · exact ans (zRl_46_5 R2 b0 b1 (by omega))
  · exact ans (zRl_46_6 R2 b0 b1 (by omega))
  · exact ans (zRl_46_7 R2 b0 b1 (by omega))
  · exact ans (zDb_8 R2 V2 hDb b0 b1)
  · have e : zf_14 Z 0 0 a1 = zf_260 Y2 a1 := rr_14 R2 V2 b0 b1 rfl rfl
    rw [if_neg (show ¬ (9 : Int) ≠ 9 by omega), if_pos (show (9 : Int) ≠ 8 by omega), if_neg (show ¬ (9 : Int) ≠ 9 by omega), e]
    by_cases z : zf_260 Y2 a1 = 0
    · rw [if_pos z, if_pos z]
      exact ans rfl
    · rw [if_neg z, if_neg z]
      exact ans rfl
/-- who takes a pallet at a price -/
theorem zl_34 {b p pr : Int} {Z Y : qz_Z} (hRa : zR b Z Y) (hV : zV Y) (hDb : zDb b Z) (hN1 : zN1 Y) (p0 : 0 ≤ p) (p1 : p < 48) (r0 : 1 ≤ pr) : ∀ (m n : Nat) (x3 x4 x5 : Int), 0 ≤ x5 → x5 ≤ 24 → 24 - x5 < (m : Int) → 24 - x5 < (n : Int) → Y 2 0 0 2000 < 60 → (x3 = -1 ∧ x4 = 0 ∨ 0 ≤ x3 ∧ x3 < 24 ∧ x4 = Y 2 0 0 (1514 + 12 * x3)) → (zl_34_1 b b p pr m Z x3 x4 x5).1 = (zl_286_1 p pr n Y x3 x5).1
  | 0, _, _, _, _, _, _, _, _, _, _ => by omega
  | m + 1, 0, _, _, _, _, _, _, _, _, _ => by omega
  | m + 1, n + 1, x3, x4, x5, h0, h1, h2, h3, hq, hx => by
    have ih := fun (y3 y4 : Int) (hy : y3 = -1 ∧ y4 = 0 ∨ 0 ≤ y3 ∧ y3 < 24 ∧ y4 = Y 2 0 0 (1514 + 12 * y3)) (hn : x5 + 1 ≤ 24) => zl_34 hRa hV hDb hN1 p0 p1 r0 m n y3 y4 (x5 + 1) (by omega) hn (by omega) (by omega) hq hy
    unfold zl_34_1 zl_286_1
    have v5 := zVr_11_5 (a := 1401) hV rfl
    rw [zRl_11_5 (a := 1401) hRa rfl]
    by_cases c : Y 2 0 0 1401 ≤ x5
    · rw [if_pos c, if_pos c]
    have l5 : x5 < 24 := by omega
    have r6 := zRl_11_6 (a := 2000) hRa rfl
    rw [if_neg c, if_neg c, if_neg (show ¬ 60 ≤ Y 2 0 0 2000 by omega), zRl_46_4 (x := x5) (a := 1514 + 12 * x5) hRa h0 l5 rfl]
    simp only [zlet]
    have e14 : zf_14 Z b b x5 = zf_260 Y x5 := rr_14 hRa hV h0 l5 rfl rfl
    -- whether it fits
    have fit : zf_33 Z b x5 b p = zf_270 Y x5 p := by
      unfold zf_33 zf_270
      rw [zRl_44_4 (x := p) (a := 204 + 20 * p) hRa p0 p1 rfl, zRl_44_9 (x := p) (a := 209 + 20 * p) hRa p0 p1 rfl, zRl_44_1 (x := p) (a := 201 + 20 * p) hRa p0 p1 rfl, zRl_46_2 (x := x5) (a := 1512 + 12 * x5) hRa h0 l5 rfl, zRl_46_1 (x := x5) (a := 1511 + 12 * x5) hRa h0 l5 rfl]
      have n1 := (hN1 p p0 p1).1
      split <;> split <;> (try split) <;> (try split) <;> (try split) <;> (try split) <;> (try split) <;> (try split) <;> (try split) <;> first | rfl | omega
    have vb := zVr_46_0 (x := x5) (a := 1510 + 12 * x5) hV h0 l5 rfl
    have left : w3 (w3 (Z 45 b (Z 46 b x5 0) 1 + Z 45 b (Z 46 b x5 0) 3) - Z 45 b (Z 46 b x5 0) 4) = w3 (w3 (Y 2 0 0 (1411 + 12 * Y 2 0 0 (1510 + 12 * x5)) + Y 2 0 0 (1413 + 12 * Y 2 0 0 (1510 + 12 * x5))) - zf_289 Y (Y 2 0 0 (1510 + 12 * x5))) := by
      rw [zRl_46_0 (x := x5) (a := 1510 + 12 * x5) hRa h0 l5 rfl, zDb_4 hRa hV hDb vb.1 (by omega), zRl_45_1 (a := 1411 + 12 * Y 2 0 0 (1510 + 12 * x5)) hRa vb.1 (by omega) rfl, zRl_45_3 (a := 1413 + 12 * Y 2 0 0 (1510 + 12 * x5)) hRa vb.1 (by omega) rfl]
    rw [e14, fit, left]
    generalize w3 (w3 (Y 2 0 0 (1411 + 12 * Y 2 0 0 (1510 + 12 * x5)) + Y 2 0 0 (1413 + 12 * Y 2 0 0 (1510 + 12 * x5))) - zf_289 Y (Y 2 0 0 (1510 + 12 * x5))) = L
    by_cases k : Y 2 0 0 (1514 + 12 * x5) ≤ x4
    · rw [if_pos k, ih x3 x4 hx (by omega)]
      by_cases f1 : zf_270 Y x5 p = 0
      · rw [if_pos f1]
      rw [if_neg f1]
      by_cases f2 : zf_260 Y x5 = 0
      · rw [if_pos f2]
      rw [if_neg f2]
      by_cases f3 : Y 2 0 0 (1514 + 12 * x5) < pr
      · rw [if_pos f3]
      rw [if_neg f3]
      by_cases f4 : L < pr
      · rw [if_pos f4]
      rw [if_neg f4]
      rcases hx with ⟨g1, g2⟩ | ⟨g1, g2, g3⟩
      · omega
      · rw [if_neg (by omega), if_pos (by omega)]
    · rw [if_neg k]
      by_cases f2 : zf_260 Y x5 = 0
      · rw [if_pos f2, ih x3 x4 hx (by omega)]
        by_cases f1 : zf_270 Y x5 p = 0
        · rw [if_pos f1]
        · rw [if_neg f1, if_pos f2]
      rw [if_neg f2, if_neg (show ¬ 60 ≤ Z 11 b 0 6 by omega)]
      by_cases f1 : zf_270 Y x5 p = 0
      · rw [if_neg (by omega), if_pos f1, ih x3 x4 hx (by omega)]
      rw [if_pos f1, if_neg f1, if_neg f2]
      by_cases f : max 0 (min L (Y 2 0 0 (1514 + 12 * x5))) < pr
      · rw [if_pos f, ih x3 x4 hx (by omega)]
        by_cases f3 : Y 2 0 0 (1514 + 12 * x5) < pr
        · rw [if_pos f3]
        rw [if_neg f3, if_pos (show L < pr by omega)]
      · rw [if_neg f, ih x5 _ (.inr ⟨h0, l5, rfl⟩) (by omega), if_neg (show ¬ Y 2 0 0 (1514 + 12 * x5) < pr by omega), if_neg (show ¬ L < pr by omega)]
        by_cases g : x3 = -1
        · rw [if_pos g]
        · rw [if_neg g, if_neg (by omega)]
theorem zl_34q {b p pr : Int} {Z : qz_Z} (hq : 60 ≤ Z 11 b 0 6) : ∀ (m : Nat) (x3 x4 x5 : Int), (zl_34_1 b b p pr m Z x3 x4 x5).1 = x3
  | 0, _, _, _ => rfl
  | m + 1, x3, x4, x5 => by
    unfold zl_34_1
    simp only [zlet, if_pos hq, zl_34q hq m]
    split
    · rfl
    split
    · exact zl_34q hq m _ _ _
    split <;> exact zl_34q hq m _ _ _
theorem rr_34 {b p pr : Int} {Z Y : qz_Z} (hRa : zR b Z Y) (hV : zV Y) (hDb : zDb b Z) (hN1 : zN1 Y) (p0 : 0 ≤ p) (p1 : p < 48) (r0 : 1 ≤ pr) {C M : Int} (hC : zE C (zf_34 Z b b p pr)) (hM : zE M (zf_286 Y p pr)) : C = M := by
  have hc : C = (zl_34_1 b b p pr 25 Z (-1) 0 0).1 := hC
  have hm : M = (zl_286_1 p pr 25 Y (-1) 0).1 := hM
  rw [hc, hm]
  have r6 := zRl_11_6 (a := 2000) hRa rfl
  by_cases q : 60 ≤ Y 2 0 0 2000
  · rw [zl_34q (by omega)]
    unfold zl_286_1
    rw [if_pos q]
    split <;> rfl
  · exact zl_34 hRa hV hDb hN1 p0 p1 r0 25 25 (-1) 0 0 (by omega) (by omega) (by omega) (by omega) (by omega) (.inl ⟨rfl, rfl⟩)
