/-- lots that stand in a row are well -/
def zLw (Y : qz_Z) : Prop := ∀ c t : Int, 0 ≤ c → c < 2 → 0 ≤ t → t < 12 → c < Y 2 0 0 3000 → t < Y 2 0 0 (3015 + 60 * c) → 1 ≤ Y 2 0 0 (3024 + 60 * c + 3 * t) ∧ Y 2 0 0 (3024 + 60 * c + 3 * t) ≤ Y 2 0 0 (3023 + 60 * c + 3 * t) ∧ Y 2 0 0 (3023 + 60 * c + 3 * t) ≤ Y 2 0 0 (3024 + 60 * c + 3 * t) + 200 * Y 2 0 0 (3013 + 60 * c) ∧ 1 ≤ Y 2 0 0 (3013 + 60 * c) ∧ 0 ≤ Y 2 0 0 (3014 + 60 * c)
theorem zLw_f {K : List Nat} {Y M : qz_Z} (h : zLw Y) (g : yFa K Y M) (e : K.contains 1107 = false ∧ K.contains 4803 = false ∧ K.contains 4804 = false ∧ K.contains 4805 = false ∧ K.contains 10051 = false ∧ K.contains 10052 = false) : zLw M := fun c t c0 c1 t0 t1 h1 h2 => by
  rw [yFr_at 1107 g e.1 (zcm_s (ac_11_7 rfl))] at h1
  rw [yFr_at 4805 g e.2.2.2.1 (zcm_s (ac_48_5 c0 c1 rfl))] at h2
  rw [yFr_at 4803 g e.2.1 (zcm_s (ac_48_3 c0 c1 rfl)), yFr_at 4804 g e.2.2.1 (zcm_s (ac_48_4 c0 c1 rfl)), yFr_at 10051 g e.2.2.2.2.1 (zcm_lot1 c0 c1 t0 t1 rfl), yFr_at 10052 g e.2.2.2.2.2 (zcm_lot2 c0 c1 t0 t1 rfl)]
  exact h c t c0 c1 t0 t1 h1 h2
theorem z312_a {Y : qz_Z} {c t a : Int} : zf_312 Y c t 2 0 0 a = if 3022 + 60 * c + 3 * (Y 2 0 0 (3015 + 60 * c) - 1) ≤ a ∧ a < 3022 + 60 * c + 3 * (Y 2 0 0 (3015 + 60 * c) - 1) + 3 then 0 else if 3022 + 60 * c + 3 * t ≤ a ∧ a < 3022 + 60 * c + 3 * t + 3 * (Y 2 0 0 (3015 + 60 * c) - 1 - t) then zu Y 2 0 0 (3015 + 60 * c) (Y 2 0 0 (3015 + 60 * c) - 1) 2 0 0 (a + 3) else zu Y 2 0 0 (3015 + 60 * c) (Y 2 0 0 (3015 + 60 * c) - 1) 2 0 0 a := by
  rw [z312]
  simp only [true_and]
/-- a lot goes: the others are well as they were -/
theorem zLw_go {c t : Int} {Y M : qz_Z} (h : zLw Y) (hV : zV Y) (c0 : 0 ≤ c) (c1 : c < 2) (t0 : 0 ≤ t) (t1 : t < Y 2 0 0 (3015 + 60 * c)) (hM : ∀ a : Int, 3000 ≤ a → a < 3130 → a ≠ 3016 + 60 * c → a ≠ 3017 + 60 * c → a ≠ 3018 + 60 * c → M 2 0 0 a = zf_312 Y c t 2 0 0 a) : zLw M := by
  have v := zVr_48_5 (x := c) (a := 3015 + 60 * c) hV c0 c1 rfl
  intro x y x0 x1 y0 y1 h1 h2
  rw [hM _ (by omega) (by omega) (by omega) (by omega) (by omega), z312_a, if_neg (by omega), if_neg (by omega), zun (by omega)] at h1
  rw [hM _ (by omega) (by omega) (by omega) (by omega) (by omega), z312_a, if_neg (by omega), if_neg (by omega)] at h2
  rw [hM (3013 + 60 * x) (by omega) (by omega) (by omega) (by omega) (by omega), hM (3014 + 60 * x) (by omega) (by omega) (by omega) (by omega) (by omega), z312_a (a := 3013 + 60 * x), z312_a (a := 3014 + 60 * x), if_neg (by omega), if_neg (by omega), if_neg (by omega), if_neg (by omega), zun (a' := 3013 + 60 * x) (by omega), zun (a' := 3014 + 60 * x) (by omega)]
  by_cases e : x = c
  · rw [e, zua] at h2
    rw [e] at h1 ⊢
    have q : ∀ w : Int, 1 ≤ w → w ≤ 2 → M 2 0 0 (3022 + w + 60 * c + 3 * y) = if t ≤ y then Y 2 0 0 (3022 + w + 60 * c + 3 * (y + 1)) else Y 2 0 0 (3022 + w + 60 * c + 3 * y) := fun w w1 w2 => by
      rw [hM _ (by omega) (by omega) (by omega) (by omega) (by omega), z312_a, if_neg (by omega)]
      by_cases f : t ≤ y
      · rw [if_pos (by omega), if_pos f, zun (by omega), show 3022 + w + 60 * c + 3 * y + 3 = 3022 + w + 60 * c + 3 * (y + 1) by omega]
      · rw [if_neg (by omega), if_neg f, zun (by omega)]
    have q1 := q 1 (by omega) (by omega)
    have q2 := q 2 (by omega) (by omega)
    rw [show (3022 : Int) + 1 = 3023 by omega] at q1
    rw [show (3022 : Int) + 2 = 3024 by omega] at q2
    rw [q1, q2]
    by_cases f : t ≤ y
    · rw [if_pos f, if_pos f]
      exact h c (y + 1) c0 c1 (by omega) (by omega) h1 (by omega)
    · rw [if_neg f, if_neg f]
      exact h c y c0 c1 y0 y1 h1 (by omega)
  · rw [zun (by omega)] at h2
    rw [hM (3023 + 60 * x + 3 * y) (by omega) (by omega) (by omega) (by omega) (by omega), hM (3024 + 60 * x + 3 * y) (by omega) (by omega) (by omega) (by omega) (by omega), z312_a (a := 3023 + 60 * x + 3 * y), z312_a (a := 3024 + 60 * x + 3 * y), if_neg (by omega), if_neg (by omega), if_neg (by omega), if_neg (by omega), zun (by omega), zun (by omega)]
    exact h x y x0 x1 y0 y1 h1 h2
theorem rr_73 {b c : Int} {Z Y : qz_Z} (hRa : zR b Z Y) (hV : zV Y) (hD1 : zD1 b Z Y) (hD4 : zD4 b Z Y) (hN4 : zN4 Y) (hN1 : zN1 Y) (hN9 : zN9 Y) (hNL : zNL Y) (hDl : zDl b Z Y) (hNp : zNp Y) (hDb : zDb b Z) (hLw : zLw Y) (hcr : ∀ p : Int, 0 ≤ p → p < 48 → Y 2 0 0 (204 + 20 * p) ≤ 40) (c0 : 0 ≤ c) (c1 : c < 2) (c2 : c < Y 2 0 0 3000) (c3 : 1 ≤ Y 2 0 0 (3015 + 60 * c)) {C M : qz_Z} (hC : zE C (zf_73 Z b c)) (hM : zE M (zf_309 Y c)) : zR b C M ∧ zV M ∧ zFc [1106, 1112, 1400, 4202, 4203, 4204, 4404, 4405, 4410, 4504, 4509, 4606, 4608, 4700, 4701, 4702, 4703, 4704, 4705, 4706, 4707, 4708, 4709, 4710, 4714, 4715, 4716, 4717, 4718, 4719, 4720, 4805, 4806, 4807, 4808, 4809, 4810, 4811, 4900, 5300, 5301, 5302, 5303, 5304] b Z C ∧ yFr [1106, 1112, 1400, 4202, 4203, 4204, 4404, 4405, 4410, 4606, 4700, 4701, 4702, 4703, 4704, 4705, 4706, 4707, 4708, 4709, 4710, 4714, 4715, 4716, 4717, 4719, 4720, 4805, 4806, 4807, 4808, 4809, 4810, 4811, 5300, 5301, 5302, 5303, 5304, 10050, 10051, 10052] Y M ∧ zD1 b C M ∧ zD4 b C M ∧ zN4 M ∧ zN1 M ∧ zN9 M ∧ zNL M ∧ zDl b C M ∧ zDb b C ∧ zLw M := by
  have hc : C = _ := hC
  have hm : M = _ := hM
  rw [hc, hm]
  unfold zf_73 zf_309
  have v5 := zVr_48_5 (x := c) (a := 3015 + 60 * c) hV c0 c1 rfl
  obtain ⟨d0, d1, d2⟩ := hDl c 0 c0 c1 (by omega) (by omega) (by omega)
  rw [show 12 * c + 0 = 12 * c by omega, show 3022 + 60 * c + 3 * 0 = 3022 + 60 * c by omega] at d0
  rw [show 12 * c + 0 = 12 * c by omega, show 3023 + 60 * c + 3 * 0 = 3023 + 60 * c by omega] at d1
  rw [show 12 * c + 0 = 12 * c by omega, show 3024 + 60 * c + 3 * 0 = 3024 + 60 * c by omega] at d2
  have vl := zVr_lot (c := c) (p := 0) (a := 3022 + 60 * c) hV c0 c1 (by omega) (by omega) (by omega)
  obtain ⟨w1, w2, w3_, w4, w5⟩ := hLw c 0 c0 c1 (by omega) (by omega) c2 (by omega)
  rw [show 3024 + 60 * c + 3 * 0 = 3024 + 60 * c by omega] at w1 w2 w3_
  rw [show 3023 + 60 * c + 3 * 0 = 3023 + 60 * c by omega] at w2 w3_
  obtain ⟨n6a, n6b⟩ := hNL.2.1 c 0 c0 c1 (by omega) (by omega) c2 (by omega)
  rw [show 3022 + 60 * c + 3 * 0 = 3022 + 60 * c by omega] at n6a n6b
  have est : Z 48 b c 3 = Y 2 0 0 (3013 + 60 * c) := zRl_48_3 hRa c0 c1 rfl
  rw [d0, d1, d2, est, show max 1 (Y 2 0 0 (3013 + 60 * c)) = Y 2 0 0 (3013 + 60 * c) by omega]
  generalize hp : Y 2 0 0 (3022 + 60 * c) = p at vl n6a n6b ⊢
  have p0 : 0 ≤ p := vl.1
  have p1 : p < 48 := by omega
  have hp2 : p < Y 2 0 0 102 := by
    by_cases q : p < Y 2 0 0 102
    · exact q
    · have z := hNp (210 + 20 * p) (by omega) (by omega)
      omega
  have hk := hcr p p0 p1
  have ls : zLs p Y := by
    refine ⟨⟨p0, p1⟩, ?_⟩
    obtain ⟨h5, h6, h7⟩ := hNL
    have e0 : ∀ a : Int, a ≠ 204 + 20 * p → zu Y 2 0 0 (204 + 20 * p) 1 2 0 0 a = Y 2 0 0 a := fun a n => zun n
    refine ⟨fun x y x' y' q0 q1 q2 q3 q4 q5 q6 q7 a1 a2 a3 a4 a5 => ?_, fun x y q0 q1 q4 q5 a1 a2 => ?_, fun r r0 r1 r2 => ?_⟩
    · rw [e0 _ (by omega)] at a1 a2 a3 a4
      rw [e0 _ (by omega), e0 _ (by omega)] at a5
      exact h5 x y x' y' q0 q1 q2 q3 q4 q5 q6 q7 a1 a2 a3 a4 a5
    · rw [e0 _ (by omega)] at a1 a2
      have g := h6 x y q0 q1 q4 q5 a1 a2
      have v := zVr_lot (c := x) (p := y) (a := 3022 + 60 * x + 3 * y) hV q0 q1 q4 q5 rfl
      rw [e0 (3022 + 60 * x + 3 * y) (by omega), e0 (210 + 20 * Y 2 0 0 (3022 + 60 * x + 3 * y)) (by omega)]
      refine ⟨g.1, ?_⟩
      by_cases e : Y 2 0 0 (3022 + 60 * x + 3 * y) = p
      · rw [e, zua]
        omega
      · rw [e0 _ (by omega)]
        exact g.2
    · rw [e0 _ (by omega)] at r2
      obtain ⟨x, y, q0, q1, q2, q3, q4, q5, q6⟩ := h7 r r0 r1 r2
      exact ⟨x, y, q0, q1, by rw [e0 _ (by omega)]; exact q2, q3, q4, by rw [e0 _ (by omega)]; exact q5, by rw [e0 _ (by omega)]; exact q6⟩
  have zs : zSl b p Z Y := ⟨hRa, hV, hD1, hD4, hN4, hN1, hN9, ls, hDb⟩
  have lp := rl_73 (b := b) c0 c1 p0 p1 w4 w1 w2 w3_ 41 8701 Z Y (Y 2 0 0 (3023 + 60 * c)) 0 zs (by omega) hp2 w5 (by omega) (by omega) (by omega) n6b (by rw [if_pos (by omega)]; exact w2) (by rw [if_pos (by omega)]; exact Int.le_refl _) (by omega)
  rw [if_pos (show (0 : Int) ≤ 0 by omega)] at lp
  obtain ⟨l1, l2, l3, l4⟩ := lp
  have e3 : ∀ {α : Type} (q : qz_Z × Int × Int) (kk : qz_Z → Int → Int → α), zlet3 q kk = kk q.1 q.2.1 q.2.2 := fun _ _ => rfl
  rw [e3, e3]
  simp only [zlet]
  rw [l2]
  generalize (zl_309_1 c p (Y 2 0 0 (3023 + 60 * c)) (Y 2 0 0 (3024 + 60 * c)) (Y 2 0 0 (3013 + 60 * c)) 8701 Y (Y 2 0 0 (3023 + 60 * c)) 0).2.1 = hand at l2 ⊢
  generalize (zl_309_1 c p (Y 2 0 0 (3023 + 60 * c)) (Y 2 0 0 (3024 + 60 * c)) (Y 2 0 0 (3013 + 60 * c)) 8701 Y (Y 2 0 0 (3023 + 60 * c)) 0).1 = Yl at l1 l4 ⊢
  generalize (zl_73_1 b c p c p (Y 2 0 0 (3023 + 60 * c)) (Y 2 0 0 (3024 + 60 * c)) (Y 2 0 0 (3013 + 60 * c)) 41 Z (Y 2 0 0 (3023 + 60 * c)) 0).1 = Zl at l1 l3 ⊢
  obtain ⟨hRl, hVl, hD1l, hD4l, hN4l, hN1l, hN9l, hLsl, hDbl⟩ := l1
  have y1 : zW [] [4806, 4807, 4808] [4806, 4807, 4808] b Zl Yl _ _ := zW_n (v' := hand) (v := hand) (zW_0 (zRx_0 hRl) hVl) (ac_48_6 c0 c1 rfl) (zvn_48_6 c0 c1 rfl) rfl rfl rfl rfl
  have y2 := zW_n (v' := p) (v := p) y1 (ac_48_7 c0 c1 rfl) (zvn_48_7 c0 c1 rfl) rfl rfl rfl rfl
  generalize zu (zu Zl 48 b c 6 hand) 48 b c 7 p = Za at y2 ⊢
  generalize zu (zu Yl 2 0 0 (3016 + 60 * c) hand) 2 0 0 (3017 + 60 * c) p = Ya at y2 ⊢
  have y3 := zW_n (v' := w3 (Za 48 b c 8 + 1)) (v := w3 (Ya 2 0 0 (3018 + 60 * c) + 1)) y2 (ac_48_8 c0 c1 rfl) (zvn_48_8 c0 c1 rfl) (by rw [zRl_48_8 (x := c) (a := 3018 + 60 * c) (zRx_1 y2.1) c0 c1 rfl]) rfl rfl rfl
  generalize zu Za 48 b c 8 (w3 (Za 48 b c 8 + 1)) = Zb at y3 ⊢
  generalize zu Ya 2 0 0 (3018 + 60 * c) (w3 (Ya 2 0 0 (3018 + 60 * c) + 1)) = Yb at y3 ⊢
  obtain ⟨hRb, hVb, hFb, hGb⟩ := zW_1 y3
  have F1 : zFc ([1106, 1112, 1400, 4202, 4203, 4204, 4404, 4405, 4504, 4509, 4606, 4608, 4700, 4701, 4702, 4703, 4704, 4705, 4706, 4707, 4708, 4709, 4710, 4714, 4715, 4716, 4717, 4718, 4719, 4720, 4809, 4810, 4811, 5300, 5301, 5302, 5303, 5304] ++ [4806, 4807, 4808]) b Z Zb := zFc_t (zFc_w l3 (by decide)) hFb (by decide)
  have G1 : yFr ([1106, 1112, 1400, 4202, 4203, 4204, 4404, 4405, 4606, 4700, 4701, 4702, 4703, 4704, 4705, 4706, 4707, 4708, 4709, 4710, 4714, 4715, 4716, 4717, 4719, 4720, 4809, 4810, 4811, 5300, 5301, 5302, 5303, 5304] ++ [4806, 4807, 4808]) Y Yb := yFr_t (yFr_w l4 (by decide)) hGb (by decide)
  have hDlb := zDl_f hDl F1.1 G1.1 ⟨rfl, rfl, rfl, rfl, rfl⟩
  have hLwb := zLw_f hLw G1.1 ⟨rfl, rfl, rfl, rfl, rfl, rfl⟩
  have hLsb := zLs_f hLsl hVl hGb.1 ⟨rfl, rfl, rfl, rfl, rfl⟩
  have len : Yb 2 0 0 (3015 + 60 * c) = Y 2 0 0 (3015 + 60 * c) := yFr_at 4805 G1.1 rfl (zcm_s (ac_48_5 c0 c1 rfl))
  have cnt : Yb 2 0 0 3000 = Y 2 0 0 3000 := yFr_at 1107 G1.1 rfl (zcm_s (ac_11_7 rfl))
  have lot0 : Yb 2 0 0 (3022 + 60 * c + 3 * 0) = p := by rw [yFr_at 10050 G1.1 rfl (zcm_lot0 c0 c1 (by omega) (by omega) rfl), show 3022 + 60 * c + 3 * 0 = 3022 + 60 * c by omega, hp]
  have cl5 : Zb 48 b c 5 = Yb 2 0 0 (3015 + 60 * c) := zRl_48_5 hRb c0 c1 rfl
  rw [z69_s c0 (by omega) (by omega) (by omega) (by omega)]
  obtain ⟨g1, g2, g3, g4, g5⟩ := rr_69 (t := 0) hRb hVb hDlb c0 c1 (by omega) (by omega)
  have u1 : zW [] [4410] [4410] b (zf_69 Zb b c 0) (zf_312 Yb c 0) _ _ := zW_i (v' := 0) (v := 0) (zW_0 (zRx_0 g1) g2) (ac_44_10 p0 p1 rfl) (zvi_44_10 p0 p1 rfl) (by omega) rfl rfl rfl rfl
  obtain ⟨h1, h2, h3, h4⟩ := zW_1 u1
  have FF := zFc_t (L := [1106, 1112, 1400, 4202, 4203, 4204, 4404, 4405, 4410, 4504, 4509, 4606, 4608, 4700, 4701, 4702, 4703, 4704, 4705, 4706, 4707, 4708, 4709, 4710, 4714, 4715, 4716, 4717, 4718, 4719, 4720, 4805, 4806, 4807, 4808, 4809, 4810, 4811, 4900, 5300, 5301, 5302, 5303, 5304]) (zFc_t (L := [1106, 1112, 1400, 4202, 4203, 4204, 4404, 4405, 4410, 4504, 4509, 4606, 4608, 4700, 4701, 4702, 4703, 4704, 4705, 4706, 4707, 4708, 4709, 4710, 4714, 4715, 4716, 4717, 4718, 4719, 4720, 4805, 4806, 4807, 4808, 4809, 4810, 4811, 4900, 5300, 5301, 5302, 5303, 5304]) (zFc_w F1 (by decide)) g4 (by decide)) h3 (by decide)
  have GG := yFr_t (L := [1106, 1112, 1400, 4202, 4203, 4204, 4404, 4405, 4410, 4606, 4700, 4701, 4702, 4703, 4704, 4705, 4706, 4707, 4708, 4709, 4710, 4714, 4715, 4716, 4717, 4719, 4720, 4805, 4806, 4807, 4808, 4809, 4810, 4811, 5300, 5301, 5302, 5303, 5304, 10050, 10051, 10052]) (yFr_t (L := [1106, 1112, 1400, 4202, 4203, 4204, 4404, 4405, 4410, 4606, 4700, 4701, 4702, 4703, 4704, 4705, 4706, 4707, 4708, 4709, 4710, 4714, 4715, 4716, 4717, 4719, 4720, 4805, 4806, 4807, 4808, 4809, 4810, 4811, 5300, 5301, 5302, 5303, 5304, 10050, 10051, 10052]) (yFr_w G1 (by decide)) g5 (by decide)) h4 (by decide)
  -- from the loop's end on
  have F2 : zFc [4410, 4805, 4806, 4807, 4808, 4900] b Zl (zu (zf_69 Zb b c 0) 44 b p 10 0) := zFc_t (zFc_t (zFc_w hFb (by decide)) g4 (by decide)) h3 (by decide)
  have G2 : yFr [4410, 4805, 4806, 4807, 4808, 10050, 10051, 10052] Yl (zu (zf_312 Yb c 0) 2 0 0 (210 + 20 * p) 0) := yFr_t (yFr_t (yFr_w hGb (by decide)) g5 (by decide)) h4 (by decide)
  have sl : Yl 2 0 0 (210 + 20 * p) = 1 := by rw [yFr_at 4410 l4.1 rfl (zcm_s (ac_44_10 p0 p1 rfl))]; exact n6a
  have cl : Yl 2 0 0 102 = Y 2 0 0 102 := yFr_at 1103 l4.1 rfl (zcm_s (ac_11_3 rfl))
  have whl := (hN1l p p0 p1).2 (by omega) (by omega)
  refine ⟨h1, h2, FF, GG, zD1_f hD1l F2.1 G2.1 ⟨rfl, rfl, rfl⟩, zD4_f hD4l F2.1 G2.1 ⟨⟨rfl, rfl⟩, rfl, rfl, rfl⟩, zN4_f hN4l G2.1 ⟨rfl, rfl, rfl⟩, ?_, zN9_f hN9l G2.1 ⟨rfl, rfl, rfl⟩, ?_, zDl_f g3 h3.1 h4.1 ⟨rfl, rfl, rfl, rfl, rfl⟩, zDb_f hDbl F2.1 (by decide), ?_⟩
  · have N1b := zN1_f hN1l (yFr_t (L := [4805, 4806, 4807, 4808, 10050, 10051, 10052]) (yFr_w hGb (by decide)) g5 (by decide)).1 ⟨rfl, rfl, rfl, rfl⟩
    refine zN1_1 (q := p) N1b (fun r n r0 r1 => ⟨zun (by omega), zun (by omega), zun (by omega)⟩) (zun (by omega)) ?_
    rw [zua, zun (by omega)]
    have w := yFr_at 4412 (yFr_t (L := [4805, 4806, 4807, 4808, 10050, 10051, 10052]) (yFr_w hGb (by decide)) g5 (by decide)).1 rfl (zcm_s (ac_44_12 p0 p1 rfl))
    rw [w]
    exact ⟨fun x => absurd x (by decide), fun _ => whl⟩
  · refine zNL_go (Y := zu Yb 2 0 0 (204 + 20 * p) 1) (q := p) (c := c) (t := 0) hLsb.2 (zV_n hVb rfl (zvn_44_4 p0 p1 rfl)) ⟨c0, c1, by rw [zun (by omega)]; omega, by omega, by omega, by rw [zun (by omega)]; omega, by rw [zun (by omega)]; exact lot0⟩ (fun a na => ?_) (by rw [zua]; omega) p0 p1
    rw [zun (by omega), z312_a, z312_a, zun (a := 204 + 20 * p) (a' := 3015 + 60 * c) (by omega)]
    split
    · rfl
    split
    · rw [zun (by omega), zun (by omega), zun (by omega)]
    · by_cases q : a = 3015 + 60 * c
      · rw [q, zua, zua]
      · rw [zun q, zun q, zun (by omega)]
  · exact zLw_go hLwb hVb c0 c1 (Int.le_refl 0) (by omega) (fun a a0 a1 _ _ _ => zun (by omega))
