theorem zf_513e {Y : qz_Z} {t N x a : Int} (ea : zf_527 Y t = a) (e24 : zf_511 Y a 1 0 0 24 = N) (e25 : zf_511 Y a 1 0 0 25 = x) {Y2 : qz_Z} (h2 : zf_511 Y a = Y2) {G : qz_Z × Int × Int × Int} (hG : G = zl_513_1 t 6 (zu (zu (zu (zu (zu Y2 2 0 0 (3255 + 24 * t) x) 2 0 0 (3252 + 24 * t) 1) 2 0 0 (3254 + 24 * t) (Y2 2 0 0 0)) 2 0 0 (3257 + 24 * t) (w3 (Y2 2 0 0 (3257 + 24 * t) + 1))) 2 0 0 (3258 + 24 * t) N) 5 (Y2 2 0 0 0) 0) (t0 : 0 ≤ t) : zf_513 Y t = zu G.1 2 0 0 (3269 + 24 * t) (G.2.2.1 + G.1 2 0 0 (3215 + 6 * G.2.1)) := by
  rw [h2] at e24 e25
  unfold zf_513
  simp only [zlet]
  rw [ea, h2]
  have r1 : zu Y2 2 0 0 (3252 + 24 * t) 1 2 0 0 0 = Y2 2 0 0 0 := zun (by omega)
  rw [r1]
  have r2 : zu (zu Y2 2 0 0 (3252 + 24 * t) 1) 2 0 0 (3254 + 24 * t) (Y2 2 0 0 0) 1 0 0 25 = x := ((zu_ne rfl (fun q => absurd q.1 (by decide))).trans (zu_ne rfl (fun q => absurd q.1 (by decide)))).trans e25
  rw [r2]
  have sw : zu (zu (zu Y2 2 0 0 (3252 + 24 * t) 1) 2 0 0 (3254 + 24 * t) (Y2 2 0 0 0)) 2 0 0 (3255 + 24 * t) x = zu (zu (zu Y2 2 0 0 (3255 + 24 * t) x) 2 0 0 (3252 + 24 * t) 1) 2 0 0 (3254 + 24 * t) (Y2 2 0 0 0) := by
    rw [zu_comm (fun q => by have := q.2.2.2; omega), zu_comm (Y := Y2) (fun q => by have := q.2.2.2; omega)]
  rw [sw]
  have r3 : zu (zu (zu Y2 2 0 0 (3255 + 24 * t) x) 2 0 0 (3252 + 24 * t) 1) 2 0 0 (3254 + 24 * t) (Y2 2 0 0 0) 2 0 0 (3257 + 24 * t) = Y2 2 0 0 (3257 + 24 * t) := ((zun (by omega)).trans (zun (by omega))).trans (zun (by omega))
  rw [r3]
  have r4 : ∀ v : Int, zu (zu (zu (zu Y2 2 0 0 (3255 + 24 * t) x) 2 0 0 (3252 + 24 * t) 1) 2 0 0 (3254 + 24 * t) (Y2 2 0 0 0)) 2 0 0 (3257 + 24 * t) v 1 0 0 24 = N := fun v => ((((zu_ne rfl (fun q => absurd q.1 (by decide))).trans (zu_ne rfl (fun q => absurd q.1 (by decide)))).trans (zu_ne rfl (fun q => absurd q.1 (by decide)))).trans (zu_ne rfl (fun q => absurd q.1 (by decide)))).trans e24
  rw [r4]
  have r5 : ∀ v w : Int, zu (zu (zu (zu (zu Y2 2 0 0 (3255 + 24 * t) x) 2 0 0 (3252 + 24 * t) 1) 2 0 0 (3254 + 24 * t) (Y2 2 0 0 0)) 2 0 0 (3257 + 24 * t) v) 2 0 0 (3258 + 24 * t) w 2 0 0 0 = Y2 2 0 0 0 := fun v w => ((((zun (by omega)).trans (zun (by omega))).trans (zun (by omega))).trans (zun (by omega))).trans (zun (by omega))
  rw [r5, ← hG]
  rfl
theorem zf_45e {Z : qz_Z} {b t n x a now : Int} (hi : Z 50 b t 2 ≠ 1) (hd : Z 50 b t 3 = Z 11 b 0 13) {Z6 : qz_Z} (h6 : zu Z 50 b t 3 (-1) = Z6) (ea : zf_59 Z6 b t = a) (a0 : a ≠ 0) {F : qz_Z × Int × Int} (hF : zf_1056 (zzi Z6 n) (n + 1) b a n = F) (hx : F.2.2 = x) (hnow : F.1 11 b 0 13 = now) {G : qz_Z × Int × Int × Int} (hG : G = zl_45_1 b t n 6 (zu (zu (zu (zu (zu F.1 50 b t 6 x) 50 b t 2 1) 50 b t 7 now) 50 b t 8 (now + x)) 50 b t 11 (w3 (F.1 50 b t 11 + 1))) 5 now 0) : (zf_45 Z n b t).1 = G.1 := by
  unfold zf_45
  rw [if_neg hi, if_pos hd]
  simp only [zlet]
  rw [h6, ea, if_pos a0]
  simp only [zlet3]
  rw [hF, hx]
  have r1 : zu (zu F.1 50 b t 6 x) 50 b t 2 1 11 b 0 13 = now := ((zu_ne rfl (fun q => absurd q.1 (by decide))).trans (zu_ne rfl (fun q => absurd q.1 (by decide)))).trans hnow
  rw [r1]
  have r2 : zu (zu (zu F.1 50 b t 6 x) 50 b t 2 1) 50 b t 7 now 11 b 0 13 = now := (zu_ne rfl (fun q => absurd q.1 (by decide))).trans r1
  have r3 : zu (zu (zu F.1 50 b t 6 x) 50 b t 2 1) 50 b t 7 now 50 b t 6 = x := ((zu_ne rfl (fun q => absurd q.2.2.2 (by decide))).trans (zu_ne rfl (fun q => absurd q.2.2.2 (by decide)))).trans (zu_at rfl)
  rw [r2, r3]
  have r4 : zu (zu (zu (zu F.1 50 b t 6 x) 50 b t 2 1) 50 b t 7 now) 50 b t 8 (now + x) 50 b t 11 = F.1 50 b t 11 := (((zu_ne rfl (fun q => absurd q.2.2.2 (by decide))).trans (zu_ne rfl (fun q => absurd q.2.2.2 (by decide)))).trans (zu_ne rfl (fun q => absurd q.2.2.2 (by decide)))).trans (zu_ne rfl (fun q => absurd q.2.2.2 (by decide)))
  rw [r4]
  have r5 : ∀ v : Int, zu (zu (zu (zu (zu F.1 50 b t 6 x) 50 b t 2 1) 50 b t 7 now) 50 b t 8 (now + x)) 50 b t 11 v 11 b 0 13 = now := fun v => ((zu_ne rfl (fun q => absurd q.1 (by decide))).trans (zu_ne rfl (fun q => absurd q.1 (by decide)))).trans r2
  rw [r5, ← hG]
  rfl
theorem rr_45 {b t n : Int} {Z Y : qz_Z} (hRa : zR b Z Y) (hV : zV Y) (hN4 : zN4 Y) (hDt : zDt b Z Y) (hDv : zDv b Z Y) (t0 : 0 ≤ t) (t1 : t < 4) : zR b (zf_45 Z n b t).1 (zg512 Y t) ∧ zV (zg512 Y t) ∧ zFc [5002, 5003, 5006, 5007, 5008, 5011, 5012, 5013, 5014, 5015, 5016, 5017, 5018, 5019, 5020, 5021] b Z (zf_45 Z n b t).1 ∧ yFr [5002, 5003, 5006, 5007, 5011, 10003, 10004, 10005, 10006, 10007, 10008, 10009, 10010, 10011, 10012, 10013, 10014] Y (zg512 Y t) ∧ zDt b (zf_45 Z n b t).1 (zg512 Y t) := by
  have q2 := zRl_50_2 (x := t) (a := 3252 + 24 * t) hRa t0 t1 rfl
  have q3 := zRl_50_3 (x := t) (a := 3253 + 24 * t) hRa t0 t1 rfl
  have q13 := zRl_11_13 (a := 0) hRa rfl
  by_cases c1 : Y 2 0 0 (3252 + 24 * t) = 1
  · have e1 : (zf_45 Z n b t).1 = Z := by
      unfold zf_45
      rw [q2, if_pos c1]
    have e2 : zg512 Y t = Y := by
      unfold zg512
      rw [if_neg (fun q => q c1)]
    rw [e1, e2]
    exact ⟨hRa, hV, zFc_r, yFr_r, hDt⟩
  by_cases c2 : Y 2 0 0 (3253 + 24 * t) ≠ Y 2 0 0 0
  · have e1 : (zf_45 Z n b t).1 = Z := by
      unfold zf_45
      rw [q2, if_neg c1, q3, q13, if_neg c2]
    have e2 : zg512 Y t = Y := by
      unfold zg512
      rw [if_pos c1, if_pos c2]
    rw [e1, e2]
    exact ⟨hRa, hV, zFc_r, yFr_r, hDt⟩
  have w1 : zW [] [5002, 5003, 5006, 5007, 5008, 5011, 5012, 5013, 5014, 5015, 5016, 5017, 5018, 5019, 5020, 5021] [5002, 5003, 5006, 5007, 5011, 10003, 10004, 10005, 10006, 10007, 10008, 10009, 10010, 10011, 10012, 10013, 10014] b Z Y (zu Z 50 b t 3 (-1)) (zu Y 2 0 0 (3253 + 24 * t) (-1)) := zW_n (v' := -1) (v := -1) (zW_0 (zRx_0 hRa) hV) (ac_50_3 t0 t1 rfl) (zvn_50_3 t0 t1 rfl) rfl rfl rfl rfl
  have hD1 : zDt b (zu Z 50 b t 3 (-1)) (zu Y 2 0 0 (3253 + 24 * t) (-1)) := by
    intro s h0 h1 h2
    rw [zun (by omega)] at h2
    have g := hDt s h0 h1 h2
    have nz : ∀ j : Int, j ≠ 3 → zu Z 50 b t 3 (-1) 50 b s j = Z 50 b s j := fun j q => zu_ne rfl (fun r => q r.2.2.2)
    rw [zun (by omega), zun (by omega), zun (by omega), nz 8 (by omega)]
    refine ⟨fun o => ?_, g.2⟩
    obtain ⟨g1, g2, g3⟩ := g.1 o
    refine ⟨g1, g2, fun k k0 k1 => ?_⟩
    rw [nz _ (by omega), nz _ (by omega), zun (by omega), zun (by omega)]
    exact g3 k k0 k1
  obtain ⟨Z6, h6⟩ : ∃ Z6, zu Z 50 b t 3 (-1) = Z6 := ⟨_, rfl⟩
  obtain ⟨Y8, h8⟩ : ∃ Y8, zu Y 2 0 0 (3253 + 24 * t) (-1) = Y8 := ⟨_, rfl⟩
  have n6 : ∀ (k : Nat) (c i j : Int), k ≠ 50 → Z6 k c i j = Z k c i j := fun k c i j q => by
    rw [← h6]
    exact zu_ne rfl (fun r => q r.1)
  have n8 : ∀ a : Int, a ≠ 3253 + 24 * t → Y8 2 0 0 a = Y 2 0 0 a := fun a q => by
    rw [← h8]
    exact zun q
  rw [h6, h8] at w1 hD1
  have R6 := zRx_1 w1.1
  have N8 : zN4 Y8 := zN4_f hN4 w1.2.2.2.1 ⟨rfl, rfl, rfl⟩
  have em : zf_59 Z6 b t = zf_527 Y8 t := rr_59 R6 w1.2.1 N8 t0 rfl rfl
  obtain ⟨m0, m1, m2⟩ := z527 (t := t) w1.2.1
  by_cases c3 : zf_518 Y8 t 0 ≤ 0
  · have e1 : (zf_45 Z n b t).1 = Z6 := by
      unfold zf_45
      rw [q2, if_neg c1, q3, q13, if_pos (Classical.not_not.mp c2)]
      simp only [zlet]
      rw [h6, em, if_neg (fun q => q (m2.mpr c3))]
    have e2 : zg512 Y t = Y8 := by
      unfold zg512
      rw [if_pos c1, if_neg c2]
      simp only [zlet]
      rw [h8, if_pos c3]
    rw [e1, e2]
    exact ⟨R6, w1.2.1, w1.2.2.1, w1.2.2.2, hD1⟩
  have m3 : zf_527 Y8 t ≠ 0 := fun q => c3 (m2.mp q)
  have e2 : zg512 Y t = zf_513 Y8 t := by
    unfold zg512
    rw [if_pos c1, if_neg c2]
    simp only [zlet]
    rw [h8, if_neg c3]
  have hDv8 : zDv b (zzi Z6 n) Y8 := fun i j i0 i1 j0 j1 ne => by
    rw [show zzi Z6 n 40 b i j = Z 40 b i j from (if_neg (fun q => absurd q.1 (by decide))).trans (n6 _ _ _ _ (by decide)), n8 _ (by omega)]
    exact hDv i j i0 i1 j0 j1 ne
  obtain ⟨N, x, N0, N1, x0, x1, f1, f2, f3, f4, f5, f6, f7, f8, f9, f10⟩ := rr_1056 (b := b) (n := n + 1) (b2 := n) (a := zf_527 Y8 t) (Z := zzi Z6 n) (Y := Y8) (by omega) hDv8 (by omega) m1
  obtain ⟨F, hF⟩ : ∃ F, zf_1056 (zzi Z6 n) (n + 1) b (zf_527 Y8 t) n = F := ⟨_, rfl⟩
  obtain ⟨Y2, hY2⟩ : ∃ Y2, zf_511 Y8 (zf_527 Y8 t) = Y2 := ⟨_, rfl⟩
  rw [hF] at f1 f2 f5 f7 f8 f10
  have f3' := f3
  have f4' := f4
  rw [hY2] at f3 f4 f5 f6 f9
  have z12 : ∀ (k : Nat) (c i j : Int), k ≠ 200 → F.1 k c i j = Z6 k c i j := fun k c i j q => (f8 k c i j (fun r => q r.1)).trans (if_neg (fun r => q r.1))
  have w2 := zW_200 w1 z12 f9
  have now : F.1 11 b 0 13 = Y2 2 0 0 0 := zRl_11_13 (zRx_1 w2.1) rfl
  obtain ⟨GC, hGC⟩ : ∃ G, G = zl_45_1 b t n 6 (zu (zu (zu (zu (zu F.1 50 b t 6 x) 50 b t 2 1) 50 b t 7 (Y2 2 0 0 0)) 50 b t 8 (Y2 2 0 0 0 + x)) 50 b t 11 (w3 (F.1 50 b t 11 + 1))) 5 (Y2 2 0 0 0) 0 := ⟨_, rfl⟩
  obtain ⟨GM, hGM⟩ : ∃ G, G = zl_513_1 t 6 (zu (zu (zu (zu (zu Y2 2 0 0 (3255 + 24 * t) x) 2 0 0 (3252 + 24 * t) 1) 2 0 0 (3254 + 24 * t) (Y2 2 0 0 0)) 2 0 0 (3257 + 24 * t) (w3 (Y2 2 0 0 (3257 + 24 * t) + 1))) 2 0 0 (3258 + 24 * t) N) 5 (Y2 2 0 0 0) 0 := ⟨_, rfl⟩
  rw [e2, zf_45e (by rw [q2]; exact c1) (by rw [q3, q13]; exact Classical.not_not.mp c2) h6 em m3 hF f2 now hGC, zf_513e rfl f3' f4' hY2 hGM t0]
  have w3_ := zW_n (v' := x) (v := x) w2 (ac_50_6 t0 t1 rfl) (zvn_50_6 t0 t1 rfl) rfl rfl rfl rfl
  have w4 := zW_i (v' := 1) (v := 1) w3_ (ac_50_2 t0 t1 rfl) (zvi_50_2 t0 t1 rfl) (by omega) rfl rfl rfl rfl
  have w5 := zW_n (v' := Y2 2 0 0 0) (v := Y2 2 0 0 0) w4 (ac_50_7 t0 t1 rfl) (zvn_50_7 t0 t1 rfl) rfl rfl rfl rfl
  have w6 := zW_c (i := t) (v := Y2 2 0 0 0 + x) w5 adn_50_8 rfl rfl
  have w7 := zW_n (v' := w3 (F.1 50 b t 11 + 1)) (v := w3 (Y2 2 0 0 (3257 + 24 * t) + 1)) w6 (ac_50_11 t0 t1 rfl) (zvn_50_11 t0 t1 rfl) (by rw [zRl_50_11 (x := t) (a := 3257 + 24 * t) (zRx_1 w2.1) t0 t1 rfl]) rfl rfl rfl
  have w8 := zW_m (a := 3258 + 24 * t) (v := N) w7 (adm_towns t0 t1 rfl) (zvn_towns t0 t1 rfl) (zcm_towns t0 t1 rfl) rfl
  have z0 : ∀ (k : Nat) (c i j : Int), k ≠ 50 → zu (zu (zu (zu (zu F.1 50 b t 6 x) 50 b t 2 1) 50 b t 7 (Y2 2 0 0 0)) 50 b t 8 (Y2 2 0 0 0 + x)) 50 b t 11 (w3 (F.1 50 b t 11 + 1)) k c i j = F.1 k c i j := fun k c i j q => by
    rw [zu_ne rfl (fun r => q r.1), zu_ne rfl (fun r => q r.1), zu_ne rfl (fun r => q r.1), zu_ne rfl (fun r => q r.1), zu_ne rfl (fun r => q r.1)]
  have ze8 : zu (zu (zu (zu (zu F.1 50 b t 6 x) 50 b t 2 1) 50 b t 7 (Y2 2 0 0 0)) 50 b t 8 (Y2 2 0 0 0 + x)) 50 b t 11 (w3 (F.1 50 b t 11 + 1)) 50 b t 8 = Y2 2 0 0 0 + x := (zu_ne rfl (fun r => absurd r.2.2.2 (by decide))).trans (zu_at rfl)
  have zes : ∀ i j : Int, i ≠ t → zu (zu (zu (zu (zu F.1 50 b t 6 x) 50 b t 2 1) 50 b t 7 (Y2 2 0 0 0)) 50 b t 8 (Y2 2 0 0 0 + x)) 50 b t 11 (w3 (F.1 50 b t 11 + 1)) 50 b i j = F.1 50 b i j := fun i j q => by
    rw [zu_ne rfl (fun r => q r.2.2.1), zu_ne rfl (fun r => q r.2.2.1), zu_ne rfl (fun r => q r.2.2.1), zu_ne rfl (fun r => q r.2.2.1), zu_ne rfl (fun r => q r.2.2.1)]
  have y0 : ∀ (k : Nat) (c i j : Int), k ≠ 2 → zu (zu (zu (zu (zu Y2 2 0 0 (3255 + 24 * t) x) 2 0 0 (3252 + 24 * t) 1) 2 0 0 (3254 + 24 * t) (Y2 2 0 0 0)) 2 0 0 (3257 + 24 * t) (w3 (Y2 2 0 0 (3257 + 24 * t) + 1))) 2 0 0 (3258 + 24 * t) N k c i j = Y2 k c i j := fun k c i j q => by
    rw [zu_ne rfl (fun r => q r.1), zu_ne rfl (fun r => q r.1), zu_ne rfl (fun r => q r.1), zu_ne rfl (fun r => q r.1), zu_ne rfl (fun r => q r.1)]
  have ya : ∀ a : Int, (a < 3252 + 24 * t ∨ 3258 + 24 * t < a) → zu (zu (zu (zu (zu Y2 2 0 0 (3255 + 24 * t) x) 2 0 0 (3252 + 24 * t) 1) 2 0 0 (3254 + 24 * t) (Y2 2 0 0 0)) 2 0 0 (3257 + 24 * t) (w3 (Y2 2 0 0 (3257 + 24 * t) + 1))) 2 0 0 (3258 + 24 * t) N 2 0 0 a = Y2 2 0 0 a := fun a q => by
    rw [zun (by omega), zun (by omega), zun (by omega), zun (by omega), zun (by omega)]
  have ye2 : zu (zu (zu (zu (zu Y2 2 0 0 (3255 + 24 * t) x) 2 0 0 (3252 + 24 * t) 1) 2 0 0 (3254 + 24 * t) (Y2 2 0 0 0)) 2 0 0 (3257 + 24 * t) (w3 (Y2 2 0 0 (3257 + 24 * t) + 1))) 2 0 0 (3258 + 24 * t) N 2 0 0 (3252 + 24 * t) = 1 := by
    rw [zun (by omega), zun (by omega), zun (by omega), zua]
  have ye8 : zu (zu (zu (zu (zu Y2 2 0 0 (3255 + 24 * t) x) 2 0 0 (3252 + 24 * t) 1) 2 0 0 (3254 + 24 * t) (Y2 2 0 0 0)) 2 0 0 (3257 + 24 * t) (w3 (Y2 2 0 0 (3257 + 24 * t) + 1))) 2 0 0 (3258 + 24 * t) N 2 0 0 (3258 + 24 * t) = N := zua
  generalize zu (zu (zu (zu (zu F.1 50 b t 6 x) 50 b t 2 1) 50 b t 7 (Y2 2 0 0 0)) 50 b t 8 (Y2 2 0 0 0 + x)) 50 b t 11 (w3 (F.1 50 b t 11 + 1)) = ZE at w8 z0 ze8 zes hGC
  generalize zu (zu (zu (zu (zu Y2 2 0 0 (3255 + 24 * t) x) 2 0 0 (3252 + 24 * t) 1) 2 0 0 (3254 + 24 * t) (Y2 2 0 0 0)) 2 0 0 (3257 + 24 * t) (w3 (Y2 2 0 0 (3257 + 24 * t) + 1))) 2 0 0 (3258 + 24 * t) N = YE at w8 y0 ya ye2 ye8 hGM
  have hDE : zDv b ZE YE := fun i j i0 i1 j0 j1 ne => by
    rw [z0 _ _ _ _ (by decide), f8 _ _ _ _ (fun q => absurd q.1 (by decide)), ya _ (by omega), f9 _ _ _ _ (by decide) (by decide) (fun q => absurd q.1 (by decide))]
    exact hDv8 i j i0 i1 j0 j1 ne
  obtain ⟨k1, k2, k3, k4, k5, k6, k7⟩ := rl_45 (b := b) (t := t) (b2 := n) (N := N) (w0 := Y2 2 0 0 0) N1 hDE (fun k k0 k1 => by
      rw [z0 _ _ _ _ (by decide), y0 _ _ _ _ (by decide)]
      exact f5 k k0 k1) (by simpa only [y0 96 _ _ _ (by decide)] using f6) (fun j j0 j1 => by
      rw [z0 _ _ _ _ (by decide)]
      exact f7 j j0 j1) (by
      rw [y0 _ _ _ _ (by decide)]
      exact f3) t0 t1 6 6 ZE YE 5 0 0 (by omega) (by omega) (by omega) (by omega) (by omega) (by omega) (fun _ => rfl) (fun q => by omega) (fun k _ _ => by omega) (fun _ _ _ _ _ => rfl) (fun _ _ _ _ _ => rfl)
  rw [Int.add_zero, ← hGC] at k3
  simp only [Int.add_zero, ← hGC, ← hGM] at k1 k2 k4 k5 k6
  obtain ⟨l1, l2⟩ := k7 N0
  have e47 : zl_47_1 b n N 6 ZE 0 5 0 = zl_47_1 b n N 6 F.1 0 5 0 := zl_47_c (fun k _ _ => z0 _ _ _ _ (by decide)) (fun i j => z0 _ _ _ _ (by decide)) 6 0 5 0 (by omega)
  have V : GM.2.2.1 + GM.1 2 0 0 (3215 + 6 * GM.2.1) = Y2 2 0 0 0 + x := by
    rw [k6, k5, k4 _ _ _ _ (fun q => by have := q.2.2.2; omega), f10]
    unfold zf_47
    rw [zlet3]
    obtain ⟨d1, d2, d3⟩ := hDE (zl_47_1 b n N 6 ZE 0 5 0).2.1 5 l1 (by omega) (by omega) (by omega) (by omega)
    rw [show 3215 + 6 * (zl_47_1 b n N 6 ZE 0 5 0).2.1 = 3210 + 6 * (zl_47_1 b n N 6 ZE 0 5 0).2.1 + 5 by omega, ← d1, e47, z0 _ _ _ _ (by decide)]
    omega
  rw [V]
  have w9 := zW_go w8 t0 t1 k3 k4
  have w10 := zW_m (a := 3269 + 24 * t) (v := Y2 2 0 0 0 + x) w9 (adm_home t0 t1 rfl) (zvn_home t0 t1 rfl) (zcm_home t0 t1 rfl) rfl
  obtain ⟨r1, r2, r3, r4⟩ := zW_1 w10
  refine ⟨r1, r2, r3, r4, ?_⟩
  have ym : ∀ a : Int, (a < 3252 + 24 * t ∨ 3269 + 24 * t < a) → zu GM.1 2 0 0 (3269 + 24 * t) (Y2 2 0 0 0 + x) 2 0 0 a = Y8 2 0 0 a := fun a q => by
    rw [zun (by omega), k4 _ _ _ _ (fun q => by have := q.2.2.2; omega), ya _ (by omega), f9 _ _ _ _ (by decide) (by decide) (fun q => absurd q.1 (by decide))]
  intro s h0 h1 h2
  rw [ym 3200 (by omega)] at h2
  by_cases e : s = t
  · rw [e]
    have m52 : zu GM.1 2 0 0 (3269 + 24 * t) (Y2 2 0 0 0 + x) 2 0 0 (3252 + 24 * t) = 1 := by
      rw [zun (by omega), k4 _ _ _ _ (fun q => by have := q.2.2.2; omega)]
      exact ye2
    have m58 : zu GM.1 2 0 0 (3269 + 24 * t) (Y2 2 0 0 0 + x) 2 0 0 (3258 + 24 * t) = N := by
      rw [zun (by omega), k4 _ _ _ _ (fun q => by have := q.2.2.2; omega)]
      exact ye8
    refine ⟨fun _ => ⟨?_, ?_, fun k q0 q1 => ⟨fun q => ?_, fun q => ?_⟩⟩, fun q => absurd m52 q⟩
    · rw [zua, k3 _ _ _ _ (fun q => by have := q.2.2.2; omega)]
      exact ze8
    · rw [m58]
      omega
    · rw [m58] at q
      rw [zun (by omega), zun (by omega)]
      exact k1 k q0 q
    · rw [m58] at q
      exact k2 k q q1
  · have g := hD1 s h0 h1 h2
    have zc : ∀ j : Int, GC.1 50 b s j = Z6 50 b s j := fun j => by
      rw [k3 _ _ _ _ (fun q => e q.2.2.1), zes _ _ e]
      exact z12 _ _ _ _ (by decide)
    rw [ym (3252 + 24 * s) (by omega), ym (3269 + 24 * s) (by omega), ym (3258 + 24 * s) (by omega), zc 8]
    refine ⟨fun o => ?_, g.2⟩
    obtain ⟨g1, g2, g3⟩ := g.1 o
    refine ⟨g1, g2, fun k q0 q1 => ?_⟩
    rw [zc, zc, ym _ (by omega), ym _ (by omega)]
    exact g3 k q0 q1
