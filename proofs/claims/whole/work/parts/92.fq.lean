/-! findings asked for, and how many there are -/
theorem rf_found {Z Y : qz_Z} {dm : qz_Z → Int → Int → Int → Int → Int → Int → Int → qz_Z} {a1 a2 : Int} (hRa : zR 0 Z Y) (hV : zV Y) (hFn : zFn 0 Z Y) {C : qz_Z × Int × Int} {M : qz_Z × Int} (hC : zE C (zx_201 Z a1 a2)) (hM : zE M (zy_342 Y a1 a2)) : zPq [(24, 1), (13, 2)] Z Y dm C M := by
  have hc : C = _ := hC
  have hm : M = _ := hM
  rw [hc, hm]
  unfold zx_201 zy_342
  simp only [zlet]
  obtain ⟨f0, f1, f2⟩ := hFn
  have f3 : Y 2 0 0 3501 = min 24 (Z 11 0 0 11) := by
    split at f1 <;> omega
  rw [← f3]
  by_cases h1 : a1 < 0
  · rw [if_neg (by omega), if_pos h1]
    exact zPq_e hRa hV zqY_0 (by decide)
  rw [if_neg h1]
  by_cases h2 : Y 2 0 0 3501 - 1 < a1
  · rw [if_neg (by omega), if_pos h2]
    exact zPq_e hRa hV zqY_0 (by decide)
  rw [if_neg h2, if_pos (by omega)]
  by_cases h3 : a2 < 0
  · rw [if_pos h3, if_neg (by omega)]
    exact zPq_e hRa hV (zqY_u zqY_0) (by decide)
  rw [if_neg h3]
  by_cases h4 : 5 < a2
  · rw [if_pos h4, if_neg (by omega)]
    exact zPq_e hRa hV (zqY_u zqY_0) (by decide)
  rw [if_neg h4, if_pos (by omega)]
  refine zPq_a hRa hV (zqY_u zqY_0) ?_
  rw [(zqY_u (t := 0) (zqY_u (t := 0) (zqY_0 (Y := Y)))).1, (zqY_u (t := 0) (zqY_u (t := 0) (zqY_0 (Y := Y)))).1]
  have g := f2 (Y 2 0 0 3501 - 1 - a1) a2 (by omega) (by omega) (by omega) (by omega)
  rw [show max 0 (Z 11 0 0 11 - 1 - a1) = Z 11 0 0 11 - Y 2 0 0 3501 + (Y 2 0 0 3501 - 1 - a1) by omega, g, show 3560 + 6 * (Y 2 0 0 3501 - 1 - a1) + a2 = 3554 + 6 * Y 2 0 0 3501 + (-6) * a1 + a2 by omega]
theorem rl_114 {b s : Int} {Z Y : qz_Z} (hRa : zR b Z Y) (hV : zV Y) : ∀ (m n : Nat) (x5 x6 : Int), 0 ≤ x6 → x6 ≤ 48 → 48 - x6 < (m : Int) → 48 - x6 < (n : Int) → (zl_114_1 b 3 10 s m Z x5 x6).1 = (zl_561_1 s n Y x5 x6).1
  | 0, _, _, _, _, _, _, _ => by omega
  | m + 1, 0, _, _, _, _, _, _ => by omega
  | m + 1, n + 1, x5, x6, h0, h1, h2, h3 => by
    unfold zl_114_1 zl_561_1
    have v := zVr_11_3 (a := 102) hV rfl
    rw [zRl_11_3 (a := 102) hRa rfl]
    by_cases c : Y 2 0 0 102 ≤ x6
    · rw [if_pos c, if_pos c]
    rw [if_neg c, if_neg c, zRl_44_10 (x := x6) (a := 210 + 20 * x6) hRa h0 (by omega) rfl, Int.add_zero]
    split
    · exact rl_114 hRa hV m n _ _ (by omega) (by omega) (by omega) (by omega)
    · exact rl_114 hRa hV m n _ _ (by omega) (by omega) (by omega) (by omega)
theorem rl_1114 {b s : Int} {Z Y : qz_Z} (hRa : zR b Z Y) (hV : zV Y) : ∀ (m n : Nat) (x5 x6 : Int), 0 ≤ x6 → x6 ≤ 60 → 60 - x6 < (m : Int) → 60 - x6 < (n : Int) → (zl_1114_1 b 6 9 s m Z x5 x6).1 = (zl_562_1 s n Y x5 x6).1
  | 0, _, _, _, _, _, _, _ => by omega
  | m + 1, 0, _, _, _, _, _, _ => by omega
  | m + 1, n + 1, x5, x6, h0, h1, h2, h3 => by
    unfold zl_1114_1 zl_562_1
    have v := zVr_11_6 (a := 2000) hV rfl
    rw [zRl_11_6 (a := 2000) hRa rfl]
    by_cases c : Y 2 0 0 2000 ≤ x6
    · rw [if_pos c, if_pos c]
    rw [if_neg c, if_neg c, zRl_47_9 (x := x6) (a := 2019 + 16 * x6) hRa h0 (by omega) rfl, Int.add_zero]
    split
    · exact rl_1114 hRa hV m n _ _ (by omega) (by omega) (by omega) (by omega)
    · exact rl_1114 hRa hV m n _ _ (by omega) (by omega) (by omega) (by omega)
theorem rr_114 {b s : Int} {Z Y : qz_Z} (hRa : zR b Z Y) (hV : zV Y) : zf_114 Z b 3 10 s = zf_561 Y s := rl_114 hRa hV 49 49 0 0 (by omega) (by omega) (by omega) (by omega)
theorem rr_1114 {b s : Int} {Z Y : qz_Z} (hRa : zR b Z Y) (hV : zV Y) : zf_1114 Z b 6 9 s = zf_562 Y s := rl_1114 hRa hV 61 61 0 0 (by omega) (by omega) (by omega) (by omega)
theorem zqY_c {Y Y' : qz_Z} {s : Int} (hV : zV Y) (h : zqY Y Y') : zf_561 Y' s = zf_561 Y s ∧ zf_562 Y' s = zf_562 Y s := by
  have e1 : ∀ (m : Nat) (x y : Int), zl_561_1 s m Y' x y = zl_561_1 s m Y x y := fun m => by
    induction m with
    | zero => exact fun _ _ => rfl
    | succ m ih =>
      intro x y
      unfold zl_561_1
      simp only [h.1, ih]
  have e2 : ∀ (m : Nat) (x y : Int), zl_562_1 s m Y' x y = zl_562_1 s m Y x y := fun m => by
    induction m with
    | zero => exact fun _ _ => rfl
    | succ m ih =>
      intro x y
      unfold zl_562_1
      simp only [h.1, ih]
  unfold zf_561 zf_562
  rw [e1, e2]
  exact ⟨rfl, rfl⟩
theorem rf_sum {Z Y : qz_Z} {dm : qz_Z → Int → Int → Int → Int → Int → Int → Int → qz_Z} {a1 : Int} (hRa : zR 0 Z Y) (hV : zV Y) (hu : Z 11 0 0 15 = Y 1 0 0 37) (hr : Z 3 0 0 8 = Y 1 0 0 34) (ht : Z 4 0 0 1 = Y 1 0 0 49) {C : qz_Z × Int × Int} {M : qz_Z × Int} (hC : zE C (zx_244 Z a1)) (hM : zE M (zy_504 Y a1)) : zPq [(13, 1)] Z Y dm C M := by
  have hc : C = _ := hC
  have hm : M = _ := hM
  rw [hc, hm]
  unfold zx_244 zy_504 zf_124
  simp only [zlet]
  by_cases h1 : a1 < 0
  · rw [if_neg (by omega), if_pos h1]
    exact zPq_e hRa hV zqY_0 (by decide)
  rw [if_neg h1]
  by_cases h2 : 23 < a1
  · rw [if_neg (by omega), if_pos h2]
    exact zPq_e hRa hV zqY_0 (by decide)
  rw [if_neg h2, if_pos (show 0 ≤ a1 ∧ a1 ≤ 23 by omega)]
  have q0 := zqY_u (t := 0) (zqY_0 (Y := Y))
  have qc := fun s => zqY_c (s := s) hV q0
  have n37 : zu Y 1 0 0 2 0 1 0 0 37 = Y 1 0 0 37 := zu_ne rfl (fun q => absurd q.2.2.2 (by decide))
  have n34 : zu Y 1 0 0 2 0 1 0 0 34 = Y 1 0 0 34 := zu_ne rfl (fun q => absurd q.2.2.2 (by decide))
  have n49 : zu Y 1 0 0 2 0 1 0 0 49 = Y 1 0 0 49 := zu_ne rfl (fun q => absurd q.2.2.2 (by decide))
  simp only [q0.1, n37, n34, n49, (qc _).1, (qc _).2, hu, hr, ht, ← rr_114 (b := 0) hRa hV, ← rr_1114 (b := 0) hRa hV, zRl_11_13 (b := 0) (a := 0) hRa rfl, zRl_11_0 (b := 0) (a := 100) hRa rfl, zRl_11_1 (b := 0) (a := 101) hRa rfl, zRl_11_2 (b := 0) (a := 1200) hRa rfl, zRl_11_3 (b := 0) (a := 102) hRa rfl, zRl_11_4 (b := 0) (a := 1400) hRa rfl, zRl_11_5 (b := 0) (a := 1401) hRa rfl, zRl_11_6 (b := 0) (a := 2000) hRa rfl, zRl_11_7 (b := 0) (a := 3000) hRa rfl, zRl_11_8 (b := 0) (a := 3200) hRa rfl, zRl_11_9 (b := 0) (a := 3500) hRa rfl, zRl_11_10 (b := 0) (a := 3815) hRa rfl]
  have D : ∀ {v v' : Int}, v = v' → zPq [(13, 1)] Z Y dm (Z, v, 0) (zu Y 1 0 0 2 0, v') := fun e => zPq_a hRa hV zqY_0 e
  by_cases a : a1 < 21
  · rw [if_pos (show a1 < 21 ∨ 23 < a1 by omega)]
    by_cases c5 : a1 < 5
    · simp only [if_pos c5]
      repeat' split
      all_goals exact D rfl
    simp only [if_neg c5]
    by_cases c9 : 9 < a1
    · simp only [if_pos c9]
      by_cases c13 : a1 < 13
      · simp only [if_pos c13]
        repeat' split
        all_goals exact D rfl
      simp only [if_neg c13]
      by_cases c16 : 16 < a1
      · simp only [if_pos c16]
        have : a1 = 17 ∨ a1 = 18 ∨ a1 = 19 ∨ a1 = 20 := by omega
        rcases this with rfl | rfl | rfl | rfl <;> exact D (by simp)
      · simp only [if_neg c16]
        exact D rfl
    · simp only [if_neg c9]
      exact D rfl
  · rw [if_neg (show ¬ (a1 < 21 ∨ 23 < a1) by omega)]
    have : a1 = 21 ∨ a1 = 22 ∨ a1 = 23 := by omega
    rcases this with rfl | rfl | rfl <;> exact D (by simp)
