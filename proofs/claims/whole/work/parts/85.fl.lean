/-! the hand falls at once, or step by step -/
theorem rr_33 {b o p : Int} {Z Y : qz_Z} (hRa : zR b Z Y) (hN1 : zN1 Y) (o0 : 0 ≤ o) (o1 : o < 24) (p0 : 0 ≤ p) (p1 : p < 48) : zf_33 Z b o b p = zf_270 Y o p := by
  unfold zf_33 zf_270
  rw [zRl_44_4 (x := p) (a := 204 + 20 * p) hRa p0 p1 rfl, zRl_44_9 (x := p) (a := 209 + 20 * p) hRa p0 p1 rfl, zRl_44_1 (x := p) (a := 201 + 20 * p) hRa p0 p1 rfl, zRl_46_2 (x := o) (a := 1512 + 12 * o) hRa o0 o1 rfl, zRl_46_1 (x := o) (a := 1511 + 12 * o) hRa o0 o1 rfl]
  have n1 := (hN1 p p0 p1).1
  split <;> split <;> (try split) <;> (try split) <;> (try split) <;> (try split) <;> (try split) <;> (try split) <;> (try split) <;> first | rfl | omega
/-- what a buyer has left -/
def zlf (Y : qz_Z) (o : Int) : Int := w3 (w3 (Y 2 0 0 (1411 + 12 * Y 2 0 0 (1510 + 12 * o)) + Y 2 0 0 (1413 + 12 * Y 2 0 0 (1510 + 12 * o))) - zf_289 Y (Y 2 0 0 (1510 + 12 * o)))
theorem rr_lf {b o : Int} {Z Y : qz_Z} (hRa : zR b Z Y) (hV : zV Y) (hDb : zDb b Z) (o0 : 0 ≤ o) (o1 : o < 24) : w3 (w3 (Z 45 b (Z 46 b o 0) 1 + Z 45 b (Z 46 b o 0) 3) - Z 45 b (Z 46 b o 0) 4) = zlf Y o := by
  have vb := zVr_46_0 (x := o) (a := 1510 + 12 * o) hV o0 o1 rfl
  unfold zlf
  rw [zRl_46_0 (x := o) (a := 1510 + 12 * o) hRa o0 o1 rfl, zDb_4 hRa hV hDb vb.1 (by omega), zRl_45_1 (a := 1411 + 12 * Y 2 0 0 (1510 + 12 * o)) hRa vb.1 (by omega) rfl, zRl_45_3 (a := 1413 + 12 * Y 2 0 0 (1510 + 12 * o)) hRa vb.1 (by omega) rfl]
/-- an order takes a pallet at a price -/
def zGo (Y : qz_Z) (p pr o : Int) : Prop := zf_270 Y o p ≠ 0 ∧ zf_260 Y o ≠ 0 ∧ pr ≤ Y 2 0 0 (1514 + 12 * o) ∧ pr ≤ zlf Y o
theorem zl_26g {b p : Int} {Z Y : qz_Z} (hRa : zR b Z Y) (hV : zV Y) (hDb : zDb b Z) (hN1 : zN1 Y) (p0 : 0 ≤ p) (p1 : p < 48) (hq : Y 2 0 0 2000 < 60) {pr : Int} (r0 : 1 ≤ pr) : ∀ (m : Nat) (x2 x3 : Int), 0 ≤ x3 → x3 ≤ 24 → 24 - x3 < (m : Int) → (pr ≤ (zl_26_1 b b p m Z x2 x3).1 ↔ pr ≤ x2 ∨ ∃ o, x3 ≤ o ∧ o < Y 2 0 0 1401 ∧ zGo Y p pr o)
  | 0, _, _, _, _, _ => by omega
  | m + 1, x2, x3, h0, h1, h2 => by
    unfold zl_26_1
    have v5 := zVr_11_5 (a := 1401) hV rfl
    have r6 := zRl_11_6 (a := 2000) hRa rfl
    rw [zRl_11_5 (a := 1401) hRa rfl]
    by_cases c : Y 2 0 0 1401 ≤ x3
    · rw [if_pos c]
      constructor
      · exact .inl
      · rintro (g | ⟨o, g1, g2, _⟩)
        · exact g
        · omega
    have l3 : x3 < 24 := by omega
    rw [if_neg c]
    simp only [zlet]
    have e14 : zf_14 Z b b x3 = zf_260 Y x3 := rr_14 hRa hV h0 l3 rfl rfl
    rw [e14, if_neg (show ¬ 60 ≤ Z 11 b 0 6 by omega), rr_33 hRa hN1 h0 l3 p0 p1, rr_lf hRa hV hDb h0 l3, zRl_46_4 (x := x3) (a := 1514 + 12 * x3) hRa h0 l3 rfl]
    have ih := fun y2 => zl_26g hRa hV hDb hN1 p0 p1 hq r0 m y2 (x3 + 1) (by omega) (by omega) (by omega)
    have ex : (∃ o, x3 ≤ o ∧ o < Y 2 0 0 1401 ∧ zGo Y p pr o) ↔ zGo Y p pr x3 ∨ ∃ o, x3 + 1 ≤ o ∧ o < Y 2 0 0 1401 ∧ zGo Y p pr o := by
      constructor
      · rintro ⟨o, g1, g2, g3⟩
        by_cases e : o = x3
        · rw [e] at g3
          exact .inl g3
        · exact .inr ⟨o, by omega, g2, g3⟩
      · rintro (g | ⟨o, g1, g2, g3⟩)
        · exact ⟨x3, by omega, by omega, g⟩
        · exact ⟨o, by omega, g2, g3⟩
    rw [ex]
    by_cases a : zf_260 Y x3 = 0
    · rw [if_pos a, ih]
      have ng : ¬ zGo Y p pr x3 := fun g => g.2.1 a
      simp only [ng, false_or]
    rw [if_neg a]
    by_cases f : zf_270 Y x3 p ≠ 0
    · rw [if_pos f, ih]
      have gg : zGo Y p pr x3 ↔ pr ≤ Y 2 0 0 (1514 + 12 * x3) ∧ pr ≤ zlf Y x3 := ⟨fun g => g.2.2, fun g => ⟨f, a, g⟩⟩
      rw [gg, ← or_assoc]
      have mm : pr ≤ max x2 (max 0 (min (zlf Y x3) (Y 2 0 0 (1514 + 12 * x3)))) ↔ pr ≤ x2 ∨ (pr ≤ Y 2 0 0 (1514 + 12 * x3) ∧ pr ≤ zlf Y x3) := by omega
      rw [mm]
    · rw [if_neg f, ih]
      have ng : ¬ zGo Y p pr x3 := fun g => f g.1
      simp only [ng, false_or]
      have mm : pr ≤ max x2 0 ↔ pr ≤ x2 := by omega
      rw [mm]
theorem zl_286g {p pr : Int} {Y : qz_Z} (hV : zV Y) (hq : Y 2 0 0 2000 < 60) : ∀ (n : Nat) (x3 x4 : Int), 0 ≤ x4 → x4 ≤ 24 → 24 - x4 < (n : Int) → (x3 = -1 ∨ 0 ≤ x3) → ((zl_286_1 p pr n Y x3 x4).1 = -1 ↔ x3 = -1 ∧ ¬ ∃ o, x4 ≤ o ∧ o < Y 2 0 0 1401 ∧ zGo Y p pr o) ∧ ((zl_286_1 p pr n Y x3 x4).1 = x3 ∨ (0 ≤ (zl_286_1 p pr n Y x3 x4).1 ∧ (zl_286_1 p pr n Y x3 x4).1 < Y 2 0 0 1401 ∧ zGo Y p pr (zl_286_1 p pr n Y x3 x4).1))
  | 0, _, _, _, _, _, _ => by omega
  | n + 1, x3, x4, h0, h1, h2, hx => by
    unfold zl_286_1
    have v5 := zVr_11_5 (a := 1401) hV rfl
    by_cases c : Y 2 0 0 1401 ≤ x4
    · rw [if_pos c]
      refine ⟨⟨fun e => ⟨e, ?_⟩, fun e => e.1⟩, .inl rfl⟩
      rintro ⟨o, g1, g2, _⟩
      omega
    rw [if_neg c, if_neg (show ¬ 60 ≤ Y 2 0 0 2000 by omega)]
    simp only [zlet]
    have ih := fun y3 hy => zl_286g (p := p) (pr := pr) hV hq n y3 (x4 + 1) (by omega) (by omega) (by omega) hy
    have ex : (∃ o, x4 ≤ o ∧ o < Y 2 0 0 1401 ∧ zGo Y p pr o) ↔ zGo Y p pr x4 ∨ ∃ o, x4 + 1 ≤ o ∧ o < Y 2 0 0 1401 ∧ zGo Y p pr o := by
      constructor
      · rintro ⟨o, g1, g2, g3⟩
        by_cases e : o = x4
        · rw [e] at g3
          exact .inl g3
        · exact .inr ⟨o, by omega, g2, g3⟩
      · rintro (g | ⟨o, g1, g2, g3⟩)
        · exact ⟨x4, by omega, by omega, g⟩
        · exact ⟨o, by omega, g2, g3⟩
    rw [ex]
    have no : ¬ zGo Y p pr x4 → ((zl_286_1 p pr n Y x3 (x4 + 1)).1 = -1 ↔ x3 = -1 ∧ ¬ (zGo Y p pr x4 ∨ ∃ o, x4 + 1 ≤ o ∧ o < Y 2 0 0 1401 ∧ zGo Y p pr o)) ∧ ((zl_286_1 p pr n Y x3 (x4 + 1)).1 = x3 ∨ (0 ≤ (zl_286_1 p pr n Y x3 (x4 + 1)).1 ∧ (zl_286_1 p pr n Y x3 (x4 + 1)).1 < Y 2 0 0 1401 ∧ zGo Y p pr (zl_286_1 p pr n Y x3 (x4 + 1)).1)) := fun ng => by
      have g := ih x3 hx
      simp only [ng, false_or]
      exact g
    by_cases f1 : zf_270 Y x4 p = 0
    · rw [if_pos f1]
      exact no (fun g => g.1 f1)
    rw [if_neg f1]
    by_cases f2 : zf_260 Y x4 = 0
    · rw [if_pos f2]
      exact no (fun g => g.2.1 f2)
    rw [if_neg f2]
    by_cases f3 : Y 2 0 0 (1514 + 12 * x4) < pr
    · rw [if_pos f3]
      exact no (fun g => by have := g.2.2.1; omega)
    rw [if_neg f3]
    have el : w3 (w3 (Y 2 0 0 (1411 + 12 * Y 2 0 0 (1510 + 12 * x4)) + Y 2 0 0 (1413 + 12 * Y 2 0 0 (1510 + 12 * x4))) - zf_289 Y (Y 2 0 0 (1510 + 12 * x4))) = zlf Y x4 := rfl
    rw [el]
    by_cases f4 : zlf Y x4 < pr
    · rw [if_pos f4]
      exact no (fun g => by have := g.2.2.2; omega)
    rw [if_neg f4]
    have gg : zGo Y p pr x4 := ⟨f1, f2, by omega, by omega⟩
    have yes : ((zl_286_1 p pr n Y x4 (x4 + 1)).1 = -1 ↔ x3 = -1 ∧ ¬ (zGo Y p pr x4 ∨ ∃ o, x4 + 1 ≤ o ∧ o < Y 2 0 0 1401 ∧ zGo Y p pr o)) ∧ ((zl_286_1 p pr n Y x4 (x4 + 1)).1 = x3 ∨ (0 ≤ (zl_286_1 p pr n Y x4 (x4 + 1)).1 ∧ (zl_286_1 p pr n Y x4 (x4 + 1)).1 < Y 2 0 0 1401 ∧ zGo Y p pr (zl_286_1 p pr n Y x4 (x4 + 1)).1)) := by
      obtain ⟨g1, g2⟩ := ih x4 (.inr h0)
      refine ⟨⟨fun e => ?_, fun e => absurd (.inl gg) e.2⟩, .inr ?_⟩
      · have := (g1.mp e).1
        omega
      · rcases g2 with g2 | g2
        · rw [g2]
          exact ⟨h0, by omega, gg⟩
        · exact g2
    by_cases f5 : x3 = -1
    · rw [if_pos f5]
      exact yes
    rw [if_neg f5]
    by_cases f6 : Y 2 0 0 (1514 + 12 * x4) ≤ Y 2 0 0 (1514 + 12 * x3)
    · rw [if_pos f6]
      obtain ⟨g1, g2⟩ := ih x3 hx
      refine ⟨⟨fun e => ?_, fun e => absurd e.1 f5⟩, g2⟩
      exact absurd (g1.mp e).1 f5
    · rw [if_neg f6]
      exact yes
/-- a taker is there just up to the highest price -/
theorem rr_26 {b p pr : Int} {Z Y : qz_Z} (hRa : zR b Z Y) (hV : zV Y) (hDb : zDb b Z) (hN1 : zN1 Y) (p0 : 0 ≤ p) (p1 : p < 48) (r0 : 1 ≤ pr) : (pr ≤ zf_26 Z b b p → 0 ≤ zf_286 Y p pr ∧ zf_286 Y p pr < Y 2 0 0 1401 ∧ Y 2 0 0 2000 < 60 ∧ zGo Y p pr (zf_286 Y p pr)) ∧ (¬ pr ≤ zf_26 Z b b p → zf_286 Y p pr = -1) := by
  have v6 := zVr_11_6 (a := 2000) hV rfl
  have r6 := zRl_11_6 (a := 2000) hRa rfl
  have e1 : zf_26 Z b b p = (zl_26_1 b b p 25 Z 0 0).1 := rfl
  have e2 : zf_286 Y p pr = (zl_286_1 p pr 25 Y (-1) 0).1 := rfl
  rw [e1, e2]
  by_cases hq : Y 2 0 0 2000 < 60
  · have g := zl_26g hRa hV hDb hN1 p0 p1 hq r0 25 0 0 (by omega) (by omega) (by omega)
    obtain ⟨k1, k2⟩ := zl_286g (p := p) (pr := pr) hV hq 25 (-1) 0 (by omega) (by omega) (by omega) (.inl rfl)
    refine ⟨fun h => ?_, fun h => ?_⟩
    · have n : ¬ (zl_286_1 p pr 25 Y (-1) 0).1 = -1 := fun e => by
        rcases g.mp h with g | g
        · omega
        · exact (k1.mp e).2 g
      rcases k2 with k2 | k2
      · exact absurd k2 n
      · exact ⟨k2.1, k2.2.1, hq, k2.2.2⟩
    · exact k1.mpr ⟨rfl, fun x => h (g.mpr (.inr x))⟩
  · have z26 : ∀ (m : Nat) (x2 x3 : Int), x2 = 0 → (zl_26_1 b b p m Z x2 x3).1 = 0 := fun m => by
      induction m with
      | zero => exact fun x2 x3 h => h
      | succ m ih =>
        intro x2 x3 h
        unfold zl_26_1
        simp only [zlet]
        rw [if_pos (show 60 ≤ Z 11 b 0 6 by omega)]
        split
        · exact h
        split
        · exact ih _ _ h
        · exact ih _ _ (by omega)
    rw [z26 25 0 0 rfl]
    refine ⟨fun h => by omega, fun _ => ?_⟩
    unfold zl_286_1
    rw [if_pos (show 60 ≤ Y 2 0 0 2000 by omega)]
    split <;> rfl
/-- the reference's hand falls k times -/
theorem zl309_f {c p start res st : Int} {Y : qz_Z} : ∀ (k n : Nat) (h : Int), (∀ j : Int, 0 ≤ j → j < (k : Int) → zf_286 Y p (h - j * st) = -1 ∧ res ≤ h - (j + 1) * st) → zl_309_1 c p start res st (n + k) Y h 0 = zl_309_1 c p start res st n Y (h - k * st) 0
  | 0, n, h, _ => by
    rw [show h - ((0 : Nat) : Int) * st = h by simp]
    rfl
  | k + 1, n, h, hh => by
    obtain ⟨a1, a2⟩ := hh 0 (by omega) (by omega)
    rw [show h - 0 * st = h by simp] at a1
    rw [show h - (0 + 1) * st = h - st by rw [Int.zero_add, Int.one_mul]] at a2
    rw [show n + (k + 1) = (n + k) + 1 by omega, zl_309_1]
    simp only [zlet, zlet2]
    rw [if_neg (show ¬ (0 : Int) ≠ 0 by omega), a1, if_neg (show ¬ (-1 : Int) ≠ -1 by omega), if_pos a2, zl309_f k n (h - st) (fun j j0 j1 => by
      obtain ⟨b1, b2⟩ := hh (j + 1) (by omega) (by omega)
      have e1 : h - st - j * st = h - (j + 1) * st := by rw [Int.add_mul, Int.one_mul]; omega
      have e2 : h - st - (j + 1) * st = h - (j + 1 + 1) * st := by rw [Int.add_mul (j + 1) 1 st, Int.one_mul]; omega
      rw [e1, e2]
      exact ⟨b1, b2⟩)]
    congr 1
    rw [show (((k + 1 : Nat)) : Int) = (k : Int) + 1 by omega, Int.add_mul, Int.one_mul]
    omega
