/-! THE JUDGE: awards, weights and shares of a parcel that has come. -/
/-- what such a parcel is like -/
abbrev zWq (Y : qz_Z) (q : Int) : Prop := ((1 ≤ Y 2 0 0 (2013 + 16 * q) ∧ Y 2 0 0 (2013 + 16 * q) ≤ 40) ∧ (0 ≤ Y 2 0 0 (2014 + 16 * q) ∧ Y 2 0 0 (2014 + 16 * q) ≤ 40) ∧ (0 ≤ Y 2 0 0 (2015 + 16 * q) ∧ Y 2 0 0 (2015 + 16 * q) ≤ 9999) ∧ (0 ≤ Y 2 0 0 (2017 + 16 * q) ∧ Y 2 0 0 (2017 + 16 * q) ≤ 3)) ∧ (0 ≤ Y 2 0 0 (2018 + 16 * q) ∧ Y 2 0 0 (2018 + 16 * q) ≤ Y 2 0 0 (2024 + 16 * q) ∧ Y 2 0 0 (2024 + 16 * q) ≤ Y 2 0 0 (2021 + 16 * q) ∧ Y 2 0 0 (2021 + 16 * q) ≤ 2000) ∧ (0 ≤ Y 2 0 0 (2025 + 16 * q) ∧ Y 2 0 0 (2025 + 16 * q) ≤ Y 2 0 0 (2022 + 16 * q) ∧ Y 2 0 0 (2022 + 16 * q) ≤ 999) ∧ (0 ≤ Y 2 0 0 (2016 + 16 * q) ∧ Y 2 0 0 (2016 + 16 * q) ≤ Y 2 0 0 (2023 + 16 * q) ∧ Y 2 0 0 (2023 + 16 * q) ≤ Y 2 0 0 (40 + q) ∧ Y 2 0 0 (40 + q) ≤ 671)
section JU
variable {b q c n a : Int} {Z Y : qz_Z}
theorem zw_1 : zf_423 Y q 1 0 = 1 ∧ zf_423 Y q 1 1 = 0 ∧ zf_423 Y q 1 2 = 0 := by
  unfold zf_423
  refine ⟨?_, ?_, ?_⟩ <;> (repeat' split) <;> first | rfl | (exfalso; omega)
theorem zw_2 : zf_423 Y q 2 0 = 0 ∧ zf_423 Y q 2 1 = Y 2 0 0 (2025 + 16 * q) ∧ zf_423 Y q 2 2 = Y 2 0 0 (2022 + 16 * q) - Y 2 0 0 (2025 + 16 * q) := by
  unfold zf_423
  refine ⟨?_, ?_, ?_⟩ <;> (repeat' split) <;> first | rfl | (exfalso; omega)
theorem zw_3 : zf_423 Y q 3 0 = 0 ∧ zf_423 Y q 3 1 = Y 2 0 0 (2023 + 16 * q) - Y 2 0 0 (2016 + 16 * q) ∧ zf_423 Y q 3 2 = Y 2 0 0 (40 + q) - Y 2 0 0 (2023 + 16 * q) := by
  unfold zf_423
  refine ⟨?_, ?_, ?_⟩ <;> (repeat' split) <;> first | rfl | (exfalso; omega)
theorem zw_0g (g : ¬ Y 2 0 0 (113 + 5 * Y 2 0 0 (201 + 20 * Y 2 0 0 (2010 + 16 * q))) - Y 2 0 0 (114 + 5 * Y 2 0 0 (201 + 20 * Y 2 0 0 (2010 + 16 * q))) ≤ Y 2 0 0 (2021 + 16 * q)) : zf_423 Y q 0 0 = 1 ∧ zf_423 Y q 0 1 = 0 ∧ zf_423 Y q 0 2 = 0 := by
  have e : zf_421 Y q = 0 := by
    unfold zf_421
    exact if_neg g
  unfold zf_423 zf_416
  rw [e]
  refine ⟨?_, ?_, ?_⟩ <;> (repeat' split) <;> first | rfl | (exfalso; omega)
theorem zw_0n (g : Y 2 0 0 (113 + 5 * Y 2 0 0 (201 + 20 * Y 2 0 0 (2010 + 16 * q))) - Y 2 0 0 (114 + 5 * Y 2 0 0 (201 + 20 * Y 2 0 0 (2010 + 16 * q))) ≤ Y 2 0 0 (2021 + 16 * q)) : zf_423 Y q 0 0 = max 0 (Y 2 0 0 (2018 + 16 * q) - Y 2 0 0 (113 + 5 * Y 2 0 0 (201 + 20 * Y 2 0 0 (2010 + 16 * q)))) ∧ zf_423 Y q 0 1 = Y 2 0 0 (2024 + 16 * q) - Y 2 0 0 (2018 + 16 * q) ∧ zf_423 Y q 0 2 = Y 2 0 0 (2021 + 16 * q) - Y 2 0 0 (2024 + 16 * q) := by
  have e : zf_421 Y q ≠ 0 := by
    unfold zf_421
    rw [if_pos g]
    (repeat' split) <;> omega
  unfold zf_423 zf_416
  generalize zf_421 Y q = v at e
  simp only [zlet]
  refine ⟨?_, ?_, ?_⟩ <;> (repeat' split) <;> first | rfl | omega | (exfalso; omega)
theorem zw_b (hpr : 0 ≤ Y 2 0 0 (113 + 5 * Y 2 0 0 (201 + 20 * Y 2 0 0 (2010 + 16 * q)))) (c0 : 0 ≤ c) (c1 : c ≤ 3) (hW : zWq Y q) : (0 ≤ zf_423 Y q c 0 ∧ 0 ≤ zf_423 Y q c 1 ∧ 0 ≤ zf_423 Y q c 2) ∧ zf_423 Y q c 0 + zf_423 Y q c 1 + zf_423 Y q c 2 ≤ 2000 := by
  rcases (show c = 0 ∨ c = 1 ∨ c = 2 ∨ c = 3 by omega) with rfl | rfl | rfl | rfl
  · by_cases g : Y 2 0 0 (113 + 5 * Y 2 0 0 (201 + 20 * Y 2 0 0 (2010 + 16 * q))) - Y 2 0 0 (114 + 5 * Y 2 0 0 (201 + 20 * Y 2 0 0 (2010 + 16 * q))) ≤ Y 2 0 0 (2021 + 16 * q)
    · obtain ⟨e0, e1, e2⟩ := zw_0n g
      rw [e0, e1, e2]
      omega
    · obtain ⟨e0, e1, e2⟩ := zw_0g g
      rw [e0, e1, e2]
      omega
  · obtain ⟨e0, e1, e2⟩ := zw_1 (Y := Y) (q := q)
    rw [e0, e1, e2]
    omega
  · obtain ⟨e0, e1, e2⟩ := zw_2 (Y := Y) (q := q)
    rw [e0, e1, e2]
    omega
  · obtain ⟨e0, e1, e2⟩ := zw_3 (Y := Y) (q := q)
    rw [e0, e1, e2]
    omega
/-- the middle weight, where all are none -/
def zwm (Y : qz_Z) (q c : Int) : Int := if zf_423 Y q c 0 + zf_423 Y q c 1 + zf_423 Y q c 2 = 0 then 1 else zf_423 Y q c 1
theorem zw_K (hpr : 0 ≤ Y 2 0 0 (113 + 5 * Y 2 0 0 (201 + 20 * Y 2 0 0 (2010 + 16 * q)))) (c0 : 0 ≤ c) (c1 : c ≤ 3) (hW : zWq Y q) (ha : 0 ≤ a ∧ a ≤ 399960) : shK a (zf_423 Y q c 0) (zwm Y q c) (zf_423 Y q c 2) := by
  obtain ⟨⟨g0, g1, g2⟩, g3⟩ := zw_b hpr c0 c1 hW
  unfold zwm
  generalize zf_423 Y q c 0 = v0 at g0 g3 ⊢
  generalize zf_423 Y q c 1 = v1 at g1 g3 ⊢
  generalize zf_423 Y q c 2 = v2 at g2 g3 ⊢
  have m : ∀ w : Int, 0 ≤ w → w ≤ 2001 → a * w ≤ 2147483647 := fun w w0 w1 => by
    have : a * w ≤ 399960 * 2001 := Int.mul_le_mul ha.2 w1 w0 (by omega)
    omega
  by_cases s : v0 + v1 + v2 = 0
  · rw [if_pos s]
    exact ⟨by omega, ⟨by omega, by omega, by omega⟩, ⟨by omega, by omega⟩, m _ (by omega) (by omega), m _ (by omega) (by omega), m _ (by omega) (by omega)⟩
  · rw [if_neg s]
    exact ⟨by omega, ⟨by omega, by omega, by omega⟩, ⟨by omega, by omega⟩, m _ (by omega) (by omega), m _ (by omega) (by omega), m _ (by omega) (by omega)⟩
/-- the award -/
theorem rr_2 (hRa : zR b Z Y) (hV : zV Y) (hD1 : zD1 b Z Y) (hD4 : zD4 b Z Y) (q0 : 0 ≤ q) (q1 : q < 60) (c0 : 0 ≤ c) (c1 : c ≤ 3) (hst : Y 2 0 0 (2019 + 16 * q) = 2) (hW : zWq Y q) : zf_2 Z b b q c = zf_398 Y q c := by
  have p := zVr_47_0 (x := q) (a := 2010 + 16 * q) hV q0 q1 rfl
  have s := zVr_44_1 (x := Y 2 0 0 (2010 + 16 * q)) (a := 201 + 20 * Y 2 0 0 (2010 + 16 * q)) hV p.1 (by omega) rfl
  obtain ⟨d1, d2⟩ := hD4 q q0 q1 (by omega)
  obtain ⟨⟨k3, k4, k5, k7⟩, _, k12, _⟩ := hW
  unfold zf_2 zf_398 zf_421
  simp only [zlet]
  rw [hD1 q q0 q1, d1, d2, zRl_47_17 (x := q) (a := 40 + q) hRa q0 q1 rfl, zRl_47_6 (x := q) (a := 2016 + 16 * q) hRa q0 q1 rfl, zRl_47_4 (x := q) (a := 2014 + 16 * q) hRa q0 q1 rfl, zRl_47_7 (x := q) (a := 2017 + 16 * q) hRa q0 q1 rfl, zRl_47_3 (x := q) (a := 2013 + 16 * q) hRa q0 q1 rfl, zRl_47_0 (x := q) (a := 2010 + 16 * q) hRa q0 q1 rfl, zRl_44_1 (x := Y 2 0 0 (2010 + 16 * q)) (a := 201 + 20 * Y 2 0 0 (2010 + 16 * q)) hRa p.1 (by omega) rfl, zRl_41_3 (x := Y 2 0 0 (201 + 20 * Y 2 0 0 (2010 + 16 * q))) (a := 113 + 5 * Y 2 0 0 (201 + 20 * Y 2 0 0 (2010 + 16 * q))) hRa s.1 (by omega) rfl, zRl_41_4 (x := Y 2 0 0 (201 + 20 * Y 2 0 0 (2010 + 16 * q))) (a := 114 + 5 * Y 2 0 0 (201 + 20 * Y 2 0 0 (2010 + 16 * q))) hRa s.1 (by omega) rfl]
  generalize Y 2 0 0 (113 + 5 * Y 2 0 0 (201 + 20 * Y 2 0 0 (2010 + 16 * q))) = pr
  generalize Y 2 0 0 (114 + 5 * Y 2 0 0 (201 + 20 * Y 2 0 0 (2010 + 16 * q))) = sp
  generalize Y 2 0 0 (2021 + 16 * q) = ri
  generalize Y 2 0 0 (2022 + 16 * q) = hm at k12 ⊢
  generalize Y 2 0 0 (2013 + 16 * q) = cr at k3 ⊢
  generalize Y 2 0 0 (2015 + 16 * q) = pz
  generalize Y 2 0 0 (2014 + 16 * q) = bd
  generalize Y 2 0 0 (2017 + 16 * q) = g at k7 ⊢
  rw [show max 1 cr = cr from by omega]
  rcases (show c = 0 ∨ c = 1 ∨ c = 2 ∨ c = 3 by omega) with rfl | rfl | rfl | rfl
  · (repeat' split) <;> first | rfl | (exfalso; omega)
  · rcases (show g = 0 ∨ g = 1 ∨ g = 2 ∨ g = 3 by omega) with rfl | rfl | rfl | rfl
    · rw [show zbb 0 = 5 from rfl]
      (repeat' split) <;> first | rfl | (exfalso; omega)
    · rw [show zbb 1 = 15 from rfl]
      (repeat' split) <;> first | rfl | (exfalso; omega)
    · rw [show zbb 2 = 30 from rfl]
      (repeat' split) <;> first | rfl | (exfalso; omega)
    · rw [show zbb 3 = 60 from rfl]
      (repeat' split) <;> first | rfl | (exfalso; omega)
  · by_cases h24 : hm ≤ 24
    · rw [show min hm 24 = hm from by omega]
      (repeat' split) <;> first | rfl | (exfalso; omega)
    · rw [show min hm 24 = 24 from by omega]
      (repeat' split) <;> first | rfl | (exfalso; omega)
  · (repeat' split) <;> first | rfl | (exfalso; omega)
theorem rr_2b (c0 : 0 ≤ c) (c1 : c ≤ 3) (hW : zWq Y q) : 0 ≤ zf_398 Y q c ∧ zf_398 Y q c ≤ 399960 := by
  obtain ⟨⟨k3, k4, k5, k7⟩, _, k12, _⟩ := hW
  unfold zf_398
  simp only [zlet]
  generalize zf_421 Y q = st
  generalize Y 2 0 0 (2022 + 16 * q) = hm at k12 ⊢
  generalize Y 2 0 0 (2013 + 16 * q) = cr at k3 ⊢
  generalize Y 2 0 0 (2015 + 16 * q) = pz at k5 ⊢
  generalize Y 2 0 0 (2014 + 16 * q) = bd at k4 ⊢
  generalize Y 2 0 0 (2017 + 16 * q) = g at k7 ⊢
  have hB : cr * pz * bd / cr = pz * bd := by
    rw [Int.mul_assoc]
    exact Int.mul_ediv_cancel_left _ (by omega)
  have hP0 : 0 ≤ cr * pz := Int.mul_nonneg (by omega) k5.1
  have hP1 : cr * pz ≤ 40 * 9999 := Int.mul_le_mul k3.2 k5.2 k5.1 (by omega)
  have hB0 : 0 ≤ pz * bd := Int.mul_nonneg k5.1 k4.1
  have hB1 : pz * bd ≤ 9999 * 40 := Int.mul_le_mul k5.2 k4.2 k4.1 (by omega)
  have hH0 : 0 ≤ hm → 0 ≤ cr * pz * hm := fun x => Int.mul_nonneg hP0 x
  have hH1 : hm ≤ 24 → cr * pz * hm ≤ cr * pz * 24 := fun x => Int.mul_le_mul_of_nonneg_left x hP0
  rw [hB]
  generalize pz * bd = B at hB0 hB1 ⊢
  generalize cr * pz * hm = H at hH0 hH1 ⊢
  generalize cr * pz = P at hP0 hP1 hH1 ⊢
  (repeat' split) <;> omega
/-- the weights that shares go by -/
theorem rr_10 (hRa : zR b Z Y) (hV : zV Y) (hD1 : zD1 b Z Y) (hD4 : zD4 b Z Y) (q0 : 0 ≤ q) (q1 : q < 60) (c0 : 0 ≤ c) (c1 : c ≤ 3) (hst : Y 2 0 0 (2019 + 16 * q) = 2) (hW : zWq Y q) : zf_10 Z n b b q c a = zf_9 Z n a (zf_423 Y q c 0) (zwm Y q c) (zf_423 Y q c 2) := by
  have p := zVr_47_0 (x := q) (a := 2010 + 16 * q) hV q0 q1 rfl
  have s := zVr_44_1 (x := Y 2 0 0 (2010 + 16 * q)) (a := 201 + 20 * Y 2 0 0 (2010 + 16 * q)) hV p.1 (by omega) rfl
  obtain ⟨d1, d2⟩ := hD4 q q0 q1 (by omega)
  unfold zf_10 zwm
  rcases (show c = 0 ∨ c = 1 ∨ c = 2 ∨ c = 3 by omega) with rfl | rfl | rfl | rfl
  · rw [d1, zRl_47_8 (x := q) (a := 2018 + 16 * q) hRa q0 q1 rfl, zRl_47_15 (x := q) (a := 2024 + 16 * q) hRa q0 q1 rfl, zRl_47_0 (x := q) (a := 2010 + 16 * q) hRa q0 q1 rfl, zRl_44_1 (x := Y 2 0 0 (2010 + 16 * q)) (a := 201 + 20 * Y 2 0 0 (2010 + 16 * q)) hRa p.1 (by omega) rfl, zRl_41_3 (x := Y 2 0 0 (201 + 20 * Y 2 0 0 (2010 + 16 * q))) (a := 113 + 5 * Y 2 0 0 (201 + 20 * Y 2 0 0 (2010 + 16 * q))) hRa s.1 (by omega) rfl, zRl_41_4 (x := Y 2 0 0 (201 + 20 * Y 2 0 0 (2010 + 16 * q))) (a := 114 + 5 * Y 2 0 0 (201 + 20 * Y 2 0 0 (2010 + 16 * q))) hRa s.1 (by omega) rfl]
    by_cases g : Y 2 0 0 (113 + 5 * Y 2 0 0 (201 + 20 * Y 2 0 0 (2010 + 16 * q))) - Y 2 0 0 (114 + 5 * Y 2 0 0 (201 + 20 * Y 2 0 0 (2010 + 16 * q))) ≤ Y 2 0 0 (2021 + 16 * q)
    · obtain ⟨e0, e1, e2⟩ := zw_0n g
      rw [e0, e1, e2]
      generalize max 0 (Y 2 0 0 (2018 + 16 * q) - Y 2 0 0 (113 + 5 * Y 2 0 0 (201 + 20 * Y 2 0 0 (2010 + 16 * q)))) = w0
      (repeat' split) <;> first | rfl | (exfalso; omega)
    · obtain ⟨e0, e1, e2⟩ := zw_0g g
      rw [e0, e1, e2]
      (repeat' split) <;> first | rfl | (exfalso; omega)
  · obtain ⟨e0, e1, e2⟩ := zw_1 (Y := Y) (q := q)
    rw [e0, e1, e2]
    (repeat' split) <;> first | rfl | (exfalso; omega)
  · obtain ⟨e0, e1, e2⟩ := zw_2 (Y := Y) (q := q)
    rw [e0, e1, e2, d2, zRl_47_16 (x := q) (a := 2025 + 16 * q) hRa q0 q1 rfl]
    (repeat' split) <;> first | rfl | (exfalso; omega)
  · obtain ⟨e0, e1, e2⟩ := zw_3 (Y := Y) (q := q)
    rw [e0, e1, e2, zRl_47_17 (x := q) (a := 40 + q) hRa q0 q1 rfl, zRl_47_6 (x := q) (a := 2016 + 16 * q) hRa q0 q1 rfl, zRl_47_14 (x := q) (a := 2023 + 16 * q) hRa q0 q1 rfl]
    (repeat' split) <;> first | rfl | (exfalso; omega)
/-- the weights that shares go by -/
theorem rr_1010 {x : Int} (hRa : zR b Z Y) (hV : zV Y) (hD1 : zD1 b Z Y) (hD4 : zD4 b Z Y) (q0 : 0 ≤ q) (q1 : q < 60) (c0 : 0 ≤ c) (c1 : c ≤ 3) (hst : Y 2 0 0 (2019 + 16 * q) = 2) (hW : zWq Y q) : zf_1010 Z n b b q c a x = zf_1009 Z n a (zf_423 Y q c 0) (zwm Y q c) (zf_423 Y q c 2) x := by
  have p := zVr_47_0 (x := q) (a := 2010 + 16 * q) hV q0 q1 rfl
  have s := zVr_44_1 (x := Y 2 0 0 (2010 + 16 * q)) (a := 201 + 20 * Y 2 0 0 (2010 + 16 * q)) hV p.1 (by omega) rfl
  obtain ⟨d1, d2⟩ := hD4 q q0 q1 (by omega)
  unfold zf_1010 zwm
  rcases (show c = 0 ∨ c = 1 ∨ c = 2 ∨ c = 3 by omega) with rfl | rfl | rfl | rfl
  · rw [d1, zRl_47_8 (x := q) (a := 2018 + 16 * q) hRa q0 q1 rfl, zRl_47_15 (x := q) (a := 2024 + 16 * q) hRa q0 q1 rfl, zRl_47_0 (x := q) (a := 2010 + 16 * q) hRa q0 q1 rfl, zRl_44_1 (x := Y 2 0 0 (2010 + 16 * q)) (a := 201 + 20 * Y 2 0 0 (2010 + 16 * q)) hRa p.1 (by omega) rfl, zRl_41_3 (x := Y 2 0 0 (201 + 20 * Y 2 0 0 (2010 + 16 * q))) (a := 113 + 5 * Y 2 0 0 (201 + 20 * Y 2 0 0 (2010 + 16 * q))) hRa s.1 (by omega) rfl, zRl_41_4 (x := Y 2 0 0 (201 + 20 * Y 2 0 0 (2010 + 16 * q))) (a := 114 + 5 * Y 2 0 0 (201 + 20 * Y 2 0 0 (2010 + 16 * q))) hRa s.1 (by omega) rfl]
    by_cases g : Y 2 0 0 (113 + 5 * Y 2 0 0 (201 + 20 * Y 2 0 0 (2010 + 16 * q))) - Y 2 0 0 (114 + 5 * Y 2 0 0 (201 + 20 * Y 2 0 0 (2010 + 16 * q))) ≤ Y 2 0 0 (2021 + 16 * q)
    · obtain ⟨e0, e1, e2⟩ := zw_0n g
      rw [e0, e1, e2]
      generalize max 0 (Y 2 0 0 (2018 + 16 * q) - Y 2 0 0 (113 + 5 * Y 2 0 0 (201 + 20 * Y 2 0 0 (2010 + 16 * q)))) = w0
      (repeat' split) <;> first | rfl | (exfalso; omega)
    · obtain ⟨e0, e1, e2⟩ := zw_0g g
      rw [e0, e1, e2]
      (repeat' split) <;> first | rfl | (exfalso; omega)
  · obtain ⟨e0, e1, e2⟩ := zw_1 (Y := Y) (q := q)
    rw [e0, e1, e2]
    (repeat' split) <;> first | rfl | (exfalso; omega)
  · obtain ⟨e0, e1, e2⟩ := zw_2 (Y := Y) (q := q)
    rw [e0, e1, e2, d2, zRl_47_16 (x := q) (a := 2025 + 16 * q) hRa q0 q1 rfl]
    (repeat' split) <;> first | rfl | (exfalso; omega)
  · obtain ⟨e0, e1, e2⟩ := zw_3 (Y := Y) (q := q)
    rw [e0, e1, e2, zRl_47_17 (x := q) (a := 40 + q) hRa q0 q1 rfl, zRl_47_6 (x := q) (a := 2016 + 16 * q) hRa q0 q1 rfl, zRl_47_14 (x := q) (a := 2023 + 16 * q) hRa q0 q1 rfl]
    (repeat' split) <;> first | rfl | (exfalso; omega)
end JU
