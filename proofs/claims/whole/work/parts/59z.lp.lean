/-- a pallet that is kept stands in a room that is there, or on the floor (6) -/
def zN8 (Y : qz_Z) : Prop := ∀ p : Int, 0 ≤ p → p < 48 → p < Y 2 0 0 102 → Y 2 0 0 (211 + 20 * p) < Y 2 0 0 1200 ∨ Y 2 0 0 (211 + 20 * p) = 6
theorem zN8_f {K : List Nat} {Y M : qz_Z} (h : zN8 Y) (g : yFa K Y M) (e : K.contains 4412 = false ∧ K.contains 1103 = false ∧ K.contains 1102 = false) : zN8 M := fun p h0 h1 h2 => by
  rw [yFr_at 1103 g e.2.1 (zcm_s (ac_11_3 rfl))] at h2
  rw [yFr_at 4412 g e.1 (zcm_s (ac_44_12 h0 h1 rfl)), yFr_at 1102 g e.2.2 (zcm_s (ac_11_2 rfl))]
  exact h p h0 h1 h2
/-- a lot is put behind the others of its clock -/
theorem zNL_put {Y M : qz_Z} {q c p : Int} (h : zNL Y) (hV : zV Y) (h0 : 0 ≤ c) (h1 : c < 2) (hc : c < Y 2 0 0 3000) (hp : Y 2 0 0 (3015 + 60 * c) = p) (p0 : 0 ≤ p) (p1 : p < 12) (q0 : 0 ≤ q) (q1 : q < 48) (s0 : Y 2 0 0 (210 + 20 * q) = 0) (cr : 1 ≤ Y 2 0 0 (204 + 20 * q)) (nm : ∀ a : Int, (a < 3022 + 60 * c + 3 * p ∨ 3024 + 60 * c + 3 * p < a) → a ≠ 3015 + 60 * c → a ≠ 210 + 20 * q → M 2 0 0 a = Y 2 0 0 a) (l : M 2 0 0 (3015 + 60 * c) = p + 1) (m : M 2 0 0 (3022 + 60 * c + 3 * p) = q) (st : M 2 0 0 (210 + 20 * q) = 1) : zNL M := by
  obtain ⟨n5, n6, n7⟩ := h
  have a3 : M 2 0 0 3000 = Y 2 0 0 3000 := nm _ (by omega) (by omega) (by omega)
  have al : ∀ c' : Int, 0 ≤ c' → c' < 2 → c' ≠ c → M 2 0 0 (3015 + 60 * c') = Y 2 0 0 (3015 + 60 * c') := fun c' g0 g1 g => nm _ (by omega) (by omega) (by omega)
  have at' : ∀ c' t : Int, 0 ≤ c' → c' < 2 → 0 ≤ t → t < 12 → ¬ (c' = c ∧ t = p) → M 2 0 0 (3022 + 60 * c' + 3 * t) = Y 2 0 0 (3022 + 60 * c' + 3 * t) := fun c' t g0 g1 g2 g3 g => nm _ (by omega) (by omega) (by omega)
  have as : ∀ r : Int, 0 ≤ r → r < 48 → r ≠ q → M 2 0 0 (210 + 20 * r) = Y 2 0 0 (210 + 20 * r) := fun r g0 g1 g => nm _ (by omega) (by omega) (by omega)
  have ac : ∀ r : Int, 0 ≤ r → r < 48 → M 2 0 0 (204 + 20 * r) = Y 2 0 0 (204 + 20 * r) := fun r g0 g1 => nm _ (by omega) (by omega) (by omega)
  have en : ∀ c' t : Int, 0 ≤ c' → c' < 2 → 0 ≤ t → t < 12 → c' < M 2 0 0 3000 → t < M 2 0 0 (3015 + 60 * c') → (c' = c ∧ t = p ∧ M 2 0 0 (3022 + 60 * c' + 3 * t) = q) ∨ (¬ (c' = c ∧ t = p) ∧ M 2 0 0 (3022 + 60 * c' + 3 * t) = Y 2 0 0 (3022 + 60 * c' + 3 * t) ∧ t < Y 2 0 0 (3015 + 60 * c') ∧ Y 2 0 0 (3022 + 60 * c' + 3 * t) ≠ q) := by
    intro c' t g0 g1 g2 g3 g4 g5
    by_cases x : c' = c ∧ t = p
    · exact .inl ⟨x.1, x.2, by rw [x.1, x.2]; exact m⟩
    · have lt : t < Y 2 0 0 (3015 + 60 * c') := by
        by_cases y : c' = c
        · rw [y, l] at g5
          rw [y]
          have ne : t ≠ p := fun z => x ⟨y, z⟩
          omega
        · rw [al c' g0 g1 y] at g5
          exact g5
      refine .inr ⟨x, at' c' t g0 g1 g2 g3 x, lt, fun z => ?_⟩
      have k := (n6 c' t g0 g1 g2 g3 (by rw [← a3]; exact g4) lt).1
      rw [z, s0] at k
      omega
  refine ⟨fun c1 t1 c2 t2 i0 i1 j0 j1 i2 i3 j2 j3 i4 j4 i5 j5 i6 => ?_, fun c1 t1 i0 i1 i2 i3 i4 i5 => ?_, fun r i0 i1 i2 => ?_⟩
  · rcases en c1 t1 i0 i1 i2 i3 i4 i5 with ⟨x1, x2, x3⟩ | ⟨x1, x2, x3, x4⟩ <;> rcases en c2 t2 j0 j1 j2 j3 j4 j5 with ⟨y1, y2, y3⟩ | ⟨y1, y2, y3, y4⟩
    · exact ⟨x1.trans y1.symm, x2.trans y2.symm⟩
    · exact absurd (y2.symm.trans (i6.symm.trans x3)) y4
    · exact absurd (x2.symm.trans (i6.trans y3)) x4
    · exact n5 c1 t1 c2 t2 i0 i1 j0 j1 i2 i3 j2 j3 (by rw [← a3]; exact i4) (by rw [← a3]; exact j4) x3 y3 (x2.symm.trans (i6.trans y2))
  · rcases en c1 t1 i0 i1 i2 i3 i4 i5 with ⟨x1, x2, x3⟩ | ⟨x1, x2, x3, x4⟩
    · rw [x3]
      exact ⟨st, by rw [ac q q0 q1]; exact cr⟩
    · have r := zVr_lot (c := c1) (p := t1) (a := 3022 + 60 * c1 + 3 * t1) hV i0 i1 i2 i3 rfl
      have k := n6 c1 t1 i0 i1 i2 i3 (by rw [← a3]; exact i4) x3
      rw [x2, as _ r.1 (by omega) x4, ac _ r.1 (by omega)]
      exact k
  · by_cases x : r = q
    · exact ⟨c, p, h0, h1, by rw [a3]; exact hc, p0, p1, by rw [l]; omega, by rw [x]; exact m⟩
    · rw [as r i0 i1 x] at i2
      obtain ⟨c', t, g0, g1, g2, g3, g4, g5, g6⟩ := n7 r i0 i1 i2
      have ne : ¬ (c' = c ∧ t = p) := fun z => by
        rw [z.1, z.2] at g5
        omega
      refine ⟨c', t, g0, g1, by rw [a3]; exact g2, g3, g4, ?_, by rw [at' c' t g0 g1 g3 g4 ne]; exact g6⟩
      by_cases y : c' = c
      · rw [y] at g5
        rw [y, l]
        omega
      · rw [al c' g0 g1 y]
        exact g5
theorem zDl_put {b q c p : Int} {Z Y C M : qz_Z} (h : zDl b Z Y) (h0 : 0 ≤ c) (h1 : c < 2) (hp : Y 2 0 0 (3015 + 60 * c) = p) (p0 : 0 ≤ p) (p1 : p < 12) (q0 : 0 ≤ q) (q1 : q < 48) (nc : ∀ i j : Int, i ≠ 12 * c + p → C 49 b i j = Z 49 b i j) (nm : ∀ a : Int, (a < 3022 + 60 * c + 3 * p ∨ 3024 + 60 * c + 3 * p < a) → a ≠ 3015 + 60 * c → a ≠ 210 + 20 * q → M 2 0 0 a = Y 2 0 0 a) (l : M 2 0 0 (3015 + 60 * c) = p + 1) (e0 : C 49 b (12 * c + p) 0 = M 2 0 0 (3022 + 60 * c + 3 * p)) (e1 : C 49 b (12 * c + p) 1 = M 2 0 0 (3023 + 60 * c + 3 * p)) (e2 : C 49 b (12 * c + p) 2 = M 2 0 0 (3024 + 60 * c + 3 * p)) : zDl b C M := fun c' t g0 g1 g2 g3 g4 => by
  by_cases x : c' = c ∧ t = p
  · rw [x.1, x.2]
    exact ⟨e0, e1, e2⟩
  · have lt : t < Y 2 0 0 (3015 + 60 * c') := by
      by_cases y : c' = c
      · rw [y, l] at g4
        rw [y]
        have ne : t ≠ p := fun z => x ⟨y, z⟩
        omega
      · rw [nm (3015 + 60 * c') (by omega) (by omega) (by omega)] at g4
        exact g4
    have k := h c' t g0 g1 g2 g3 lt
    rw [nc _ 0 (by omega), nc _ 1 (by omega), nc _ 2 (by omega), nm (3022 + 60 * c' + 3 * t) (by omega) (by omega) (by omega), nm (3023 + 60 * c' + 3 * t) (by omega) (by omega) (by omega), nm (3024 + 60 * c' + 3 * t) (by omega) (by omega) (by omega)]
    exact k
