/-! a parcel is sold -/
def zf_9032 (Z : qz_Z) (b : Int) (c : Int) (p : Int) (o : Int) (h : Int) (n : Int) : qz_Z := (zlet (zu Z 11 b 0 6 ((Z 11 b 0 6) + 1)) (fun Z27 => (zlet (zu Z27 47 b (Z 11 b 0 6) 0 p) (fun Z28 => (zlet (zu Z28 47 b (Z 11 b 0 6) 1 (Z28 46 b o 0)) (fun Z31 => (zlet (zu Z31 47 b (Z 11 b 0 6) 2 o) (fun Z32 => (zlet (zu Z32 47 b (Z 11 b 0 6) 3 n) (fun Z37 => (zlet (zu Z37 47 b (Z 11 b 0 6) 4 (((Z37 44 b p 5) * n) / (Z37 44 b p 4))) (fun Z46 => (zlet (zu Z46 47 b (Z 11 b 0 6) 5 h) (fun Z47 => (zlet (zu Z47 47 b (Z 11 b 0 6) 6 (Z47 11 b 0 13)) (fun Z49 => (zlet (zu Z49 47 b (Z 11 b 0 6) 7 (Z49 44 b p 9)) (fun Z51 => (zlet (zu Z51 47 b (Z 11 b 0 6) 8 (Z51 44 b p 7)) (fun Z53 => (zlet (zu Z53 47 b (Z 11 b 0 6) 9 0) (fun Z54 => (zlet (zu Z54 47 b (Z 11 b 0 6) 10 (-1)) (fun Z57 => (zlet (zu Z57 47 b (Z 11 b 0 6) 14 (-1)) (fun Z61 => (zlet (zu Z61 47 b (Z 11 b 0 6) 15 (-1)) (fun Z62 => (zlet (zu Z62 47 b (Z 11 b 0 6) 16 (-1)) (fun Z63 => (zlet (zu Z63 47 b (Z 11 b 0 6) 17 (-1)) (fun Z64 => (zlet (zu Z64 47 b (Z 11 b 0 6) 18 (n * h)) (fun Z66 => (zlet (zu Z66 47 b (Z 11 b 0 6) 19 (Z66 47 b (Z 11 b 0 6) 18)) (fun Z69 => (zlet (zu Z69 47 b (Z 11 b 0 6) 20 (((Z69 11 b 0 13) / 24) + (Z69 45 b (Z 46 b o 0) 2))) (fun Z73 => (zlet (zu Z73 44 b p 4 ((Z73 44 b p 4) - n)) (fun Z76 => (zlet (zu Z76 44 b p 5 ((Z76 44 b p 5) - (Z76 47 b (Z 11 b 0 6) 4))) (fun Z81 => (zlet (zu Z81 46 b o 6 ((Z81 46 b o 6) - n)) (fun Z84 => (zlet (zu Z84 46 b o 8 (w3 ((Z84 46 b o 8) + n))) (fun Z87 => (zlet (zu Z87 45 b (Z 46 b o 0) 4 (w3 ((Z87 45 b (Z 46 b o 0) 4) + (Z87 47 b (Z 11 b 0 6) 18)))) (fun Z93 => (zlet (zu Z93 45 b (Z 46 b o 0) 9 (w3 ((Z93 45 b (Z 46 b o 0) 9) + n))) (fun Z96 => (zlet (zf_6 Z96 b b (Z 11 b 0 6)) (fun Z97 => (zlet (zu Z97 48 b c 9 (w3 ((Z97 48 b c 9) + 1))) (fun Z100 => (zlet (zu Z100 48 b c 10 (w3 ((Z100 48 b c 10) + (Z100 47 b (Z 11 b 0 6) 3)))) (fun Z105 => (zlet (zu Z105 48 b c 11 (w3 ((Z105 48 b c 11) + (Z105 47 b (Z 11 b 0 6) 18)))) (fun Z110 => Z110))))))))))))))))))))))))))))))))))))))))))))))))))))))))))
def zf_9433 (Z : qz_Z) (c : Int) (p : Int) (o : Int) (n : Int) (h : Int) : qz_Z := (zlet2 (zf_433 Z p o n h) (fun Z16 v17 => (zlet (zu Z16 2 0 0 (3019 + 60 * c) (w3 ((Z16 2 0 0 (3019 + 60 * c)) + 1))) (fun Z21 => (zlet (zu Z21 2 0 0 (3020 + 60 * c) (w3 ((Z21 2 0 0 (3020 + 60 * c)) + n))) (fun Z24 => (zlet (zu Z24 2 0 0 (3021 + 60 * c) (w3 ((Z24 2 0 0 (3021 + 60 * c)) + (n * h)))) (fun Z28 => Z28))))))))
theorem z1mul {n h : Int} (a : 1 ≤ n) (c : 1 ≤ h) : 1 ≤ n * h := Int.mul_pos a c
theorem zD1_1 {b q : Int} {Z Z1 Y Y1 : qz_Z} (h : zD1 b Z Y) (f : ∀ r : Int, r ≠ q → 0 ≤ r → r < 60 → Z1 47 b r 18 = Z 47 b r 18 ∧ Y1 2 0 0 (2013 + 16 * r) = Y 2 0 0 (2013 + 16 * r) ∧ Y1 2 0 0 (2015 + 16 * r) = Y 2 0 0 (2015 + 16 * r)) (g : Z1 47 b q 18 = Y1 2 0 0 (2013 + 16 * q) * Y1 2 0 0 (2015 + 16 * q)) : zD1 b Z1 Y1 := fun r h0 h1 => by
  by_cases e : r = q
  · rw [e]
    exact g
  · obtain ⟨a1, a2, a3⟩ := f r e h0 h1
    rw [a1, a2, a3]
    exact h r h0 h1
theorem zD4_n {b q : Int} {Z Z1 Y Y1 : qz_Z} (h : zD4 b Z Y) (f : ∀ r : Int, r ≠ q → 0 ≤ r → r < 60 → Z1 47 b r 11 = Z 47 b r 11 ∧ Z1 47 b r 12 = Z 47 b r 12 ∧ Y1 2 0 0 (2019 + 16 * r) = Y 2 0 0 (2019 + 16 * r) ∧ Y1 2 0 0 (2021 + 16 * r) = Y 2 0 0 (2021 + 16 * r) ∧ Y1 2 0 0 (2022 + 16 * r) = Y 2 0 0 (2022 + 16 * r)) (g : Y1 2 0 0 (2019 + 16 * q) = 0) : zD4 b Z1 Y1 := fun r h0 h1 h2 => by
  by_cases e : r = q
  · rw [e] at h2
    exact absurd g h2
  · obtain ⟨a1, a2, a3, a4, a5⟩ := f r e h0 h1
    rw [a3] at h2
    rw [a1, a2, a4, a5]
    exact h r h0 h1 h2
theorem zN4_n {q : Int} {Y M : qz_Z} (h : zN4 Y) (hc : Y 2 0 0 2000 = q) (l : M 2 0 0 2000 = q + 1) (f : ∀ r : Int, r ≠ q → 0 ≤ r → r < 60 → M 2 0 0 (2019 + 16 * r) = Y 2 0 0 (2019 + 16 * r) ∧ M 2 0 0 (2020 + 16 * r) = Y 2 0 0 (2020 + 16 * r)) (g : M 2 0 0 (2019 + 16 * q) = 0 ∧ M 2 0 0 (2020 + 16 * q) = -1) : zN4 M := fun r h0 h1 h2 => by
  by_cases e : r = q
  · rw [e, g.1, g.2]
    exact ⟨fun _ => rfl, fun x => absurd x (by decide)⟩
  · obtain ⟨a1, a2⟩ := f r e h0 h1
    rw [a1, a2]
    exact h r h0 h1 (by omega)
theorem zN9_n {q : Int} {Y M : qz_Z} (h : zN9 Y) (hc : Y 2 0 0 2000 = q) (l : M 2 0 0 2000 = q + 1) (k : M 2 0 0 102 = Y 2 0 0 102) (f : ∀ r : Int, r ≠ q → 0 ≤ r → r < 60 → M 2 0 0 (2010 + 16 * r) = Y 2 0 0 (2010 + 16 * r)) (g : M 2 0 0 (2010 + 16 * q) < M 2 0 0 102) : zN9 M := fun r h0 h1 h2 => by
  by_cases e : r = q
  · rw [e]
    exact g
  · rw [f r e h0 h1, k]
    exact h r h0 h1 (by omega)
/-- lots, whatever is left of one pallet -/
def zLs (p : Int) (Y : qz_Z) : Prop := (0 ≤ p ∧ p < 48) ∧ zNL (zu Y 2 0 0 (204 + 20 * p) 1)
theorem zLs_0 {p : Int} {Y M : qz_Z} (h : zLs p Y) (f3 : M 2 0 0 3000 = Y 2 0 0 3000) (fc : ∀ c : Int, 0 ≤ c → c < 2 → M 2 0 0 (3015 + 60 * c) = Y 2 0 0 (3015 + 60 * c)) (ft : ∀ c t : Int, 0 ≤ c → c < 2 → 0 ≤ t → t < 12 → M 2 0 0 (3022 + 60 * c + 3 * t) = Y 2 0 0 (3022 + 60 * c + 3 * t)) (fp : ∀ r : Int, 0 ≤ r → r < 48 → M 2 0 0 (210 + 20 * r) = Y 2 0 0 (210 + 20 * r) ∧ (r ≠ p → M 2 0 0 (204 + 20 * r) = Y 2 0 0 (204 + 20 * r))) (hV : zV Y) : zLs p M := by
  obtain ⟨hp, h5, h6, h7⟩ := h
  have e0 : ∀ (X : qz_Z) (a : Int), a ≠ 204 + 20 * p → zu X 2 0 0 (204 + 20 * p) 1 2 0 0 a = X 2 0 0 a := fun X a n => zun n
  have f4 : ∀ r : Int, 0 ≤ r → r < 48 → zu M 2 0 0 (204 + 20 * p) 1 2 0 0 (204 + 20 * r) = zu Y 2 0 0 (204 + 20 * p) 1 2 0 0 (204 + 20 * r) := fun r r0 r1 => by
    by_cases e : r = p
    · rw [e, zua, zua]
    · rw [e0 _ _ (by omega), e0 _ _ (by omega)]
      exact (fp r r0 r1).2 e
  refine ⟨hp, fun c t c' t' c0 c1 c2 c3 p0 p1 p2 p3 a1 a2 a3 a4 a5 => ?_, fun c t c0 c1 p0 p1 a1 a2 => ?_, fun r r0 r1 r2 => ?_⟩
  · rw [e0 _ _ (by omega), f3] at a1 a2
    rw [e0 _ _ (by omega), fc c c0 c1] at a3
    rw [e0 _ _ (by omega), fc c' c2 c3] at a4
    rw [e0 _ _ (by omega), e0 _ _ (by omega), ft c t c0 c1 p0 p1, ft c' t' c2 c3 p2 p3] at a5
    exact h5 c t c' t' c0 c1 c2 c3 p0 p1 p2 p3 (by rw [e0 _ _ (by omega)]; exact a1) (by rw [e0 _ _ (by omega)]; exact a2) (by rw [e0 _ _ (by omega)]; exact a3) (by rw [e0 _ _ (by omega)]; exact a4) (by rw [e0 _ _ (by omega), e0 _ _ (by omega)]; exact a5)
  · rw [e0 _ _ (by omega), f3] at a1
    rw [e0 _ _ (by omega), fc c c0 c1] at a2
    have g := h6 c t c0 c1 p0 p1 (by rw [e0 _ _ (by omega)]; exact a1) (by rw [e0 _ _ (by omega)]; exact a2)
    have v := zVr_lot (c := c) (p := t) (a := 3022 + 60 * c + 3 * t) hV c0 c1 p0 p1 rfl
    rw [e0 Y (3022 + 60 * c + 3 * t) (by omega)] at g
    rw [e0 M (3022 + 60 * c + 3 * t) (by omega), ft c t c0 c1 p0 p1]
    rw [e0 _ _ (by omega)] at g
    rw [f4 _ v.1 (by omega), e0 M _ (by omega), (fp _ v.1 (by omega)).1]
    exact g
  · rw [e0 _ _ (by omega), (fp r r0 r1).1] at r2
    obtain ⟨c, t, c0, c1, c2, t0, t1, t2, t3⟩ := h7 r r0 r1 (by rw [e0 _ _ (by omega)]; exact r2)
    rw [e0 _ _ (by omega)] at c2 t2 t3
    refine ⟨c, t, c0, c1, ?_, t0, t1, ?_, ?_⟩
    · rw [e0 _ _ (by omega), f3]
      exact c2
    · rw [e0 _ _ (by omega), fc c c0 c1]
      exact t2
    · rw [e0 _ _ (by omega), ft c t c0 c1 t0 t1]
      exact t3
theorem zLs_f {p : Int} {K : List Nat} {Y M : qz_Z} (h : zLs p Y) (hV : zV Y) (g : yFa K Y M) (e : K.contains 4410 = false ∧ K.contains 4404 = false ∧ K.contains 4805 = false ∧ K.contains 1107 = false ∧ K.contains 10050 = false) : zLs p M := zLs_0 h (yFr_at 1107 g e.2.2.2.1 (zcm_s (ac_11_7 rfl))) (fun c c0 c1 => yFr_at 4805 g e.2.2.1 (zcm_s (ac_48_5 c0 c1 rfl))) (fun c t c0 c1 t0 t1 => yFr_at 10050 g e.2.2.2.2 (zcm_lot0 c0 c1 t0 t1 rfl)) (fun r r0 r1 => ⟨yFr_at 4410 g e.1 (zcm_s (ac_44_10 r0 r1 rfl)), fun _ => yFr_at 4404 g e.2.1 (zcm_s (ac_44_4 r0 r1 rfl))⟩) hV
