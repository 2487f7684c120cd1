theorem zD4_1 {b q : Int} {Z Z1 Y Y1 : qz_Z} (h : zD4 b Z Y) (f : ∀ r : Int, r ≠ q → 0 ≤ r → r < 60 → Z1 47 b r 11 = Z 47 b r 11 ∧ Z1 47 b r 12 = Z 47 b r 12 ∧ Y1 2 0 0 (2019 + 16 * r) = Y 2 0 0 (2019 + 16 * r) ∧ Y1 2 0 0 (2021 + 16 * r) = Y 2 0 0 (2021 + 16 * r) ∧ Y1 2 0 0 (2022 + 16 * r) = Y 2 0 0 (2022 + 16 * r)) (g : Z1 47 b q 11 = Y1 2 0 0 (2021 + 16 * q) ∧ Z1 47 b q 12 = Y1 2 0 0 (2022 + 16 * q)) : zD4 b Z1 Y1 := fun r h0 h1 h2 => by
  by_cases e : r = q
  · subst e
    exact g
  · obtain ⟨f1, f2, f3, f4, f5⟩ := f r e h0 h1
    rw [f3] at h2
    rw [f1, f2, f4, f5]
    exact h r h0 h1 h2
/-- a pallet that is no more stored or queued -/
def zGp (p : Int) (Y : qz_Z) : Prop := 2 ≤ Y 2 0 0 (210 + 20 * p)
theorem zGp_f {K : List Nat} {p : Int} {Y M : qz_Z} (h : zGp p Y) (h0 : 0 ≤ p) (h1 : p < 48) (g : yFa K Y M) (e : K.contains 4410 = false) : zGp p M := by
  unfold zGp
  rw [yFr_at 4410 g e (zcm_s (ac_44_10 h0 h1 rfl))]
  exact h
theorem zN4_2 {q : Int} {Y Y1 : qz_Z} (h : zN4 Y) (f : ∀ r : Int, r ≠ q → 0 ≤ r → r < 60 → Y1 2 0 0 2000 = Y 2 0 0 2000 ∧ Y1 2 0 0 (2019 + 16 * r) = Y 2 0 0 (2019 + 16 * r) ∧ Y1 2 0 0 (2020 + 16 * r) = Y 2 0 0 (2020 + 16 * r)) (g : Y1 2 0 0 (2019 + 16 * q) ≠ 1 ∧ Y1 2 0 0 (2020 + 16 * q) = -1) : zN4 Y1 := fun r h0 h1 h2 => by
  by_cases e : r = q
  · subst e
    exact ⟨fun _ => g.2, fun x => absurd x g.1⟩
  · obtain ⟨f1, f2, f3⟩ := f r e h0 h1
    rw [f1] at h2
    rw [f2, f3]
    exact h r h0 h1 h2
