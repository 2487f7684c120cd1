/-- what is written where it stands already -/
theorem zu_id {Y : qz_Z} {k : Nat} {b i j v : Int} (h : Y k b i j = v) : zu Y k b i j v = Y := by
  funext k' b' i' j'
  by_cases g : k' = k ∧ b' = b ∧ i' = i ∧ j' = j
  · obtain ⟨rfl, rfl, rfl, rfl⟩ := g
    rw [zu_at rfl, h]
  · rw [zu_ne rfl g]
/-- rows of inspectors beyond those that there are -/
def zNi (Y : qz_Z) : Prop := ∀ a : Int, 3520 + 10 * Y 2 0 0 3500 ≤ a → a < 3540 → Y 2 0 0 a = 0
theorem zNi_c {a : Int} (h0 : 3520 ≤ a) (h1 : a < 3540) : (Nat.beq (zcm a / 100) 51 || Nat.beq (zcm a) 0) = true := by
  rcases (show a = 3520 ∨ a = 3521 ∨ a = 3522 ∨ a = 3523 ∨ a = 3524 ∨ a = 3525 ∨ a = 3526 ∨ a = 3527 ∨ a = 3528 ∨ a = 3529 ∨ a = 3530 ∨ a = 3531 ∨ a = 3532 ∨ a = 3533 ∨ a = 3534 ∨ a = 3535 ∨ a = 3536 ∨ a = 3537 ∨ a = 3538 ∨ a = 3539 by omega) with rfl | rfl | rfl | rfl | rfl | rfl | rfl | rfl | rfl | rfl | rfl | rfl | rfl | rfl | rfl | rfl | rfl | rfl | rfl | rfl <;> decide
theorem zNi_f {K : List Nat} {Y M : qz_Z} (h : zNi Y) (hV : zV Y) (g : yFa K Y M) (e : K.contains 1109 = false ∧ K.any (fun n => Nat.beq (n / 100) 51 || Nat.beq n 0) = false) : zNi M := fun a h0 h1 => by
  have r := zVr_11_9 (a := 3500) hV rfl
  rw [yFr_at 1109 g e.1 (zcm_s (ac_11_9 rfl))] at h0
  have c : K.contains (zcm a) = false := by
    cases q : K.contains (zcm a) with
    | false => rfl
    | true =>
      have u : K.any (fun n => Nat.beq (n / 100) 51 || Nat.beq n 0) = true := List.any_eq_true.mpr ⟨zcm a, by simpa using q, zNi_c (by omega) h1⟩
      rw [e.2] at u
      cases u
  rw [g a c]
  exact h a h0 h1
theorem z359_i {x1 x2 x3 : Int} {Y : qz_Z} (hz : ∀ a : Int, 3520 + 10 * x3 ≤ a → a < 3530 + 10 * x3 → Y 2 0 0 a = 0) : ∀ (m : Nat) (x4 : Int), 0 ≤ x4 → x4 ≤ 10 → 10 - x4 < (m : Int) → zl_359_1 x1 x2 x3 m Y x4 = (Y, 10) := by
  intro m
  induction m with
  | zero => intros; omega
  | succ m ih =>
    intro x4 h0 h1 h2
    unfold zl_359_1
    by_cases q : 10 ≤ x4
    · rw [if_pos q, show x4 = 10 by omega]
    · rw [if_neg q]
      show zl_359_1 x1 x2 x3 m (zu Y 2 0 0 (3520 + 10 * x3 + x4) 0) (x4 + 1) = _
      rw [zu_id (hz _ (by omega) (by omega))]
      exact ih _ (by omega) (by omega) (by omega)
