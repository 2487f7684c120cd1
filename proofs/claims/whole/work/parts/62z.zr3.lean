/-- rows of pallets beyond those that there are -/
def zNp (Y : qz_Z) : Prop := ∀ a : Int, 200 + 20 * Y 2 0 0 102 ≤ a → a < 1160 → Y 2 0 0 a = 0
theorem zNp_d : (List.range 960).all (fun n => Nat.beq (zcm (200 + (n : Int)) / 100) 44 || Nat.beq (zcm (200 + (n : Int))) 0) = true := by decide +kernel
theorem zNp_c {a : Int} (h0 : 200 ≤ a) (h1 : a < 1160) : (Nat.beq (zcm a / 100) 44 || Nat.beq (zcm a) 0) = true := by
  have u := List.all_eq_true.mp zNp_d (a - 200).toNat (List.mem_range.mpr (by omega))
  have e : 200 + (((a - 200).toNat : Nat) : Int) = a := by omega
  rw [e] at u
  exact u
theorem zNp_f {K : List Nat} {Y M : qz_Z} (h : zNp Y) (hV : zV Y) (g : yFa K Y M) (e : K.contains 1103 = false ∧ K.any (fun n => Nat.beq (n / 100) 44 || Nat.beq n 0) = false) : zNp M := fun a h0 h1 => by
  have r := zVr_11_3 (a := 102) hV rfl
  rw [yFr_at 1103 g e.1 (zcm_s (ac_11_3 rfl))] at h0
  have c : K.contains (zcm a) = false := by
    cases q : K.contains (zcm a) with
    | false => rfl
    | true =>
      have u : K.any (fun n => Nat.beq (n / 100) 44 || Nat.beq n 0) = true := List.any_eq_true.mpr ⟨zcm a, by simpa using q, zNp_c (by omega) h1⟩
      rw [e.2] at u
      cases u
  rw [g a c]
  exact h a h0 h1
theorem z327_i {x1 x2 x3 x4 x5 x6 x7 : Int} {Y : qz_Z} (hz : ∀ a : Int, 200 + 20 * x7 ≤ a → a < 220 + 20 * x7 → Y 2 0 0 a = 0) : ∀ (m : Nat) (x8 : Int), 0 ≤ x8 → x8 ≤ 20 → 20 - x8 < (m : Int) → zl_327_1 x1 x2 x3 x4 x5 x6 x7 m Y x8 = (Y, 20) := by
  intro m
  induction m with
  | zero => intros; omega
  | succ m ih =>
    intro x8 h0 h1 h2
    unfold zl_327_1
    by_cases q : 20 ≤ x8
    · rw [if_pos q, show x8 = 20 by omega]
    · rw [if_neg q]
      show zl_327_1 x1 x2 x3 x4 x5 x6 x7 m (zu Y 2 0 0 (200 + 20 * x7 + x8) 0) (x8 + 1) = _
      rw [zu_id (hz _ (by omega) (by omega))]
      exact ih _ (by omega) (by omega) (by omega)
theorem zNp_put {Y M : qz_Z} {c : Int} (h : zNp Y) (hc : Y 2 0 0 102 = c) (nm : ∀ a : Int, 220 + 20 * c ≤ a → a < 1160 → M 2 0 0 a = Y 2 0 0 a) (l : M 2 0 0 102 = c + 1) : zNp M := fun a h0 h1 => by
  rw [l] at h0
  rw [nm a (by omega) h1]
  exact h a (by omega) h1
/-- what the floor has left -/
theorem rl_321 {Y : qz_Z} : ∀ (m : Nat) (x2 x3 : Int), 0 ≤ x2 → x2 ≤ x3 → x3 + (m : Int) ≤ 100 → (zl_321_1 m Y (12 - x2) x3).1 = 12 - (zl_488_1 6 m Y x2 x3).1 := by
  intro m
  induction m with
  | zero => intros; rfl
  | succ m ih =>
    intro x2 x3 h0 h1 h2
    unfold zl_321_1 zl_488_1
    by_cases q : Y 2 0 0 102 ≤ x3
    · rw [if_pos q, if_pos q]
    · rw [if_neg q, if_neg q]
      by_cases p : 1 < Y 2 0 0 (210 + 20 * x3)
      · rw [if_pos p, if_pos p, show 12 - x2 - 0 = 12 - x2 by omega, show x2 + 0 = x2 by omega]
        exact ih _ _ h0 (by omega) (by omega)
      · rw [if_neg p, if_neg p]
        by_cases r : Y 2 0 0 (211 + 20 * x3) ≠ 6
        · rw [if_pos r, if_pos r, show 12 - x2 - 0 = 12 - x2 by omega, show x2 + 0 = x2 by omega]
          exact ih _ _ h0 (by omega) (by omega)
        · rw [if_neg r, if_neg r, w3_id (by omega) (by omega), show 12 - x2 - 1 = 12 - (x2 + 1) by omega]
          exact ih _ _ (by omega) (by omega) (by omega)
theorem rr_321 {Y : qz_Z} : zf_321 Y = 12 - zf_488 Y 6 := by
  have h := rl_321 (Y := Y) 49 0 0 (by omega) (by omega) (by omega)
  exact h
