/-! by hand: what answers a row -/
def zl_66_1 (x0b : Int) (x1 : Int) (x2 : Int) : Nat → qz_Z → Int → Int → Int × Int
  | 0, Z, x3, x4 => (x3, x4)
  | m + 1, Z, x3, x4 => (if (Z 48 x0b x1 5) ≤ x4 then (x3, x4) else (if (Z 49 x0b (12 * x1 + x4) 0) ≠ x2 then zl_66_1 x0b x1 x2 m Z x3 (x4 + 1) else zl_66_1 x0b x1 x2 m Z (12 * x1 + x4) (x4 + 1)))
def zf_66 (Z : qz_Z) (a0b : Int) (a1 : Int) (a2 : Int) : Int := (zlet2 (zl_66_1 a0b a1 a2 13 Z (12 * a1) 0) (fun y1 y2 => y1))
theorem sp_66 {s : zSM} {Z : qz_Z} {ν : qz_N} (hZ : zH s Z) (a0b : Nat) {a1 : Int} (ga1 : 0 ≤ a1 ∧ a1 ≤ 1) {a2 : Int} (ga2 : 0 ≤ a2 ∧ a2 ≤ 47) (gx0 : 1 ≤ Z 48 a0b a1 5) (hLta0b : zLt a0b Z) (hM : s.2 + 0 ≤ 1000000000) : ∃ (n : Nat) (P : Int), P = zf_66 Z a0b a1 a2 ∧ (n : Int) = P ∧ (qf_66 [.inr (.inr (some (10, a0b, 0))), .inl (i3 a1), .inl (i3 a2)] (zm Z ν) = some (zm Z ν, .inl (some (.inr (.inr (some (49, a0b, n)))))) ∧ 0 ≤ P ∧ P ≤ 23 ∧ 1 ≤ Z 49 a0b P 2 ∧ Z 49 a0b P 2 ≤ Z 49 a0b P 1) := by sorry
