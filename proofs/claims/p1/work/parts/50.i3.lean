/-! INTS OF 32 BITS, told by integers. -/
def i3 (n : Int) : Int32 := Int32.ofInt n
abbrev i3r (n : Int) : Prop := -2147483648 ≤ n ∧ n < 2147483648
theorem i3_toInt {n : Int} (h : i3r n) : (i3 n).toInt = n := Int32.toInt_ofInt_of_le h.1 (by have := h.2; show n < 2147483648; exact this)
theorem i3_of (x : Int32) : x = i3 x.toInt := (Int32.ofInt_toInt x).symm
theorem i3_rng (x : Int32) : i3r x.toInt := ⟨Int32.le_toInt x, Int32.toInt_lt x⟩
theorem i3_add (a b : Int) : i3 a + i3 b = i3 (a + b) := (Int32.ofInt_add a b).symm
theorem i3_sub (a b : Int) : i3 a - i3 b = i3 (a - b) := (Int32.ofInt_sub a b).symm
theorem i3_mul (a b : Int) : i3 a * i3 b = i3 (a * b) := (Int32.ofInt_mul a b).symm
theorem i3_neg (a : Int) : -i3 a = i3 (-a) := (Int32.ofInt_neg a).symm
theorem i3_lt {a b : Int} (ha : i3r a) (hb : i3r b) : (i3 a < i3 b) = (a < b) := by
  rw [Int32.lt_iff_toInt_lt, i3_toInt ha, i3_toInt hb]
theorem i3_le {a b : Int} (ha : i3r a) (hb : i3r b) : (i3 a ≤ i3 b) = (a ≤ b) := by
  rw [Int32.le_iff_toInt_le, i3_toInt ha, i3_toInt hb]
theorem i3_eq {a b : Int} (ha : i3r a) (hb : i3r b) : (i3 a = i3 b) = (a = b) := by
  rw [← Int32.toInt_inj, i3_toInt ha, i3_toInt hb]
theorem i3_nat {a : Int} (h0 : 0 ≤ a) (h : a < 2147483648) : (i3 a).toNatClampNeg = a.toNat := by
  show (i3 a).toInt.toNat = a.toNat
  rw [i3_toInt ⟨by omega, h⟩]
theorem i3_out {a : Int} {n : Nat} (h0 : 0 ≤ a) (h : a < n) (hn : n ≤ 2147483648) : pz_out (i3 a) n = false := by
  have hr : i3r a := ⟨by omega, by omega⟩
  unfold pz_out
  rw [Bool.or_eq_false_iff, decide_eq_false_iff_not]
  refine ⟨?_, ?_⟩
  · rw [show (0 : Int32) = i3 0 from rfl, i3_lt hr ⟨by omega, by omega⟩]
    omega
  · rw [i3_nat h0 hr.2]
    cases hb : Nat.ble n a.toNat
    · rfl
    · have := Nat.le_of_ble_eq_true hb
      omega
theorem i3_div {a b : Int} (ha : 0 ≤ a) (ha2 : a < 2147483648) (hb : 0 < b) (hb2 : b < 2147483648) : i3 a / i3 b = i3 (a / b) := by
  have q1 : a / b ≤ a := Int.ediv_le_self b ha
  have q2 : 0 ≤ a / b := Int.ediv_nonneg ha (by omega)
  have ra : i3r a := ⟨by omega, ha2⟩
  have rb : i3r b := ⟨by omega, hb2⟩
  rw [← Int32.toInt_inj, Int32.toInt_div_of_ne_right, i3_toInt ra, i3_toInt rb, i3_toInt ⟨by omega, by omega⟩, Int.tdiv_eq_ediv_of_nonneg ha]
  intro e
  have := congrArg Int32.toInt e
  rw [i3_toInt rb] at this
  have e2 : (-1 : Int32).toInt = -1 := by decide
  omega
theorem i3_mod {a b : Int} (ha : 0 ≤ a) (ha2 : a < 2147483648) (hb : 0 < b) (hb2 : b < 2147483648) : i3 a - i3 a / i3 b * i3 b = i3 (a % b) := by
  rw [i3_div ha ha2 hb hb2, i3_mul, i3_sub]
  congr 1
  have := Int.emod_add_mul_ediv a b
  have e : a / b * b = b * (a / b) := Int.mul_comm _ _
  omega
/-- a cell as an integer -/
def i3d (c : Bool) : Prop := c = true
theorem i3_declt {a b : Int} (ha : i3r a) (hb : i3r b) : decide (i3 a < i3 b) = decide (a < b) := by simp only [i3_lt ha hb]
theorem i3_decle {a b : Int} (ha : i3r a) (hb : i3r b) : decide (i3 a ≤ i3 b) = decide (a ≤ b) := by simp only [i3_le ha hb]
theorem i3_deceq {a b : Int} (ha : i3r a) (hb : i3r b) : decide (i3 a = i3 b) = decide (a = b) := by simp only [i3_eq ha hb]
