/-! where the columns stand, and what a cell of the class is there -/
section AD
variable {b : Int} {Z Y : qz_Z}
theorem ac_11_0 {a : Int} (e : a = 100) : adr 11 0 0 = some a := by
  show adr_11 0 0 = some a
  unfold adr_11
  rw [if_pos (by omega)]
  exact congrArg some (by omega)
theorem zRl_11_0 {a : Int} (h : zR b Z Y) (e : a = 100) : Z 11 b 0 0 = Y 2 0 0 a := h 11 0 0 a (ac_11_0 e)
theorem ac_11_1 {a : Int} (e : a = 101) : adr 11 0 1 = some a := by
  show adr_11 0 1 = some a
  unfold adr_11
  rw [if_neg (by omega), if_pos (by omega)]
  exact congrArg some (by omega)
theorem zRl_11_1 {a : Int} (h : zR b Z Y) (e : a = 101) : Z 11 b 0 1 = Y 2 0 0 a := h 11 0 1 a (ac_11_1 e)
theorem ac_11_2 {a : Int} (e : a = 1200) : adr 11 0 2 = some a := by
  show adr_11 0 2 = some a
  unfold adr_11
  rw [if_neg (by omega), if_neg (by omega), if_pos (by omega)]
  exact congrArg some (by omega)
theorem zRl_11_2 {a : Int} (h : zR b Z Y) (e : a = 1200) : Z 11 b 0 2 = Y 2 0 0 a := h 11 0 2 a (ac_11_2 e)
theorem ac_11_3 {a : Int} (e : a = 102) : adr 11 0 3 = some a := by
  show adr_11 0 3 = some a
  unfold adr_11
  rw [if_neg (by omega), if_neg (by omega), if_neg (by omega), if_pos (by omega)]
  exact congrArg some (by omega)
theorem zRl_11_3 {a : Int} (h : zR b Z Y) (e : a = 102) : Z 11 b 0 3 = Y 2 0 0 a := h 11 0 3 a (ac_11_3 e)
theorem ac_11_4 {a : Int} (e : a = 1400) : adr 11 0 4 = some a := by
  show adr_11 0 4 = some a
  unfold adr_11
  rw [if_neg (by omega), if_neg (by omega), if_neg (by omega), if_neg (by omega), if_pos (by omega)]
  exact congrArg some (by omega)
theorem zRl_11_4 {a : Int} (h : zR b Z Y) (e : a = 1400) : Z 11 b 0 4 = Y 2 0 0 a := h 11 0 4 a (ac_11_4 e)
theorem ac_11_5 {a : Int} (e : a = 1401) : adr 11 0 5 = some a := by
  show adr_11 0 5 = some a
  unfold adr_11
  rw [if_neg (by omega), if_neg (by omega), if_neg (by omega), if_neg (by omega), if_neg (by omega), if_pos (by omega)]
  exact congrArg some (by omega)
theorem zRl_11_5 {a : Int} (h : zR b Z Y) (e : a = 1401) : Z 11 b 0 5 = Y 2 0 0 a := h 11 0 5 a (ac_11_5 e)
theorem ac_11_6 {a : Int} (e : a = 2000) : adr 11 0 6 = some a := by
  show adr_11 0 6 = some a
  unfold adr_11
  rw [if_neg (by omega), if_neg (by omega), if_neg (by omega), if_neg (by omega), if_neg (by omega), if_neg (by omega), if_pos (by omega)]
  exact congrArg some (by omega)
theorem zRl_11_6 {a : Int} (h : zR b Z Y) (e : a = 2000) : Z 11 b 0 6 = Y 2 0 0 a := h 11 0 6 a (ac_11_6 e)
theorem ac_11_7 {a : Int} (e : a = 3000) : adr 11 0 7 = some a := by
  show adr_11 0 7 = some a
  unfold adr_11
  rw [if_neg (by omega), if_neg (by omega), if_neg (by omega), if_neg (by omega), if_neg (by omega), if_neg (by omega), if_neg (by omega), if_pos (by omega)]
  exact congrArg some (by omega)
theorem zRl_11_7 {a : Int} (h : zR b Z Y) (e : a = 3000) : Z 11 b 0 7 = Y 2 0 0 a := h 11 0 7 a (ac_11_7 e)
theorem ac_11_8 {a : Int} (e : a = 3200) : adr 11 0 8 = some a := by
  show adr_11 0 8 = some a
  unfold adr_11
  rw [if_neg (by omega), if_neg (by omega), if_neg (by omega), if_neg (by omega), if_neg (by omega), if_neg (by omega), if_neg (by omega), if_neg (by omega), if_pos (by omega)]
  exact congrArg some (by omega)
theorem zRl_11_8 {a : Int} (h : zR b Z Y) (e : a = 3200) : Z 11 b 0 8 = Y 2 0 0 a := h 11 0 8 a (ac_11_8 e)
theorem ac_11_9 {a : Int} (e : a = 3500) : adr 11 0 9 = some a := by
  show adr_11 0 9 = some a
  unfold adr_11
  rw [if_neg (by omega), if_neg (by omega), if_neg (by omega), if_neg (by omega), if_neg (by omega), if_neg (by omega), if_neg (by omega), if_neg (by omega), if_neg (by omega), if_pos (by omega)]
  exact congrArg some (by omega)
theorem zRl_11_9 {a : Int} (h : zR b Z Y) (e : a = 3500) : Z 11 b 0 9 = Y 2 0 0 a := h 11 0 9 a (ac_11_9 e)
theorem ac_11_10 {a : Int} (e : a = 3815) : adr 11 0 10 = some a := by
  show adr_11 0 10 = some a
  unfold adr_11
  rw [if_neg (by omega), if_neg (by omega), if_neg (by omega), if_neg (by omega), if_neg (by omega), if_neg (by omega), if_neg (by omega), if_neg (by omega), if_neg (by omega), if_neg (by omega), if_pos (by omega)]
  exact congrArg some (by omega)
theorem zRl_11_10 {a : Int} (h : zR b Z Y) (e : a = 3815) : Z 11 b 0 10 = Y 2 0 0 a := h 11 0 10 a (ac_11_10 e)
theorem ac_11_12 {a : Int} (e : a = 3814) : adr 11 0 12 = some a := by
  show adr_11 0 12 = some a
  unfold adr_11
  rw [if_neg (by omega), if_neg (by omega), if_neg (by omega), if_neg (by omega), if_neg (by omega), if_neg (by omega), if_neg (by omega), if_neg (by omega), if_neg (by omega), if_neg (by omega), if_neg (by omega), if_pos (by omega)]
  exact congrArg some (by omega)
theorem zRl_11_12 {a : Int} (h : zR b Z Y) (e : a = 3814) : Z 11 b 0 12 = Y 2 0 0 a := h 11 0 12 a (ac_11_12 e)
theorem ac_11_13 {a : Int} (e : a = 0) : adr 11 0 13 = some a := by
  show adr_11 0 13 = some a
  unfold adr_11
  rw [if_neg (by omega), if_neg (by omega), if_neg (by omega), if_neg (by omega), if_neg (by omega), if_neg (by omega), if_neg (by omega), if_neg (by omega), if_neg (by omega), if_neg (by omega), if_neg (by omega), if_neg (by omega), if_pos (by omega)]
  exact congrArg some (by omega)
theorem zRl_11_13 {a : Int} (h : zR b Z Y) (e : a = 0) : Z 11 b 0 13 = Y 2 0 0 a := h 11 0 13 a (ac_11_13 e)
theorem ac_11_14 {a : Int} (e : a = 3201) : adr 11 0 14 = some a := by
  show adr_11 0 14 = some a
  unfold adr_11
  rw [if_neg (by omega), if_neg (by omega), if_neg (by omega), if_neg (by omega), if_neg (by omega), if_neg (by omega), if_neg (by omega), if_neg (by omega), if_neg (by omega), if_neg (by omega), if_neg (by omega), if_neg (by omega), if_neg (by omega), if_pos (by omega)]
  exact congrArg some (by omega)
theorem zRl_11_14 {a : Int} (h : zR b Z Y) (e : a = 3201) : Z 11 b 0 14 = Y 2 0 0 a := h 11 0 14 a (ac_11_14 e)
theorem ac_12_s {x a : Int} (h0 : 0 ≤ x) (h1 : x < 28) (e : a = 1300 + x) : adr 12 0 x = some a := by
  show adr_12 0 x = some a
  unfold adr_12
  rw [if_pos (by omega)]
  exact congrArg some (by omega)
theorem zRl_12_s {x a : Int} (h : zR b Z Y) (h0 : 0 ≤ x) (h1 : x < 28) (e : a = 1300 + x) : Z 12 b 0 x = Y 2 0 0 a := h 12 0 x a (ac_12_s h0 h1 e)
theorem ac_13_s {x a : Int} (h0 : 0 ≤ x) (h1 : x < 4) (e : a = 3810 + x) : adr 13 0 x = some a := by
  show adr_13 0 x = some a
  unfold adr_13
  rw [if_pos (by omega)]
  exact congrArg some (by omega)
theorem zRl_13_s {x a : Int} (h : zR b Z Y) (h0 : 0 ≤ x) (h1 : x < 4) (e : a = 3810 + x) : Z 13 b 0 x = Y 2 0 0 a := h 13 0 x a (ac_13_s h0 h1 e)
theorem ac_14_s {x a : Int} (h0 : 0 ≤ x) (h1 : x < 10) (e : a = 3800 + x) : adr 14 0 x = some a := by
  show adr_14 0 x = some a
  unfold adr_14
  rw [if_pos (by omega)]
  exact congrArg some (by omega)
theorem zRl_14_s {x a : Int} (h : zR b Z Y) (h0 : 0 ≤ x) (h1 : x < 10) (e : a = 3800 + x) : Z 14 b 0 x = Y 2 0 0 a := h 14 0 x a (ac_14_s h0 h1 e)
theorem ac_41_0 {x a : Int} (h0 : 0 ≤ x) (h1 : x < 5) (e : a = 110 + 5 * x) : adr 41 x 0 = some a := by
  show adr_41 x 0 = some a
  unfold adr_41
  rw [if_pos (by omega)]
  exact congrArg some (by omega)
theorem zRl_41_0 {x a : Int} (h : zR b Z Y) (h0 : 0 ≤ x) (h1 : x < 5) (e : a = 110 + 5 * x) : Z 41 b x 0 = Y 2 0 0 a := h 41 x 0 a (ac_41_0 h0 h1 e)
theorem ac_41_1 {x a : Int} (h0 : 0 ≤ x) (h1 : x < 5) (e : a = 111 + 5 * x) : adr 41 x 1 = some a := by
  show adr_41 x 1 = some a
  unfold adr_41
  rw [if_pos (by omega)]
  exact congrArg some (by omega)
theorem zRl_41_1 {x a : Int} (h : zR b Z Y) (h0 : 0 ≤ x) (h1 : x < 5) (e : a = 111 + 5 * x) : Z 41 b x 1 = Y 2 0 0 a := h 41 x 1 a (ac_41_1 h0 h1 e)
theorem ac_41_2 {x a : Int} (h0 : 0 ≤ x) (h1 : x < 5) (e : a = 112 + 5 * x) : adr 41 x 2 = some a := by
  show adr_41 x 2 = some a
  unfold adr_41
  rw [if_pos (by omega)]
  exact congrArg some (by omega)
theorem zRl_41_2 {x a : Int} (h : zR b Z Y) (h0 : 0 ≤ x) (h1 : x < 5) (e : a = 112 + 5 * x) : Z 41 b x 2 = Y 2 0 0 a := h 41 x 2 a (ac_41_2 h0 h1 e)
theorem ac_41_3 {x a : Int} (h0 : 0 ≤ x) (h1 : x < 5) (e : a = 113 + 5 * x) : adr 41 x 3 = some a := by
  show adr_41 x 3 = some a
  unfold adr_41
  rw [if_pos (by omega)]
  exact congrArg some (by omega)
theorem zRl_41_3 {x a : Int} (h : zR b Z Y) (h0 : 0 ≤ x) (h1 : x < 5) (e : a = 113 + 5 * x) : Z 41 b x 3 = Y 2 0 0 a := h 41 x 3 a (ac_41_3 h0 h1 e)
theorem ac_41_4 {x a : Int} (h0 : 0 ≤ x) (h1 : x < 5) (e : a = 114 + 5 * x) : adr 41 x 4 = some a := by
  show adr_41 x 4 = some a
  unfold adr_41
  rw [if_pos (by omega)]
  exact congrArg some (by omega)
theorem zRl_41_4 {x a : Int} (h : zR b Z Y) (h0 : 0 ≤ x) (h1 : x < 5) (e : a = 114 + 5 * x) : Z 41 b x 4 = Y 2 0 0 a := h 41 x 4 a (ac_41_4 h0 h1 e)
theorem ac_42_0 {x a : Int} (h0 : 0 ≤ x) (h1 : x < 6) (e : a = 140 + 2 * x) : adr 42 x 0 = some a := by
  show adr_42 x 0 = some a
  unfold adr_42
  rw [if_pos (by omega)]
  exact congrArg some (by omega)
theorem zRl_42_0 {x a : Int} (h : zR b Z Y) (h0 : 0 ≤ x) (h1 : x < 6) (e : a = 140 + 2 * x) : Z 42 b x 0 = Y 2 0 0 a := h 42 x 0 a (ac_42_0 h0 h1 e)
theorem ac_42_1 {x a : Int} (h0 : 0 ≤ x) (h1 : x < 6) (e : a = 141 + 2 * x) : adr 42 x 1 = some a := by
  show adr_42 x 1 = some a
  unfold adr_42
  rw [if_pos (by omega)]
  exact congrArg some (by omega)
theorem zRl_42_1 {x a : Int} (h : zR b Z Y) (h0 : 0 ≤ x) (h1 : x < 6) (e : a = 141 + 2 * x) : Z 42 b x 1 = Y 2 0 0 a := h 42 x 1 a (ac_42_1 h0 h1 e)
theorem ac_42_2 {x a : Int} (h0 : 0 ≤ x) (h1 : x < 6) (e : a = 3820 + 5 * x) : adr 42 x 2 = some a := by
  show adr_42 x 2 = some a
  unfold adr_42
  rw [if_neg (by omega), if_pos (by omega)]
  exact congrArg some (by omega)
theorem zRl_42_2 {x a : Int} (h : zR b Z Y) (h0 : 0 ≤ x) (h1 : x < 6) (e : a = 3820 + 5 * x) : Z 42 b x 2 = Y 2 0 0 a := h 42 x 2 a (ac_42_2 h0 h1 e)
theorem ac_42_3 {x a : Int} (h0 : 0 ≤ x) (h1 : x < 6) (e : a = 3821 + 5 * x) : adr 42 x 3 = some a := by
  show adr_42 x 3 = some a
  unfold adr_42
  rw [if_neg (by omega), if_pos (by omega)]
  exact congrArg some (by omega)
theorem zRl_42_3 {x a : Int} (h : zR b Z Y) (h0 : 0 ≤ x) (h1 : x < 6) (e : a = 3821 + 5 * x) : Z 42 b x 3 = Y 2 0 0 a := h 42 x 3 a (ac_42_3 h0 h1 e)
theorem ac_42_4 {x a : Int} (h0 : 0 ≤ x) (h1 : x < 6) (e : a = 3822 + 5 * x) : adr 42 x 4 = some a := by
  show adr_42 x 4 = some a
  unfold adr_42
  rw [if_neg (by omega), if_pos (by omega)]
  exact congrArg some (by omega)
theorem zRl_42_4 {x a : Int} (h : zR b Z Y) (h0 : 0 ≤ x) (h1 : x < 6) (e : a = 3822 + 5 * x) : Z 42 b x 4 = Y 2 0 0 a := h 42 x 4 a (ac_42_4 h0 h1 e)
theorem ac_42_5 {x a : Int} (h0 : 0 ≤ x) (h1 : x < 6) (e : a = 3823 + 5 * x) : adr 42 x 5 = some a := by
  show adr_42 x 5 = some a
  unfold adr_42
  rw [if_neg (by omega), if_pos (by omega)]
  exact congrArg some (by omega)
theorem zRl_42_5 {x a : Int} (h : zR b Z Y) (h0 : 0 ≤ x) (h1 : x < 6) (e : a = 3823 + 5 * x) : Z 42 b x 5 = Y 2 0 0 a := h 42 x 5 a (ac_42_5 h0 h1 e)
theorem ac_42_6 {x a : Int} (h0 : 0 ≤ x) (h1 : x < 6) (e : a = 3824 + 5 * x) : adr 42 x 6 = some a := by
  show adr_42 x 6 = some a
  unfold adr_42
  rw [if_neg (by omega), if_pos (by omega)]
  exact congrArg some (by omega)
theorem zRl_42_6 {x a : Int} (h : zR b Z Y) (h0 : 0 ≤ x) (h1 : x < 6) (e : a = 3824 + 5 * x) : Z 42 b x 6 = Y 2 0 0 a := h 42 x 6 a (ac_42_6 h0 h1 e)
theorem ac_43_0 {x a : Int} (h0 : 0 ≤ x) (h1 : x < 6) (e : a = 1210 + 12 * x) : adr 43 x 0 = some a := by
  show adr_43 x 0 = some a
  unfold adr_43
  rw [if_pos (by omega)]
  exact congrArg some (by omega)
theorem zRl_43_0 {x a : Int} (h : zR b Z Y) (h0 : 0 ≤ x) (h1 : x < 6) (e : a = 1210 + 12 * x) : Z 43 b x 0 = Y 2 0 0 a := h 43 x 0 a (ac_43_0 h0 h1 e)
theorem ac_43_1 {x a : Int} (h0 : 0 ≤ x) (h1 : x < 6) (e : a = 1211 + 12 * x) : adr 43 x 1 = some a := by
  show adr_43 x 1 = some a
  unfold adr_43
  rw [if_pos (by omega)]
  exact congrArg some (by omega)
theorem zRl_43_1 {x a : Int} (h : zR b Z Y) (h0 : 0 ≤ x) (h1 : x < 6) (e : a = 1211 + 12 * x) : Z 43 b x 1 = Y 2 0 0 a := h 43 x 1 a (ac_43_1 h0 h1 e)
theorem ac_43_2 {x a : Int} (h0 : 0 ≤ x) (h1 : x < 6) (e : a = 1212 + 12 * x) : adr 43 x 2 = some a := by
  show adr_43 x 2 = some a
  unfold adr_43
  rw [if_pos (by omega)]
  exact congrArg some (by omega)
theorem zRl_43_2 {x a : Int} (h : zR b Z Y) (h0 : 0 ≤ x) (h1 : x < 6) (e : a = 1212 + 12 * x) : Z 43 b x 2 = Y 2 0 0 a := h 43 x 2 a (ac_43_2 h0 h1 e)
theorem ac_43_3 {x a : Int} (h0 : 0 ≤ x) (h1 : x < 6) (e : a = 1213 + 12 * x) : adr 43 x 3 = some a := by
  show adr_43 x 3 = some a
  unfold adr_43
  rw [if_pos (by omega)]
  exact congrArg some (by omega)
theorem zRl_43_3 {x a : Int} (h : zR b Z Y) (h0 : 0 ≤ x) (h1 : x < 6) (e : a = 1213 + 12 * x) : Z 43 b x 3 = Y 2 0 0 a := h 43 x 3 a (ac_43_3 h0 h1 e)
theorem ac_43_4 {x a : Int} (h0 : 0 ≤ x) (h1 : x < 6) (e : a = 1214 + 12 * x) : adr 43 x 4 = some a := by
  show adr_43 x 4 = some a
  unfold adr_43
  rw [if_pos (by omega)]
  exact congrArg some (by omega)
theorem zRl_43_4 {x a : Int} (h : zR b Z Y) (h0 : 0 ≤ x) (h1 : x < 6) (e : a = 1214 + 12 * x) : Z 43 b x 4 = Y 2 0 0 a := h 43 x 4 a (ac_43_4 h0 h1 e)
theorem ac_43_5 {x a : Int} (h0 : 0 ≤ x) (h1 : x < 6) (e : a = 1215 + 12 * x) : adr 43 x 5 = some a := by
  show adr_43 x 5 = some a
  unfold adr_43
  rw [if_pos (by omega)]
  exact congrArg some (by omega)
theorem zRl_43_5 {x a : Int} (h : zR b Z Y) (h0 : 0 ≤ x) (h1 : x < 6) (e : a = 1215 + 12 * x) : Z 43 b x 5 = Y 2 0 0 a := h 43 x 5 a (ac_43_5 h0 h1 e)
theorem ac_43_7 {x a : Int} (h0 : 0 ≤ x) (h1 : x < 6) (e : a = 1216 + 12 * x) : adr 43 x 7 = some a := by
  show adr_43 x 7 = some a
  unfold adr_43
  rw [if_neg (by omega), if_pos (by omega)]
  exact congrArg some (by omega)
theorem zRl_43_7 {x a : Int} (h : zR b Z Y) (h0 : 0 ≤ x) (h1 : x < 6) (e : a = 1216 + 12 * x) : Z 43 b x 7 = Y 2 0 0 a := h 43 x 7 a (ac_43_7 h0 h1 e)
theorem ac_43_8 {x a : Int} (h0 : 0 ≤ x) (h1 : x < 6) (e : a = 1217 + 12 * x) : adr 43 x 8 = some a := by
  show adr_43 x 8 = some a
  unfold adr_43
  rw [if_neg (by omega), if_pos (by omega)]
  exact congrArg some (by omega)
theorem zRl_43_8 {x a : Int} (h : zR b Z Y) (h0 : 0 ≤ x) (h1 : x < 6) (e : a = 1217 + 12 * x) : Z 43 b x 8 = Y 2 0 0 a := h 43 x 8 a (ac_43_8 h0 h1 e)
theorem ac_43_9 {x a : Int} (h0 : 0 ≤ x) (h1 : x < 6) (e : a = 1218 + 12 * x) : adr 43 x 9 = some a := by
  show adr_43 x 9 = some a
  unfold adr_43
  rw [if_neg (by omega), if_pos (by omega)]
  exact congrArg some (by omega)
theorem zRl_43_9 {x a : Int} (h : zR b Z Y) (h0 : 0 ≤ x) (h1 : x < 6) (e : a = 1218 + 12 * x) : Z 43 b x 9 = Y 2 0 0 a := h 43 x 9 a (ac_43_9 h0 h1 e)
theorem ac_44_0 {x a : Int} (h0 : 0 ≤ x) (h1 : x < 48) (e : a = 200 + 20 * x) : adr 44 x 0 = some a := by
  show adr_44 x 0 = some a
  unfold adr_44
  rw [if_pos (by omega)]
  exact congrArg some (by omega)
theorem zRl_44_0 {x a : Int} (h : zR b Z Y) (h0 : 0 ≤ x) (h1 : x < 48) (e : a = 200 + 20 * x) : Z 44 b x 0 = Y 2 0 0 a := h 44 x 0 a (ac_44_0 h0 h1 e)
theorem ac_44_1 {x a : Int} (h0 : 0 ≤ x) (h1 : x < 48) (e : a = 201 + 20 * x) : adr 44 x 1 = some a := by
  show adr_44 x 1 = some a
  unfold adr_44
  rw [if_pos (by omega)]
  exact congrArg some (by omega)
theorem zRl_44_1 {x a : Int} (h : zR b Z Y) (h0 : 0 ≤ x) (h1 : x < 48) (e : a = 201 + 20 * x) : Z 44 b x 1 = Y 2 0 0 a := h 44 x 1 a (ac_44_1 h0 h1 e)
theorem ac_44_2 {x a : Int} (h0 : 0 ≤ x) (h1 : x < 48) (e : a = 202 + 20 * x) : adr 44 x 2 = some a := by
  show adr_44 x 2 = some a
  unfold adr_44
  rw [if_pos (by omega)]
  exact congrArg some (by omega)
theorem zRl_44_2 {x a : Int} (h : zR b Z Y) (h0 : 0 ≤ x) (h1 : x < 48) (e : a = 202 + 20 * x) : Z 44 b x 2 = Y 2 0 0 a := h 44 x 2 a (ac_44_2 h0 h1 e)
theorem ac_44_3 {x a : Int} (h0 : 0 ≤ x) (h1 : x < 48) (e : a = 203 + 20 * x) : adr 44 x 3 = some a := by
  show adr_44 x 3 = some a
  unfold adr_44
  rw [if_pos (by omega)]
  exact congrArg some (by omega)
theorem zRl_44_3 {x a : Int} (h : zR b Z Y) (h0 : 0 ≤ x) (h1 : x < 48) (e : a = 203 + 20 * x) : Z 44 b x 3 = Y 2 0 0 a := h 44 x 3 a (ac_44_3 h0 h1 e)
theorem ac_44_4 {x a : Int} (h0 : 0 ≤ x) (h1 : x < 48) (e : a = 204 + 20 * x) : adr 44 x 4 = some a := by
  show adr_44 x 4 = some a
  unfold adr_44
  rw [if_pos (by omega)]
  exact congrArg some (by omega)
theorem zRl_44_4 {x a : Int} (h : zR b Z Y) (h0 : 0 ≤ x) (h1 : x < 48) (e : a = 204 + 20 * x) : Z 44 b x 4 = Y 2 0 0 a := h 44 x 4 a (ac_44_4 h0 h1 e)
theorem ac_44_5 {x a : Int} (h0 : 0 ≤ x) (h1 : x < 48) (e : a = 205 + 20 * x) : adr 44 x 5 = some a := by
  show adr_44 x 5 = some a
  unfold adr_44
  rw [if_pos (by omega)]
  exact congrArg some (by omega)
theorem zRl_44_5 {x a : Int} (h : zR b Z Y) (h0 : 0 ≤ x) (h1 : x < 48) (e : a = 205 + 20 * x) : Z 44 b x 5 = Y 2 0 0 a := h 44 x 5 a (ac_44_5 h0 h1 e)
theorem ac_44_6 {x a : Int} (h0 : 0 ≤ x) (h1 : x < 48) (e : a = 206 + 20 * x) : adr 44 x 6 = some a := by
  show adr_44 x 6 = some a
  unfold adr_44
  rw [if_pos (by omega)]
  exact congrArg some (by omega)
theorem zRl_44_6 {x a : Int} (h : zR b Z Y) (h0 : 0 ≤ x) (h1 : x < 48) (e : a = 206 + 20 * x) : Z 44 b x 6 = Y 2 0 0 a := h 44 x 6 a (ac_44_6 h0 h1 e)
theorem ac_44_7 {x a : Int} (h0 : 0 ≤ x) (h1 : x < 48) (e : a = 207 + 20 * x) : adr 44 x 7 = some a := by
  show adr_44 x 7 = some a
  unfold adr_44
  rw [if_pos (by omega)]
  exact congrArg some (by omega)
theorem zRl_44_7 {x a : Int} (h : zR b Z Y) (h0 : 0 ≤ x) (h1 : x < 48) (e : a = 207 + 20 * x) : Z 44 b x 7 = Y 2 0 0 a := h 44 x 7 a (ac_44_7 h0 h1 e)
theorem ac_44_8 {x a : Int} (h0 : 0 ≤ x) (h1 : x < 48) (e : a = 208 + 20 * x) : adr 44 x 8 = some a := by
  show adr_44 x 8 = some a
  unfold adr_44
  rw [if_pos (by omega)]
  exact congrArg some (by omega)
theorem zRl_44_8 {x a : Int} (h : zR b Z Y) (h0 : 0 ≤ x) (h1 : x < 48) (e : a = 208 + 20 * x) : Z 44 b x 8 = Y 2 0 0 a := h 44 x 8 a (ac_44_8 h0 h1 e)
theorem ac_44_9 {x a : Int} (h0 : 0 ≤ x) (h1 : x < 48) (e : a = 209 + 20 * x) : adr 44 x 9 = some a := by
  show adr_44 x 9 = some a
  unfold adr_44
  rw [if_pos (by omega)]
  exact congrArg some (by omega)
theorem zRl_44_9 {x a : Int} (h : zR b Z Y) (h0 : 0 ≤ x) (h1 : x < 48) (e : a = 209 + 20 * x) : Z 44 b x 9 = Y 2 0 0 a := h 44 x 9 a (ac_44_9 h0 h1 e)
theorem ac_44_10 {x a : Int} (h0 : 0 ≤ x) (h1 : x < 48) (e : a = 210 + 20 * x) : adr 44 x 10 = some a := by
  show adr_44 x 10 = some a
  unfold adr_44
  rw [if_pos (by omega)]
  exact congrArg some (by omega)
theorem zRl_44_10 {x a : Int} (h : zR b Z Y) (h0 : 0 ≤ x) (h1 : x < 48) (e : a = 210 + 20 * x) : Z 44 b x 10 = Y 2 0 0 a := h 44 x 10 a (ac_44_10 h0 h1 e)
theorem ac_44_12 {x a : Int} (h0 : 0 ≤ x) (h1 : x < 48) (e : a = 211 + 20 * x) : adr 44 x 12 = some a := by
  show adr_44 x 12 = some a
  unfold adr_44
  rw [if_neg (by omega), if_pos (by omega)]
  exact congrArg some (by omega)
theorem zRl_44_12 {x a : Int} (h : zR b Z Y) (h0 : 0 ≤ x) (h1 : x < 48) (e : a = 211 + 20 * x) : Z 44 b x 12 = Y 2 0 0 a := h 44 x 12 a (ac_44_12 h0 h1 e)
theorem ac_44_14 {x a : Int} (h0 : 0 ≤ x) (h1 : x < 48) (e : a = 212 + 20 * x) : adr 44 x 14 = some a := by
  show adr_44 x 14 = some a
  unfold adr_44
  rw [if_neg (by omega), if_neg (by omega), if_pos (by omega)]
  exact congrArg some (by omega)
theorem zRl_44_14 {x a : Int} (h : zR b Z Y) (h0 : 0 ≤ x) (h1 : x < 48) (e : a = 212 + 20 * x) : Z 44 b x 14 = Y 2 0 0 a := h 44 x 14 a (ac_44_14 h0 h1 e)
theorem ac_44_15 {x a : Int} (h0 : 0 ≤ x) (h1 : x < 48) (e : a = 213 + 20 * x) : adr 44 x 15 = some a := by
  show adr_44 x 15 = some a
  unfold adr_44
  rw [if_neg (by omega), if_neg (by omega), if_pos (by omega)]
  exact congrArg some (by omega)
theorem zRl_44_15 {x a : Int} (h : zR b Z Y) (h0 : 0 ≤ x) (h1 : x < 48) (e : a = 213 + 20 * x) : Z 44 b x 15 = Y 2 0 0 a := h 44 x 15 a (ac_44_15 h0 h1 e)
theorem ac_45_0 {x a : Int} (h0 : 0 ≤ x) (h1 : x < 8) (e : a = 1410 + 12 * x) : adr 45 x 0 = some a := by
  show adr_45 x 0 = some a
  unfold adr_45
  rw [if_pos (by omega)]
  exact congrArg some (by omega)
theorem zRl_45_0 {x a : Int} (h : zR b Z Y) (h0 : 0 ≤ x) (h1 : x < 8) (e : a = 1410 + 12 * x) : Z 45 b x 0 = Y 2 0 0 a := h 45 x 0 a (ac_45_0 h0 h1 e)
theorem ac_45_1 {x a : Int} (h0 : 0 ≤ x) (h1 : x < 8) (e : a = 1411 + 12 * x) : adr 45 x 1 = some a := by
  show adr_45 x 1 = some a
  unfold adr_45
  rw [if_pos (by omega)]
  exact congrArg some (by omega)
theorem zRl_45_1 {x a : Int} (h : zR b Z Y) (h0 : 0 ≤ x) (h1 : x < 8) (e : a = 1411 + 12 * x) : Z 45 b x 1 = Y 2 0 0 a := h 45 x 1 a (ac_45_1 h0 h1 e)
theorem ac_45_2 {x a : Int} (h0 : 0 ≤ x) (h1 : x < 8) (e : a = 1412 + 12 * x) : adr 45 x 2 = some a := by
  show adr_45 x 2 = some a
  unfold adr_45
  rw [if_pos (by omega)]
  exact congrArg some (by omega)
theorem zRl_45_2 {x a : Int} (h : zR b Z Y) (h0 : 0 ≤ x) (h1 : x < 8) (e : a = 1412 + 12 * x) : Z 45 b x 2 = Y 2 0 0 a := h 45 x 2 a (ac_45_2 h0 h1 e)
theorem ac_45_3 {x a : Int} (h0 : 0 ≤ x) (h1 : x < 8) (e : a = 1413 + 12 * x) : adr 45 x 3 = some a := by
  show adr_45 x 3 = some a
  unfold adr_45
  rw [if_pos (by omega)]
  exact congrArg some (by omega)
theorem zRl_45_3 {x a : Int} (h : zR b Z Y) (h0 : 0 ≤ x) (h1 : x < 8) (e : a = 1413 + 12 * x) : Z 45 b x 3 = Y 2 0 0 a := h 45 x 3 a (ac_45_3 h0 h1 e)
theorem ac_45_7 {x a : Int} (h0 : 0 ≤ x) (h1 : x < 8) (e : a = 1414 + 12 * x) : adr 45 x 7 = some a := by
  show adr_45 x 7 = some a
  unfold adr_45
  rw [if_neg (by omega), if_pos (by omega)]
  exact congrArg some (by omega)
theorem zRl_45_7 {x a : Int} (h : zR b Z Y) (h0 : 0 ≤ x) (h1 : x < 8) (e : a = 1414 + 12 * x) : Z 45 b x 7 = Y 2 0 0 a := h 45 x 7 a (ac_45_7 h0 h1 e)
theorem ac_45_12 {x a : Int} (h0 : 0 ≤ x) (h1 : x < 8) (e : a = 1415 + 12 * x) : adr 45 x 12 = some a := by
  show adr_45 x 12 = some a
  unfold adr_45
  rw [if_neg (by omega), if_neg (by omega), if_pos (by omega)]
  exact congrArg some (by omega)
theorem zRl_45_12 {x a : Int} (h : zR b Z Y) (h0 : 0 ≤ x) (h1 : x < 8) (e : a = 1415 + 12 * x) : Z 45 b x 12 = Y 2 0 0 a := h 45 x 12 a (ac_45_12 h0 h1 e)
theorem ac_45_13 {x a : Int} (h0 : 0 ≤ x) (h1 : x < 8) (e : a = 1416 + 12 * x) : adr 45 x 13 = some a := by
  show adr_45 x 13 = some a
  unfold adr_45
  rw [if_neg (by omega), if_neg (by omega), if_pos (by omega)]
  exact congrArg some (by omega)
theorem zRl_45_13 {x a : Int} (h : zR b Z Y) (h0 : 0 ≤ x) (h1 : x < 8) (e : a = 1416 + 12 * x) : Z 45 b x 13 = Y 2 0 0 a := h 45 x 13 a (ac_45_13 h0 h1 e)
theorem ac_46_0 {x a : Int} (h0 : 0 ≤ x) (h1 : x < 24) (e : a = 1510 + 12 * x) : adr 46 x 0 = some a := by
  show adr_46 x 0 = some a
  unfold adr_46
  rw [if_pos (by omega)]
  exact congrArg some (by omega)
theorem zRl_46_0 {x a : Int} (h : zR b Z Y) (h0 : 0 ≤ x) (h1 : x < 24) (e : a = 1510 + 12 * x) : Z 46 b x 0 = Y 2 0 0 a := h 46 x 0 a (ac_46_0 h0 h1 e)
theorem ac_46_1 {x a : Int} (h0 : 0 ≤ x) (h1 : x < 24) (e : a = 1511 + 12 * x) : adr 46 x 1 = some a := by
  show adr_46 x 1 = some a
  unfold adr_46
  rw [if_pos (by omega)]
  exact congrArg some (by omega)
theorem zRl_46_1 {x a : Int} (h : zR b Z Y) (h0 : 0 ≤ x) (h1 : x < 24) (e : a = 1511 + 12 * x) : Z 46 b x 1 = Y 2 0 0 a := h 46 x 1 a (ac_46_1 h0 h1 e)
theorem ac_46_2 {x a : Int} (h0 : 0 ≤ x) (h1 : x < 24) (e : a = 1512 + 12 * x) : adr 46 x 2 = some a := by
  show adr_46 x 2 = some a
  unfold adr_46
  rw [if_pos (by omega)]
  exact congrArg some (by omega)
theorem zRl_46_2 {x a : Int} (h : zR b Z Y) (h0 : 0 ≤ x) (h1 : x < 24) (e : a = 1512 + 12 * x) : Z 46 b x 2 = Y 2 0 0 a := h 46 x 2 a (ac_46_2 h0 h1 e)
theorem ac_46_3 {x a : Int} (h0 : 0 ≤ x) (h1 : x < 24) (e : a = 1513 + 12 * x) : adr 46 x 3 = some a := by
  show adr_46 x 3 = some a
  unfold adr_46
  rw [if_pos (by omega)]
  exact congrArg some (by omega)
theorem zRl_46_3 {x a : Int} (h : zR b Z Y) (h0 : 0 ≤ x) (h1 : x < 24) (e : a = 1513 + 12 * x) : Z 46 b x 3 = Y 2 0 0 a := h 46 x 3 a (ac_46_3 h0 h1 e)
theorem ac_46_4 {x a : Int} (h0 : 0 ≤ x) (h1 : x < 24) (e : a = 1514 + 12 * x) : adr 46 x 4 = some a := by
  show adr_46 x 4 = some a
  unfold adr_46
  rw [if_pos (by omega)]
  exact congrArg some (by omega)
theorem zRl_46_4 {x a : Int} (h : zR b Z Y) (h0 : 0 ≤ x) (h1 : x < 24) (e : a = 1514 + 12 * x) : Z 46 b x 4 = Y 2 0 0 a := h 46 x 4 a (ac_46_4 h0 h1 e)
theorem ac_46_5 {x a : Int} (h0 : 0 ≤ x) (h1 : x < 24) (e : a = 1515 + 12 * x) : adr 46 x 5 = some a := by
  show adr_46 x 5 = some a
  unfold adr_46
  rw [if_pos (by omega)]
  exact congrArg some (by omega)
theorem zRl_46_5 {x a : Int} (h : zR b Z Y) (h0 : 0 ≤ x) (h1 : x < 24) (e : a = 1515 + 12 * x) : Z 46 b x 5 = Y 2 0 0 a := h 46 x 5 a (ac_46_5 h0 h1 e)
theorem ac_46_6 {x a : Int} (h0 : 0 ≤ x) (h1 : x < 24) (e : a = 1516 + 12 * x) : adr 46 x 6 = some a := by
  show adr_46 x 6 = some a
  unfold adr_46
  rw [if_pos (by omega)]
  exact congrArg some (by omega)
theorem zRl_46_6 {x a : Int} (h : zR b Z Y) (h0 : 0 ≤ x) (h1 : x < 24) (e : a = 1516 + 12 * x) : Z 46 b x 6 = Y 2 0 0 a := h 46 x 6 a (ac_46_6 h0 h1 e)
theorem ac_46_7 {x a : Int} (h0 : 0 ≤ x) (h1 : x < 24) (e : a = 1517 + 12 * x) : adr 46 x 7 = some a := by
  show adr_46 x 7 = some a
  unfold adr_46
  rw [if_pos (by omega)]
  exact congrArg some (by omega)
theorem zRl_46_7 {x a : Int} (h : zR b Z Y) (h0 : 0 ≤ x) (h1 : x < 24) (e : a = 1517 + 12 * x) : Z 46 b x 7 = Y 2 0 0 a := h 46 x 7 a (ac_46_7 h0 h1 e)
theorem ac_47_0 {x a : Int} (h0 : 0 ≤ x) (h1 : x < 60) (e : a = 2010 + 16 * x) : adr 47 x 0 = some a := by
  show adr_47 x 0 = some a
  unfold adr_47
  rw [if_pos (by omega)]
  exact congrArg some (by omega)
theorem zRl_47_0 {x a : Int} (h : zR b Z Y) (h0 : 0 ≤ x) (h1 : x < 60) (e : a = 2010 + 16 * x) : Z 47 b x 0 = Y 2 0 0 a := h 47 x 0 a (ac_47_0 h0 h1 e)
theorem ac_47_1 {x a : Int} (h0 : 0 ≤ x) (h1 : x < 60) (e : a = 2011 + 16 * x) : adr 47 x 1 = some a := by
  show adr_47 x 1 = some a
  unfold adr_47
  rw [if_pos (by omega)]
  exact congrArg some (by omega)
theorem zRl_47_1 {x a : Int} (h : zR b Z Y) (h0 : 0 ≤ x) (h1 : x < 60) (e : a = 2011 + 16 * x) : Z 47 b x 1 = Y 2 0 0 a := h 47 x 1 a (ac_47_1 h0 h1 e)
theorem ac_47_2 {x a : Int} (h0 : 0 ≤ x) (h1 : x < 60) (e : a = 2012 + 16 * x) : adr 47 x 2 = some a := by
  show adr_47 x 2 = some a
  unfold adr_47
  rw [if_pos (by omega)]
  exact congrArg some (by omega)
theorem zRl_47_2 {x a : Int} (h : zR b Z Y) (h0 : 0 ≤ x) (h1 : x < 60) (e : a = 2012 + 16 * x) : Z 47 b x 2 = Y 2 0 0 a := h 47 x 2 a (ac_47_2 h0 h1 e)
theorem ac_47_3 {x a : Int} (h0 : 0 ≤ x) (h1 : x < 60) (e : a = 2013 + 16 * x) : adr 47 x 3 = some a := by
  show adr_47 x 3 = some a
  unfold adr_47
  rw [if_pos (by omega)]
  exact congrArg some (by omega)
theorem zRl_47_3 {x a : Int} (h : zR b Z Y) (h0 : 0 ≤ x) (h1 : x < 60) (e : a = 2013 + 16 * x) : Z 47 b x 3 = Y 2 0 0 a := h 47 x 3 a (ac_47_3 h0 h1 e)
theorem ac_47_4 {x a : Int} (h0 : 0 ≤ x) (h1 : x < 60) (e : a = 2014 + 16 * x) : adr 47 x 4 = some a := by
  show adr_47 x 4 = some a
  unfold adr_47
  rw [if_pos (by omega)]
  exact congrArg some (by omega)
theorem zRl_47_4 {x a : Int} (h : zR b Z Y) (h0 : 0 ≤ x) (h1 : x < 60) (e : a = 2014 + 16 * x) : Z 47 b x 4 = Y 2 0 0 a := h 47 x 4 a (ac_47_4 h0 h1 e)
theorem ac_47_5 {x a : Int} (h0 : 0 ≤ x) (h1 : x < 60) (e : a = 2015 + 16 * x) : adr 47 x 5 = some a := by
  show adr_47 x 5 = some a
  unfold adr_47
  rw [if_pos (by omega)]
  exact congrArg some (by omega)
theorem zRl_47_5 {x a : Int} (h : zR b Z Y) (h0 : 0 ≤ x) (h1 : x < 60) (e : a = 2015 + 16 * x) : Z 47 b x 5 = Y 2 0 0 a := h 47 x 5 a (ac_47_5 h0 h1 e)
theorem ac_47_6 {x a : Int} (h0 : 0 ≤ x) (h1 : x < 60) (e : a = 2016 + 16 * x) : adr 47 x 6 = some a := by
  show adr_47 x 6 = some a
  unfold adr_47
  rw [if_pos (by omega)]
  exact congrArg some (by omega)
theorem zRl_47_6 {x a : Int} (h : zR b Z Y) (h0 : 0 ≤ x) (h1 : x < 60) (e : a = 2016 + 16 * x) : Z 47 b x 6 = Y 2 0 0 a := h 47 x 6 a (ac_47_6 h0 h1 e)
theorem ac_47_7 {x a : Int} (h0 : 0 ≤ x) (h1 : x < 60) (e : a = 2017 + 16 * x) : adr 47 x 7 = some a := by
  show adr_47 x 7 = some a
  unfold adr_47
  rw [if_pos (by omega)]
  exact congrArg some (by omega)
theorem zRl_47_7 {x a : Int} (h : zR b Z Y) (h0 : 0 ≤ x) (h1 : x < 60) (e : a = 2017 + 16 * x) : Z 47 b x 7 = Y 2 0 0 a := h 47 x 7 a (ac_47_7 h0 h1 e)
theorem ac_47_8 {x a : Int} (h0 : 0 ≤ x) (h1 : x < 60) (e : a = 2018 + 16 * x) : adr 47 x 8 = some a := by
  show adr_47 x 8 = some a
  unfold adr_47
  rw [if_pos (by omega)]
  exact congrArg some (by omega)
theorem zRl_47_8 {x a : Int} (h : zR b Z Y) (h0 : 0 ≤ x) (h1 : x < 60) (e : a = 2018 + 16 * x) : Z 47 b x 8 = Y 2 0 0 a := h 47 x 8 a (ac_47_8 h0 h1 e)
theorem ac_47_9 {x a : Int} (h0 : 0 ≤ x) (h1 : x < 60) (e : a = 2019 + 16 * x) : adr 47 x 9 = some a := by
  show adr_47 x 9 = some a
  unfold adr_47
  rw [if_pos (by omega)]
  exact congrArg some (by omega)
theorem zRl_47_9 {x a : Int} (h : zR b Z Y) (h0 : 0 ≤ x) (h1 : x < 60) (e : a = 2019 + 16 * x) : Z 47 b x 9 = Y 2 0 0 a := h 47 x 9 a (ac_47_9 h0 h1 e)
theorem ac_47_10 {x a : Int} (h0 : 0 ≤ x) (h1 : x < 60) (e : a = 2020 + 16 * x) : adr 47 x 10 = some a := by
  show adr_47 x 10 = some a
  unfold adr_47
  rw [if_pos (by omega)]
  exact congrArg some (by omega)
theorem zRl_47_10 {x a : Int} (h : zR b Z Y) (h0 : 0 ≤ x) (h1 : x < 60) (e : a = 2020 + 16 * x) : Z 47 b x 10 = Y 2 0 0 a := h 47 x 10 a (ac_47_10 h0 h1 e)
theorem ac_47_14 {x a : Int} (h0 : 0 ≤ x) (h1 : x < 60) (e : a = 2023 + 16 * x) : adr 47 x 14 = some a := by
  show adr_47 x 14 = some a
  unfold adr_47
  rw [if_neg (by omega), if_pos (by omega)]
  exact congrArg some (by omega)
theorem zRl_47_14 {x a : Int} (h : zR b Z Y) (h0 : 0 ≤ x) (h1 : x < 60) (e : a = 2023 + 16 * x) : Z 47 b x 14 = Y 2 0 0 a := h 47 x 14 a (ac_47_14 h0 h1 e)
theorem ac_47_15 {x a : Int} (h0 : 0 ≤ x) (h1 : x < 60) (e : a = 2024 + 16 * x) : adr 47 x 15 = some a := by
  show adr_47 x 15 = some a
  unfold adr_47
  rw [if_neg (by omega), if_pos (by omega)]
  exact congrArg some (by omega)
theorem zRl_47_15 {x a : Int} (h : zR b Z Y) (h0 : 0 ≤ x) (h1 : x < 60) (e : a = 2024 + 16 * x) : Z 47 b x 15 = Y 2 0 0 a := h 47 x 15 a (ac_47_15 h0 h1 e)
theorem ac_47_16 {x a : Int} (h0 : 0 ≤ x) (h1 : x < 60) (e : a = 2025 + 16 * x) : adr 47 x 16 = some a := by
  show adr_47 x 16 = some a
  unfold adr_47
  rw [if_neg (by omega), if_pos (by omega)]
  exact congrArg some (by omega)
theorem zRl_47_16 {x a : Int} (h : zR b Z Y) (h0 : 0 ≤ x) (h1 : x < 60) (e : a = 2025 + 16 * x) : Z 47 b x 16 = Y 2 0 0 a := h 47 x 16 a (ac_47_16 h0 h1 e)
theorem ac_47_17 {x a : Int} (h0 : 0 ≤ x) (h1 : x < 60) (e : a = 40 + x) : adr 47 x 17 = some a := by
  show adr_47 x 17 = some a
  unfold adr_47
  rw [if_neg (by omega), if_neg (by omega), if_pos (by omega)]
  exact congrArg some (by omega)
theorem zRl_47_17 {x a : Int} (h : zR b Z Y) (h0 : 0 ≤ x) (h1 : x < 60) (e : a = 40 + x) : Z 47 b x 17 = Y 2 0 0 a := h 47 x 17 a (ac_47_17 h0 h1 e)
theorem ac_47_19 {x a : Int} (h0 : 0 ≤ x) (h1 : x < 60) (e : a = 1810 + 2 * x) : adr 47 x 19 = some a := by
  show adr_47 x 19 = some a
  unfold adr_47
  rw [if_neg (by omega), if_neg (by omega), if_neg (by omega), if_pos (by omega)]
  exact congrArg some (by omega)
theorem zRl_47_19 {x a : Int} (h : zR b Z Y) (h0 : 0 ≤ x) (h1 : x < 60) (e : a = 1810 + 2 * x) : Z 47 b x 19 = Y 2 0 0 a := h 47 x 19 a (ac_47_19 h0 h1 e)
theorem ac_47_20 {x a : Int} (h0 : 0 ≤ x) (h1 : x < 60) (e : a = 1811 + 2 * x) : adr 47 x 20 = some a := by
  show adr_47 x 20 = some a
  unfold adr_47
  rw [if_neg (by omega), if_neg (by omega), if_neg (by omega), if_pos (by omega)]
  exact congrArg some (by omega)
theorem zRl_47_20 {x a : Int} (h : zR b Z Y) (h0 : 0 ≤ x) (h1 : x < 60) (e : a = 1811 + 2 * x) : Z 47 b x 20 = Y 2 0 0 a := h 47 x 20 a (ac_47_20 h0 h1 e)
theorem ac_48_0 {x a : Int} (h0 : 0 ≤ x) (h1 : x < 2) (e : a = 3010 + 60 * x) : adr 48 x 0 = some a := by
  show adr_48 x 0 = some a
  unfold adr_48
  rw [if_pos (by omega)]
  exact congrArg some (by omega)
theorem zRl_48_0 {x a : Int} (h : zR b Z Y) (h0 : 0 ≤ x) (h1 : x < 2) (e : a = 3010 + 60 * x) : Z 48 b x 0 = Y 2 0 0 a := h 48 x 0 a (ac_48_0 h0 h1 e)
theorem ac_48_1 {x a : Int} (h0 : 0 ≤ x) (h1 : x < 2) (e : a = 3011 + 60 * x) : adr 48 x 1 = some a := by
  show adr_48 x 1 = some a
  unfold adr_48
  rw [if_pos (by omega)]
  exact congrArg some (by omega)
theorem zRl_48_1 {x a : Int} (h : zR b Z Y) (h0 : 0 ≤ x) (h1 : x < 2) (e : a = 3011 + 60 * x) : Z 48 b x 1 = Y 2 0 0 a := h 48 x 1 a (ac_48_1 h0 h1 e)
theorem ac_48_2 {x a : Int} (h0 : 0 ≤ x) (h1 : x < 2) (e : a = 3012 + 60 * x) : adr 48 x 2 = some a := by
  show adr_48 x 2 = some a
  unfold adr_48
  rw [if_pos (by omega)]
  exact congrArg some (by omega)
theorem zRl_48_2 {x a : Int} (h : zR b Z Y) (h0 : 0 ≤ x) (h1 : x < 2) (e : a = 3012 + 60 * x) : Z 48 b x 2 = Y 2 0 0 a := h 48 x 2 a (ac_48_2 h0 h1 e)
theorem ac_48_3 {x a : Int} (h0 : 0 ≤ x) (h1 : x < 2) (e : a = 3013 + 60 * x) : adr 48 x 3 = some a := by
  show adr_48 x 3 = some a
  unfold adr_48
  rw [if_pos (by omega)]
  exact congrArg some (by omega)
theorem zRl_48_3 {x a : Int} (h : zR b Z Y) (h0 : 0 ≤ x) (h1 : x < 2) (e : a = 3013 + 60 * x) : Z 48 b x 3 = Y 2 0 0 a := h 48 x 3 a (ac_48_3 h0 h1 e)
theorem ac_48_4 {x a : Int} (h0 : 0 ≤ x) (h1 : x < 2) (e : a = 3014 + 60 * x) : adr 48 x 4 = some a := by
  show adr_48 x 4 = some a
  unfold adr_48
  rw [if_pos (by omega)]
  exact congrArg some (by omega)
theorem zRl_48_4 {x a : Int} (h : zR b Z Y) (h0 : 0 ≤ x) (h1 : x < 2) (e : a = 3014 + 60 * x) : Z 48 b x 4 = Y 2 0 0 a := h 48 x 4 a (ac_48_4 h0 h1 e)
theorem ac_48_5 {x a : Int} (h0 : 0 ≤ x) (h1 : x < 2) (e : a = 3015 + 60 * x) : adr 48 x 5 = some a := by
  show adr_48 x 5 = some a
  unfold adr_48
  rw [if_pos (by omega)]
  exact congrArg some (by omega)
theorem zRl_48_5 {x a : Int} (h : zR b Z Y) (h0 : 0 ≤ x) (h1 : x < 2) (e : a = 3015 + 60 * x) : Z 48 b x 5 = Y 2 0 0 a := h 48 x 5 a (ac_48_5 h0 h1 e)
theorem ac_48_6 {x a : Int} (h0 : 0 ≤ x) (h1 : x < 2) (e : a = 3016 + 60 * x) : adr 48 x 6 = some a := by
  show adr_48 x 6 = some a
  unfold adr_48
  rw [if_pos (by omega)]
  exact congrArg some (by omega)
theorem zRl_48_6 {x a : Int} (h : zR b Z Y) (h0 : 0 ≤ x) (h1 : x < 2) (e : a = 3016 + 60 * x) : Z 48 b x 6 = Y 2 0 0 a := h 48 x 6 a (ac_48_6 h0 h1 e)
theorem ac_48_7 {x a : Int} (h0 : 0 ≤ x) (h1 : x < 2) (e : a = 3017 + 60 * x) : adr 48 x 7 = some a := by
  show adr_48 x 7 = some a
  unfold adr_48
  rw [if_pos (by omega)]
  exact congrArg some (by omega)
theorem zRl_48_7 {x a : Int} (h : zR b Z Y) (h0 : 0 ≤ x) (h1 : x < 2) (e : a = 3017 + 60 * x) : Z 48 b x 7 = Y 2 0 0 a := h 48 x 7 a (ac_48_7 h0 h1 e)
theorem ac_48_8 {x a : Int} (h0 : 0 ≤ x) (h1 : x < 2) (e : a = 3018 + 60 * x) : adr 48 x 8 = some a := by
  show adr_48 x 8 = some a
  unfold adr_48
  rw [if_pos (by omega)]
  exact congrArg some (by omega)
theorem zRl_48_8 {x a : Int} (h : zR b Z Y) (h0 : 0 ≤ x) (h1 : x < 2) (e : a = 3018 + 60 * x) : Z 48 b x 8 = Y 2 0 0 a := h 48 x 8 a (ac_48_8 h0 h1 e)
theorem ac_48_9 {x a : Int} (h0 : 0 ≤ x) (h1 : x < 2) (e : a = 3019 + 60 * x) : adr 48 x 9 = some a := by
  show adr_48 x 9 = some a
  unfold adr_48
  rw [if_pos (by omega)]
  exact congrArg some (by omega)
theorem zRl_48_9 {x a : Int} (h : zR b Z Y) (h0 : 0 ≤ x) (h1 : x < 2) (e : a = 3019 + 60 * x) : Z 48 b x 9 = Y 2 0 0 a := h 48 x 9 a (ac_48_9 h0 h1 e)
theorem ac_48_10 {x a : Int} (h0 : 0 ≤ x) (h1 : x < 2) (e : a = 3020 + 60 * x) : adr 48 x 10 = some a := by
  show adr_48 x 10 = some a
  unfold adr_48
  rw [if_pos (by omega)]
  exact congrArg some (by omega)
theorem zRl_48_10 {x a : Int} (h : zR b Z Y) (h0 : 0 ≤ x) (h1 : x < 2) (e : a = 3020 + 60 * x) : Z 48 b x 10 = Y 2 0 0 a := h 48 x 10 a (ac_48_10 h0 h1 e)
theorem ac_48_11 {x a : Int} (h0 : 0 ≤ x) (h1 : x < 2) (e : a = 3021 + 60 * x) : adr 48 x 11 = some a := by
  show adr_48 x 11 = some a
  unfold adr_48
  rw [if_pos (by omega)]
  exact congrArg some (by omega)
theorem zRl_48_11 {x a : Int} (h : zR b Z Y) (h0 : 0 ≤ x) (h1 : x < 2) (e : a = 3021 + 60 * x) : Z 48 b x 11 = Y 2 0 0 a := h 48 x 11 a (ac_48_11 h0 h1 e)
theorem ac_50_0 {x a : Int} (h0 : 0 ≤ x) (h1 : x < 4) (e : a = 3250 + 24 * x) : adr 50 x 0 = some a := by
  show adr_50 x 0 = some a
  unfold adr_50
  rw [if_pos (by omega)]
  exact congrArg some (by omega)
theorem zRl_50_0 {x a : Int} (h : zR b Z Y) (h0 : 0 ≤ x) (h1 : x < 4) (e : a = 3250 + 24 * x) : Z 50 b x 0 = Y 2 0 0 a := h 50 x 0 a (ac_50_0 h0 h1 e)
theorem ac_50_1 {x a : Int} (h0 : 0 ≤ x) (h1 : x < 4) (e : a = 3251 + 24 * x) : adr 50 x 1 = some a := by
  show adr_50 x 1 = some a
  unfold adr_50
  rw [if_pos (by omega)]
  exact congrArg some (by omega)
theorem zRl_50_1 {x a : Int} (h : zR b Z Y) (h0 : 0 ≤ x) (h1 : x < 4) (e : a = 3251 + 24 * x) : Z 50 b x 1 = Y 2 0 0 a := h 50 x 1 a (ac_50_1 h0 h1 e)
theorem ac_50_2 {x a : Int} (h0 : 0 ≤ x) (h1 : x < 4) (e : a = 3252 + 24 * x) : adr 50 x 2 = some a := by
  show adr_50 x 2 = some a
  unfold adr_50
  rw [if_pos (by omega)]
  exact congrArg some (by omega)
theorem zRl_50_2 {x a : Int} (h : zR b Z Y) (h0 : 0 ≤ x) (h1 : x < 4) (e : a = 3252 + 24 * x) : Z 50 b x 2 = Y 2 0 0 a := h 50 x 2 a (ac_50_2 h0 h1 e)
theorem ac_50_3 {x a : Int} (h0 : 0 ≤ x) (h1 : x < 4) (e : a = 3253 + 24 * x) : adr 50 x 3 = some a := by
  show adr_50 x 3 = some a
  unfold adr_50
  rw [if_pos (by omega)]
  exact congrArg some (by omega)
theorem zRl_50_3 {x a : Int} (h : zR b Z Y) (h0 : 0 ≤ x) (h1 : x < 4) (e : a = 3253 + 24 * x) : Z 50 b x 3 = Y 2 0 0 a := h 50 x 3 a (ac_50_3 h0 h1 e)
theorem ac_50_6 {x a : Int} (h0 : 0 ≤ x) (h1 : x < 4) (e : a = 3255 + 24 * x) : adr 50 x 6 = some a := by
  show adr_50 x 6 = some a
  unfold adr_50
  rw [if_neg (by omega), if_pos (by omega)]
  exact congrArg some (by omega)
theorem zRl_50_6 {x a : Int} (h : zR b Z Y) (h0 : 0 ≤ x) (h1 : x < 4) (e : a = 3255 + 24 * x) : Z 50 b x 6 = Y 2 0 0 a := h 50 x 6 a (ac_50_6 h0 h1 e)
theorem ac_50_7 {x a : Int} (h0 : 0 ≤ x) (h1 : x < 4) (e : a = 3254 + 24 * x) : adr 50 x 7 = some a := by
  show adr_50 x 7 = some a
  unfold adr_50
  rw [if_neg (by omega), if_neg (by omega), if_pos (by omega)]
  exact congrArg some (by omega)
theorem zRl_50_7 {x a : Int} (h : zR b Z Y) (h0 : 0 ≤ x) (h1 : x < 4) (e : a = 3254 + 24 * x) : Z 50 b x 7 = Y 2 0 0 a := h 50 x 7 a (ac_50_7 h0 h1 e)
theorem ac_50_10 {x a : Int} (h0 : 0 ≤ x) (h1 : x < 4) (e : a = 3256 + 24 * x) : adr 50 x 10 = some a := by
  show adr_50 x 10 = some a
  unfold adr_50
  rw [if_neg (by omega), if_neg (by omega), if_neg (by omega), if_pos (by omega)]
  exact congrArg some (by omega)
theorem zRl_50_10 {x a : Int} (h : zR b Z Y) (h0 : 0 ≤ x) (h1 : x < 4) (e : a = 3256 + 24 * x) : Z 50 b x 10 = Y 2 0 0 a := h 50 x 10 a (ac_50_10 h0 h1 e)
theorem ac_50_11 {x a : Int} (h0 : 0 ≤ x) (h1 : x < 4) (e : a = 3257 + 24 * x) : adr 50 x 11 = some a := by
  show adr_50 x 11 = some a
  unfold adr_50
  rw [if_neg (by omega), if_neg (by omega), if_neg (by omega), if_pos (by omega)]
  exact congrArg some (by omega)
theorem zRl_50_11 {x a : Int} (h : zR b Z Y) (h0 : 0 ≤ x) (h1 : x < 4) (e : a = 3257 + 24 * x) : Z 50 b x 11 = Y 2 0 0 a := h 50 x 11 a (ac_50_11 h0 h1 e)
theorem ac_51_0 {x a : Int} (h0 : 0 ≤ x) (h1 : x < 2) (e : a = 3520 + 10 * x) : adr 51 x 0 = some a := by
  show adr_51 x 0 = some a
  unfold adr_51
  rw [if_pos (by omega)]
  exact congrArg some (by omega)
theorem zRl_51_0 {x a : Int} (h : zR b Z Y) (h0 : 0 ≤ x) (h1 : x < 2) (e : a = 3520 + 10 * x) : Z 51 b x 0 = Y 2 0 0 a := h 51 x 0 a (ac_51_0 h0 h1 e)
theorem ac_51_1 {x a : Int} (h0 : 0 ≤ x) (h1 : x < 2) (e : a = 3521 + 10 * x) : adr 51 x 1 = some a := by
  show adr_51 x 1 = some a
  unfold adr_51
  rw [if_pos (by omega)]
  exact congrArg some (by omega)
theorem zRl_51_1 {x a : Int} (h : zR b Z Y) (h0 : 0 ≤ x) (h1 : x < 2) (e : a = 3521 + 10 * x) : Z 51 b x 1 = Y 2 0 0 a := h 51 x 1 a (ac_51_1 h0 h1 e)
theorem ac_51_2 {x a : Int} (h0 : 0 ≤ x) (h1 : x < 2) (e : a = 3522 + 10 * x) : adr 51 x 2 = some a := by
  show adr_51 x 2 = some a
  unfold adr_51
  rw [if_pos (by omega)]
  exact congrArg some (by omega)
theorem zRl_51_2 {x a : Int} (h : zR b Z Y) (h0 : 0 ≤ x) (h1 : x < 2) (e : a = 3522 + 10 * x) : Z 51 b x 2 = Y 2 0 0 a := h 51 x 2 a (ac_51_2 h0 h1 e)
theorem ac_51_3 {x a : Int} (h0 : 0 ≤ x) (h1 : x < 2) (e : a = 3523 + 10 * x) : adr 51 x 3 = some a := by
  show adr_51 x 3 = some a
  unfold adr_51
  rw [if_pos (by omega)]
  exact congrArg some (by omega)
theorem zRl_51_3 {x a : Int} (h : zR b Z Y) (h0 : 0 ≤ x) (h1 : x < 2) (e : a = 3523 + 10 * x) : Z 51 b x 3 = Y 2 0 0 a := h 51 x 3 a (ac_51_3 h0 h1 e)
theorem ac_51_4 {x a : Int} (h0 : 0 ≤ x) (h1 : x < 2) (e : a = 3524 + 10 * x) : adr 51 x 4 = some a := by
  show adr_51 x 4 = some a
  unfold adr_51
  rw [if_pos (by omega)]
  exact congrArg some (by omega)
theorem zRl_51_4 {x a : Int} (h : zR b Z Y) (h0 : 0 ≤ x) (h1 : x < 2) (e : a = 3524 + 10 * x) : Z 51 b x 4 = Y 2 0 0 a := h 51 x 4 a (ac_51_4 h0 h1 e)
theorem ac_51_5 {x a : Int} (h0 : 0 ≤ x) (h1 : x < 2) (e : a = 3525 + 10 * x) : adr 51 x 5 = some a := by
  show adr_51 x 5 = some a
  unfold adr_51
  rw [if_pos (by omega)]
  exact congrArg some (by omega)
theorem zRl_51_5 {x a : Int} (h : zR b Z Y) (h0 : 0 ≤ x) (h1 : x < 2) (e : a = 3525 + 10 * x) : Z 51 b x 5 = Y 2 0 0 a := h 51 x 5 a (ac_51_5 h0 h1 e)
theorem ac_51_6 {x a : Int} (h0 : 0 ≤ x) (h1 : x < 2) (e : a = 3526 + 10 * x) : adr 51 x 6 = some a := by
  show adr_51 x 6 = some a
  unfold adr_51
  rw [if_pos (by omega)]
  exact congrArg some (by omega)
theorem zRl_51_6 {x a : Int} (h : zR b Z Y) (h0 : 0 ≤ x) (h1 : x < 2) (e : a = 3526 + 10 * x) : Z 51 b x 6 = Y 2 0 0 a := h 51 x 6 a (ac_51_6 h0 h1 e)
theorem ac_51_7 {x a : Int} (h0 : 0 ≤ x) (h1 : x < 2) (e : a = 3527 + 10 * x) : adr 51 x 7 = some a := by
  show adr_51 x 7 = some a
  unfold adr_51
  rw [if_pos (by omega)]
  exact congrArg some (by omega)
theorem zRl_51_7 {x a : Int} (h : zR b Z Y) (h0 : 0 ≤ x) (h1 : x < 2) (e : a = 3527 + 10 * x) : Z 51 b x 7 = Y 2 0 0 a := h 51 x 7 a (ac_51_7 h0 h1 e)
theorem ac_53_0 {x a : Int} (h0 : 0 ≤ x) (h1 : x < 60) (e : a = 3950 + 5 * x) : adr 53 x 0 = some a := by
  show adr_53 x 0 = some a
  unfold adr_53
  rw [if_pos (by omega)]
  exact congrArg some (by omega)
theorem zRl_53_0 {x a : Int} (h : zR b Z Y) (h0 : 0 ≤ x) (h1 : x < 60) (e : a = 3950 + 5 * x) : Z 53 b x 0 = Y 2 0 0 a := h 53 x 0 a (ac_53_0 h0 h1 e)
theorem ac_53_1 {x a : Int} (h0 : 0 ≤ x) (h1 : x < 60) (e : a = 3951 + 5 * x) : adr 53 x 1 = some a := by
  show adr_53 x 1 = some a
  unfold adr_53
  rw [if_pos (by omega)]
  exact congrArg some (by omega)
theorem zRl_53_1 {x a : Int} (h : zR b Z Y) (h0 : 0 ≤ x) (h1 : x < 60) (e : a = 3951 + 5 * x) : Z 53 b x 1 = Y 2 0 0 a := h 53 x 1 a (ac_53_1 h0 h1 e)
theorem ac_53_2 {x a : Int} (h0 : 0 ≤ x) (h1 : x < 60) (e : a = 3952 + 5 * x) : adr 53 x 2 = some a := by
  show adr_53 x 2 = some a
  unfold adr_53
  rw [if_pos (by omega)]
  exact congrArg some (by omega)
theorem zRl_53_2 {x a : Int} (h : zR b Z Y) (h0 : 0 ≤ x) (h1 : x < 60) (e : a = 3952 + 5 * x) : Z 53 b x 2 = Y 2 0 0 a := h 53 x 2 a (ac_53_2 h0 h1 e)
theorem ac_53_3 {x a : Int} (h0 : 0 ≤ x) (h1 : x < 60) (e : a = 3953 + 5 * x) : adr 53 x 3 = some a := by
  show adr_53 x 3 = some a
  unfold adr_53
  rw [if_pos (by omega)]
  exact congrArg some (by omega)
theorem zRl_53_3 {x a : Int} (h : zR b Z Y) (h0 : 0 ≤ x) (h1 : x < 60) (e : a = 3953 + 5 * x) : Z 53 b x 3 = Y 2 0 0 a := h 53 x 3 a (ac_53_3 h0 h1 e)
theorem ac_53_4 {x a : Int} (h0 : 0 ≤ x) (h1 : x < 60) (e : a = 3954 + 5 * x) : adr 53 x 4 = some a := by
  show adr_53 x 4 = some a
  unfold adr_53
  rw [if_pos (by omega)]
  exact congrArg some (by omega)
theorem zRl_53_4 {x a : Int} (h : zR b Z Y) (h0 : 0 ≤ x) (h1 : x < 60) (e : a = 3954 + 5 * x) : Z 53 b x 4 = Y 2 0 0 a := h 53 x 4 a (ac_53_4 h0 h1 e)
theorem ac_54_0 {x a : Int} (h0 : 0 ≤ x) (h1 : x < 12) (e : a = 3850 + 8 * x) : adr 54 x 0 = some a := by
  show adr_54 x 0 = some a
  unfold adr_54
  rw [if_pos (by omega)]
  exact congrArg some (by omega)
theorem zRl_54_0 {x a : Int} (h : zR b Z Y) (h0 : 0 ≤ x) (h1 : x < 12) (e : a = 3850 + 8 * x) : Z 54 b x 0 = Y 2 0 0 a := h 54 x 0 a (ac_54_0 h0 h1 e)
theorem ac_54_1 {x a : Int} (h0 : 0 ≤ x) (h1 : x < 12) (e : a = 3851 + 8 * x) : adr 54 x 1 = some a := by
  show adr_54 x 1 = some a
  unfold adr_54
  rw [if_pos (by omega)]
  exact congrArg some (by omega)
theorem zRl_54_1 {x a : Int} (h : zR b Z Y) (h0 : 0 ≤ x) (h1 : x < 12) (e : a = 3851 + 8 * x) : Z 54 b x 1 = Y 2 0 0 a := h 54 x 1 a (ac_54_1 h0 h1 e)
theorem ac_54_2 {x a : Int} (h0 : 0 ≤ x) (h1 : x < 12) (e : a = 3852 + 8 * x) : adr 54 x 2 = some a := by
  show adr_54 x 2 = some a
  unfold adr_54
  rw [if_pos (by omega)]
  exact congrArg some (by omega)
theorem zRl_54_2 {x a : Int} (h : zR b Z Y) (h0 : 0 ≤ x) (h1 : x < 12) (e : a = 3852 + 8 * x) : Z 54 b x 2 = Y 2 0 0 a := h 54 x 2 a (ac_54_2 h0 h1 e)
theorem ac_54_3 {x a : Int} (h0 : 0 ≤ x) (h1 : x < 12) (e : a = 3853 + 8 * x) : adr 54 x 3 = some a := by
  show adr_54 x 3 = some a
  unfold adr_54
  rw [if_pos (by omega)]
  exact congrArg some (by omega)
theorem zRl_54_3 {x a : Int} (h : zR b Z Y) (h0 : 0 ≤ x) (h1 : x < 12) (e : a = 3853 + 8 * x) : Z 54 b x 3 = Y 2 0 0 a := h 54 x 3 a (ac_54_3 h0 h1 e)
theorem ac_54_4 {x a : Int} (h0 : 0 ≤ x) (h1 : x < 12) (e : a = 3854 + 8 * x) : adr 54 x 4 = some a := by
  show adr_54 x 4 = some a
  unfold adr_54
  rw [if_pos (by omega)]
  exact congrArg some (by omega)
theorem zRl_54_4 {x a : Int} (h : zR b Z Y) (h0 : 0 ≤ x) (h1 : x < 12) (e : a = 3854 + 8 * x) : Z 54 b x 4 = Y 2 0 0 a := h 54 x 4 a (ac_54_4 h0 h1 e)
theorem ac_54_5 {x a : Int} (h0 : 0 ≤ x) (h1 : x < 12) (e : a = 3855 + 8 * x) : adr 54 x 5 = some a := by
  show adr_54 x 5 = some a
  unfold adr_54
  rw [if_pos (by omega)]
  exact congrArg some (by omega)
theorem zRl_54_5 {x a : Int} (h : zR b Z Y) (h0 : 0 ≤ x) (h1 : x < 12) (e : a = 3855 + 8 * x) : Z 54 b x 5 = Y 2 0 0 a := h 54 x 5 a (ac_54_5 h0 h1 e)
theorem ac_54_6 {x a : Int} (h0 : 0 ≤ x) (h1 : x < 12) (e : a = 3856 + 8 * x) : adr 54 x 6 = some a := by
  show adr_54 x 6 = some a
  unfold adr_54
  rw [if_pos (by omega)]
  exact congrArg some (by omega)
theorem zRl_54_6 {x a : Int} (h : zR b Z Y) (h0 : 0 ≤ x) (h1 : x < 12) (e : a = 3856 + 8 * x) : Z 54 b x 6 = Y 2 0 0 a := h 54 x 6 a (ac_54_6 h0 h1 e)
theorem ac_54_7 {x a : Int} (h0 : 0 ≤ x) (h1 : x < 12) (e : a = 3857 + 8 * x) : adr 54 x 7 = some a := by
  show adr_54 x 7 = some a
  unfold adr_54
  rw [if_pos (by omega)]
  exact congrArg some (by omega)
theorem zRl_54_7 {x a : Int} (h : zR b Z Y) (h0 : 0 ≤ x) (h1 : x < 12) (e : a = 3857 + 8 * x) : Z 54 b x 7 = Y 2 0 0 a := h 54 x 7 a (ac_54_7 h0 h1 e)
theorem zRb_41_0 {x j a : Int} (h : zR b Z Y) (h0 : 0 ≤ x) (h1 : x < 5) (h2 : 0 ≤ j) (h3 : j < 5) (e : a = 110 + 5 * x + (j - 0)) : Z 41 b x j = Y 2 0 0 a := h 41 x j a (by
  show adr_41 x j = some a
  unfold adr_41
  rw [if_pos (by omega)]
  exact congrArg some (by omega))
theorem zRb_42_0 {x j a : Int} (h : zR b Z Y) (h0 : 0 ≤ x) (h1 : x < 6) (h2 : 0 ≤ j) (h3 : j < 2) (e : a = 140 + 2 * x + (j - 0)) : Z 42 b x j = Y 2 0 0 a := h 42 x j a (by
  show adr_42 x j = some a
  unfold adr_42
  rw [if_pos (by omega)]
  exact congrArg some (by omega))
theorem zRb_42_2 {x j a : Int} (h : zR b Z Y) (h0 : 0 ≤ x) (h1 : x < 6) (h2 : 2 ≤ j) (h3 : j < 7) (e : a = 3820 + 5 * x + (j - 2)) : Z 42 b x j = Y 2 0 0 a := h 42 x j a (by
  show adr_42 x j = some a
  unfold adr_42
  rw [if_neg (by omega), if_pos (by omega)]
  exact congrArg some (by omega))
theorem zRb_43_0 {x j a : Int} (h : zR b Z Y) (h0 : 0 ≤ x) (h1 : x < 6) (h2 : 0 ≤ j) (h3 : j < 6) (e : a = 1210 + 12 * x + (j - 0)) : Z 43 b x j = Y 2 0 0 a := h 43 x j a (by
  show adr_43 x j = some a
  unfold adr_43
  rw [if_pos (by omega)]
  exact congrArg some (by omega))
theorem zRb_43_7 {x j a : Int} (h : zR b Z Y) (h0 : 0 ≤ x) (h1 : x < 6) (h2 : 7 ≤ j) (h3 : j < 10) (e : a = 1216 + 12 * x + (j - 7)) : Z 43 b x j = Y 2 0 0 a := h 43 x j a (by
  show adr_43 x j = some a
  unfold adr_43
  rw [if_neg (by omega), if_pos (by omega)]
  exact congrArg some (by omega))
theorem zRb_44_0 {x j a : Int} (h : zR b Z Y) (h0 : 0 ≤ x) (h1 : x < 48) (h2 : 0 ≤ j) (h3 : j < 11) (e : a = 200 + 20 * x + (j - 0)) : Z 44 b x j = Y 2 0 0 a := h 44 x j a (by
  show adr_44 x j = some a
  unfold adr_44
  rw [if_pos (by omega)]
  exact congrArg some (by omega))
theorem zRb_44_12 {x j a : Int} (h : zR b Z Y) (h0 : 0 ≤ x) (h1 : x < 48) (h2 : 12 ≤ j) (h3 : j < 13) (e : a = 211 + 20 * x + (j - 12)) : Z 44 b x j = Y 2 0 0 a := h 44 x j a (by
  show adr_44 x j = some a
  unfold adr_44
  rw [if_neg (by omega), if_pos (by omega)]
  exact congrArg some (by omega))
theorem zRb_44_14 {x j a : Int} (h : zR b Z Y) (h0 : 0 ≤ x) (h1 : x < 48) (h2 : 14 ≤ j) (h3 : j < 16) (e : a = 212 + 20 * x + (j - 14)) : Z 44 b x j = Y 2 0 0 a := h 44 x j a (by
  show adr_44 x j = some a
  unfold adr_44
  rw [if_neg (by omega), if_neg (by omega), if_pos (by omega)]
  exact congrArg some (by omega))
theorem zRb_45_0 {x j a : Int} (h : zR b Z Y) (h0 : 0 ≤ x) (h1 : x < 8) (h2 : 0 ≤ j) (h3 : j < 4) (e : a = 1410 + 12 * x + (j - 0)) : Z 45 b x j = Y 2 0 0 a := h 45 x j a (by
  show adr_45 x j = some a
  unfold adr_45
  rw [if_pos (by omega)]
  exact congrArg some (by omega))
theorem zRb_45_7 {x j a : Int} (h : zR b Z Y) (h0 : 0 ≤ x) (h1 : x < 8) (h2 : 7 ≤ j) (h3 : j < 8) (e : a = 1414 + 12 * x + (j - 7)) : Z 45 b x j = Y 2 0 0 a := h 45 x j a (by
  show adr_45 x j = some a
  unfold adr_45
  rw [if_neg (by omega), if_pos (by omega)]
  exact congrArg some (by omega))
theorem zRb_45_12 {x j a : Int} (h : zR b Z Y) (h0 : 0 ≤ x) (h1 : x < 8) (h2 : 12 ≤ j) (h3 : j < 14) (e : a = 1415 + 12 * x + (j - 12)) : Z 45 b x j = Y 2 0 0 a := h 45 x j a (by
  show adr_45 x j = some a
  unfold adr_45
  rw [if_neg (by omega), if_neg (by omega), if_pos (by omega)]
  exact congrArg some (by omega))
theorem zRb_46_0 {x j a : Int} (h : zR b Z Y) (h0 : 0 ≤ x) (h1 : x < 24) (h2 : 0 ≤ j) (h3 : j < 8) (e : a = 1510 + 12 * x + (j - 0)) : Z 46 b x j = Y 2 0 0 a := h 46 x j a (by
  show adr_46 x j = some a
  unfold adr_46
  rw [if_pos (by omega)]
  exact congrArg some (by omega))
theorem zRb_47_0 {x j a : Int} (h : zR b Z Y) (h0 : 0 ≤ x) (h1 : x < 60) (h2 : 0 ≤ j) (h3 : j < 11) (e : a = 2010 + 16 * x + (j - 0)) : Z 47 b x j = Y 2 0 0 a := h 47 x j a (by
  show adr_47 x j = some a
  unfold adr_47
  rw [if_pos (by omega)]
  exact congrArg some (by omega))
theorem zRb_47_14 {x j a : Int} (h : zR b Z Y) (h0 : 0 ≤ x) (h1 : x < 60) (h2 : 14 ≤ j) (h3 : j < 17) (e : a = 2023 + 16 * x + (j - 14)) : Z 47 b x j = Y 2 0 0 a := h 47 x j a (by
  show adr_47 x j = some a
  unfold adr_47
  rw [if_neg (by omega), if_pos (by omega)]
  exact congrArg some (by omega))
theorem zRb_47_17 {x j a : Int} (h : zR b Z Y) (h0 : 0 ≤ x) (h1 : x < 60) (h2 : 17 ≤ j) (h3 : j < 18) (e : a = 40 + 1 * x + (j - 17)) : Z 47 b x j = Y 2 0 0 a := h 47 x j a (by
  show adr_47 x j = some a
  unfold adr_47
  rw [if_neg (by omega), if_neg (by omega), if_pos (by omega)]
  exact congrArg some (by omega))
theorem zRb_47_19 {x j a : Int} (h : zR b Z Y) (h0 : 0 ≤ x) (h1 : x < 60) (h2 : 19 ≤ j) (h3 : j < 21) (e : a = 1810 + 2 * x + (j - 19)) : Z 47 b x j = Y 2 0 0 a := h 47 x j a (by
  show adr_47 x j = some a
  unfold adr_47
  rw [if_neg (by omega), if_neg (by omega), if_neg (by omega), if_pos (by omega)]
  exact congrArg some (by omega))
theorem zRb_48_0 {x j a : Int} (h : zR b Z Y) (h0 : 0 ≤ x) (h1 : x < 2) (h2 : 0 ≤ j) (h3 : j < 12) (e : a = 3010 + 60 * x + (j - 0)) : Z 48 b x j = Y 2 0 0 a := h 48 x j a (by
  show adr_48 x j = some a
  unfold adr_48
  rw [if_pos (by omega)]
  exact congrArg some (by omega))
theorem zRb_50_0 {x j a : Int} (h : zR b Z Y) (h0 : 0 ≤ x) (h1 : x < 4) (h2 : 0 ≤ j) (h3 : j < 4) (e : a = 3250 + 24 * x + (j - 0)) : Z 50 b x j = Y 2 0 0 a := h 50 x j a (by
  show adr_50 x j = some a
  unfold adr_50
  rw [if_pos (by omega)]
  exact congrArg some (by omega))
theorem zRb_50_6 {x j a : Int} (h : zR b Z Y) (h0 : 0 ≤ x) (h1 : x < 4) (h2 : 6 ≤ j) (h3 : j < 7) (e : a = 3255 + 24 * x + (j - 6)) : Z 50 b x j = Y 2 0 0 a := h 50 x j a (by
  show adr_50 x j = some a
  unfold adr_50
  rw [if_neg (by omega), if_pos (by omega)]
  exact congrArg some (by omega))
theorem zRb_50_7 {x j a : Int} (h : zR b Z Y) (h0 : 0 ≤ x) (h1 : x < 4) (h2 : 7 ≤ j) (h3 : j < 8) (e : a = 3254 + 24 * x + (j - 7)) : Z 50 b x j = Y 2 0 0 a := h 50 x j a (by
  show adr_50 x j = some a
  unfold adr_50
  rw [if_neg (by omega), if_neg (by omega), if_pos (by omega)]
  exact congrArg some (by omega))
theorem zRb_50_10 {x j a : Int} (h : zR b Z Y) (h0 : 0 ≤ x) (h1 : x < 4) (h2 : 10 ≤ j) (h3 : j < 12) (e : a = 3256 + 24 * x + (j - 10)) : Z 50 b x j = Y 2 0 0 a := h 50 x j a (by
  show adr_50 x j = some a
  unfold adr_50
  rw [if_neg (by omega), if_neg (by omega), if_neg (by omega), if_pos (by omega)]
  exact congrArg some (by omega))
theorem zRb_51_0 {x j a : Int} (h : zR b Z Y) (h0 : 0 ≤ x) (h1 : x < 2) (h2 : 0 ≤ j) (h3 : j < 8) (e : a = 3520 + 10 * x + (j - 0)) : Z 51 b x j = Y 2 0 0 a := h 51 x j a (by
  show adr_51 x j = some a
  unfold adr_51
  rw [if_pos (by omega)]
  exact congrArg some (by omega))
theorem zRb_53_0 {x j a : Int} (h : zR b Z Y) (h0 : 0 ≤ x) (h1 : x < 60) (h2 : 0 ≤ j) (h3 : j < 5) (e : a = 3950 + 5 * x + (j - 0)) : Z 53 b x j = Y 2 0 0 a := h 53 x j a (by
  show adr_53 x j = some a
  unfold adr_53
  rw [if_pos (by omega)]
  exact congrArg some (by omega))
theorem zRb_54_0 {x j a : Int} (h : zR b Z Y) (h0 : 0 ≤ x) (h1 : x < 12) (h2 : 0 ≤ j) (h3 : j < 8) (e : a = 3850 + 8 * x + (j - 0)) : Z 54 b x j = Y 2 0 0 a := h 54 x j a (by
  show adr_54 x j = some a
  unfold adr_54
  rw [if_pos (by omega)]
  exact congrArg some (by omega))
end AD
