/-! SHARES: the class's closed form and the reference's function tell the same. -/
abbrev shK (c w0 w1 w2 : Int) : Prop := (0 ≤ c ∧ c ≤ 999999) ∧ (0 ≤ w0 ∧ 0 ≤ w1 ∧ 0 ≤ w2) ∧ (1 ≤ w0 + w1 + w2 ∧ w0 + w1 + w2 ≤ 1000000) ∧ (c * w0 ≤ 2147483647 ∧ c * w1 ≤ 2147483647 ∧ c * w2 ≤ 2147483647)
def shq (c w0 w1 w2 t : Int) : Int := c * sh_S w0 w1 w2 t / (w0 + w1 + w2)
def shr (c w0 w1 w2 t : Int) : Int := c * sh_S w0 w1 w2 t % (w0 + w1 + w2)
def shl (c w0 w1 w2 : Int) : Int := c - shq c w0 w1 w2 0 - shq c w0 w1 w2 1 - shq c w0 w1 w2 2
/-- how many rests are looked at ahead of one -/
def shk (r0 r1 r2 who : Int) : Int := if who = 0 then (if r0 < r1 then 1 else 0) + (if r0 < r2 then 1 else 0) else if who = 1 then (if r1 ≤ r0 then 1 else 0) + (if r1 < r2 then 1 else 0) else (if r2 ≤ r0 then 1 else 0) + (if r2 ≤ r1 then 1 else 0)
/-- what is borne -/
def shv (c w0 w1 w2 who : Int) : Int := shq c w0 w1 w2 who + (if shl c w0 w1 w2 ≤ shk (shr c w0 w1 w2 0) (shr c w0 w1 w2 1) (shr c w0 w1 w2 2) who then 0 else 1)
theorem shK_m {c w0 w1 w2 : Int} (h : shK c w0 w1 w2) (t : Int) : (0 ≤ sh_S w0 w1 w2 t ∧ sh_S w0 w1 w2 t ≤ w0 + w1 + w2) ∧ 0 ≤ c * sh_S w0 w1 w2 t ∧ c * sh_S w0 w1 w2 t ≤ 2147483647 := by
  obtain ⟨⟨c0, c1⟩, ⟨a0, a1, a2⟩, ⟨b0, b1⟩, d0, d1, d2⟩ := h
  have m0 := Int.mul_nonneg c0 a0
  have m1 := Int.mul_nonneg c0 a1
  have m2 := Int.mul_nonneg c0 a2
  unfold sh_S
  split
  · exact ⟨⟨a0, by omega⟩, m0, d0⟩
  · split
    · exact ⟨⟨a1, by omega⟩, m1, d1⟩
    · exact ⟨⟨a2, by omega⟩, m2, d2⟩
theorem shK_b {c w0 w1 w2 : Int} (h : shK c w0 w1 w2) (t : Int) : (0 ≤ shq c w0 w1 w2 t ∧ shq c w0 w1 w2 t ≤ 999999) ∧ (0 ≤ shr c w0 w1 w2 t ∧ shr c w0 w1 w2 t < w0 + w1 + w2) ∧ c * sh_S w0 w1 w2 t = shr c w0 w1 w2 t + (w0 + w1 + w2) * shq c w0 w1 w2 t := by
  have m := shK_m h t
  obtain ⟨⟨c0, c1⟩, ⟨a0, a1, a2⟩, ⟨b0, b1⟩, _⟩ := h
  have r0 : 0 ≤ c * sh_S w0 w1 w2 t % (w0 + w1 + w2) := Int.emod_nonneg _ (by omega)
  have r1 : c * sh_S w0 w1 w2 t % (w0 + w1 + w2) < w0 + w1 + w2 := Int.emod_lt_of_pos _ (by omega)
  have e := Int.emod_add_mul_ediv (c * sh_S w0 w1 w2 t) (w0 + w1 + w2)
  have q0 : 0 ≤ c * sh_S w0 w1 w2 t / (w0 + w1 + w2) := Int.ediv_nonneg m.2.1 (by omega)
  have q1 : c * sh_S w0 w1 w2 t / (w0 + w1 + w2) ≤ c := by
    refine Int.ediv_le_of_le_mul (by omega) ?_
    exact Int.mul_le_mul_of_nonneg_left m.1.2 c0
  exact ⟨⟨q0, by show c * sh_S w0 w1 w2 t / (w0 + w1 + w2) ≤ _; omega⟩, ⟨r0, r1⟩, e.symm⟩
theorem shK_l {c w0 w1 w2 : Int} (h : shK c w0 w1 w2) : 0 ≤ shl c w0 w1 w2 ∧ shl c w0 w1 w2 ≤ 2 := by
  have b0 := shK_b h 0
  have b1 := shK_b h 1
  have b2 := shK_b h 2
  rw [show sh_S w0 w1 w2 0 = w0 from rfl] at b0
  rw [show sh_S w0 w1 w2 1 = w1 from rfl] at b1
  rw [show sh_S w0 w1 w2 2 = w2 from rfl] at b2
  have h4 := h.2.2.1.1
  unfold shl
  revert b0 b1 b2
  generalize shq c w0 w1 w2 0 = q0
  generalize shq c w0 w1 w2 1 = q1
  generalize shq c w0 w1 w2 2 = q2
  generalize shr c w0 w1 w2 0 = r0
  generalize shr c w0 w1 w2 1 = r1
  generalize shr c w0 w1 w2 2 = r2
  intro b0 b1 b2
  have e : (w0 + w1 + w2) * (c - q0 - q1 - q2) = r0 + r1 + r2 := by
    have e1 : (w0 + w1 + w2) * (c - q0 - q1 - q2) = c * w0 + c * w1 + c * w2 - (w0 + w1 + w2) * q0 - (w0 + w1 + w2) * q1 - (w0 + w1 + w2) * q2 := by
      rw [Int.mul_sub, Int.mul_sub, Int.mul_sub, Int.mul_comm (w0 + w1 + w2) c, Int.mul_add, Int.mul_add]
    have := b0.2.2
    have := b1.2.2
    have := b2.2.2
    omega
  generalize c - q0 - q1 - q2 = l at e ⊢
  generalize w0 + w1 + w2 = A at e h4 b0 b1 b2
  refine ⟨Int.not_lt.mp fun q => ?_, Int.not_lt.mp fun q => ?_⟩
  · have : A * l ≤ A * (-1) := Int.mul_le_mul_of_nonneg_left (by omega) (by omega)
    omega
  · have : A * 3 ≤ A * l := Int.mul_le_mul_of_nonneg_left (by omega) (by omega)
    omega
/-! the class's: its longs, and no overflow -/
theorem shK_A {c w0 w1 w2 : Int} (h : shK c w0 w1 w2) : shA w0 w1 w2 = w0 + w1 + w2 := by
  obtain ⟨_, ⟨a0, a1, a2⟩, ⟨b0, b1⟩, _⟩ := h
  show w3 (w3 (w0 + w1) + w2) = _
  rw [w3_id (x := w0 + w1) (by omega) (by omega), w3_id (by omega) (by omega)]
theorem shK_Q {c w0 w1 w2 : Int} (h : shK c w0 w1 w2) (t : Int) : shQ c w0 w1 w2 t = shq c w0 w1 w2 t := by
  have m := shK_m h t
  have b := shK_b h t
  show w3 ((c * sh_S w0 w1 w2 t).tdiv (shA w0 w1 w2)) = _
  rw [shK_A h, Int.tdiv_eq_ediv_of_nonneg m.2.1]
  exact w3_id (by have := b.1.1; unfold shq at this; omega) (by have := b.1.2; unfold shq at this; omega)
theorem shK_R {c w0 w1 w2 : Int} (h : shK c w0 w1 w2) (t : Int) : shR c w0 w1 w2 t = shr c w0 w1 w2 t := by
  have m := shK_m h t
  have b := shK_b h t
  show c * sh_S w0 w1 w2 t - (c * sh_S w0 w1 w2 t).tdiv (shA w0 w1 w2) * shA w0 w1 w2 = _
  rw [shK_A h, Int.tdiv_eq_ediv_of_nonneg m.2.1, Int.mul_comm (c * sh_S w0 w1 w2 t / (w0 + w1 + w2))]
  have e := b.2.2
  show c * sh_S w0 w1 w2 t - (w0 + w1 + w2) * shq c w0 w1 w2 t = _
  omega
theorem shK_L {c w0 w1 w2 : Int} (h : shK c w0 w1 w2) : shL c w0 w1 w2 = shl c w0 w1 w2 := by
  have b0 := shK_b h 0
  have b1 := shK_b h 1
  have b2 := shK_b h 2
  have hc := h.1
  show w3 (w3 (w3 (c - shQ c w0 w1 w2 0) - shQ c w0 w1 w2 1) - shQ c w0 w1 w2 2) = c - shq c w0 w1 w2 0 - shq c w0 w1 w2 1 - shq c w0 w1 w2 2
  rw [shK_Q h, shK_Q h, shK_Q h]
  rw [w3_id (x := c - shq c w0 w1 w2 0) (by omega) (by omega), w3_id (x := c - shq c w0 w1 w2 0 - shq c w0 w1 w2 1) (by omega) (by omega), w3_id (by omega) (by omega)]
/-- a turn without the overflow -/
def shi (Q R : Int → Int) : Int → Int := shU Q (sh_T (R 0) (R 1) (R 2)) (Q (sh_T (R 0) (R 1) (R 2)) + 1)
theorem shi_1 {Q R : Int → Int} {a b : Int} (h : ∀ j, a ≤ Q j ∧ Q j ≤ b) (ha : -2147483648 ≤ a) (hb : b < 2147483647) : sh_1 Q R = shi Q R := by
  unfold sh_1 shi
  rw [w3_id (by have := h (sh_T (R 0) (R 1) (R 2)); omega) (by have := h (sh_T (R 0) (R 1) (R 2)); omega)]
theorem shi_b {Q R : Int → Int} {a b : Int} (h : ∀ j, a ≤ Q j ∧ Q j ≤ b) : ∀ j, a ≤ shi Q R j ∧ shi Q R j ≤ b + 1 := fun j => by
  show a ≤ (if j = sh_T (R 0) (R 1) (R 2) then Q (sh_T (R 0) (R 1) (R 2)) + 1 else Q j) ∧ (if j = sh_T (R 0) (R 1) (R 2) then Q (sh_T (R 0) (R 1) (R 2)) + 1 else Q j) ≤ b + 1
  have h1 := h (sh_T (R 0) (R 1) (R 2))
  have h2 := h j
  split <;> omega
theorem sh_Ts (r0 r1 r2 : Int) : (sh_T r0 r1 r2 = 0 ∧ r1 ≤ r0 ∧ r2 ≤ r0) ∨ (sh_T r0 r1 r2 = 1 ∧ r0 < r1 ∧ r2 ≤ r1) ∨ (sh_T r0 r1 r2 = 2 ∧ r0 < r2 ∧ r1 < r2) := by
  unfold sh_T
  split <;> split <;> omega
theorem shk_0 (r0 r1 r2 : Int) : shk r0 r1 r2 0 = (if r0 < r1 then 1 else 0) + (if r0 < r2 then 1 else 0) := rfl
theorem shk_1 (r0 r1 r2 : Int) : shk r0 r1 r2 1 = (if r1 ≤ r0 then 1 else 0) + (if r1 < r2 then 1 else 0) := rfl
theorem shk_2 (r0 r1 r2 : Int) : shk r0 r1 r2 2 = (if r2 ≤ r0 then 1 else 0) + (if r2 ≤ r1 then 1 else 0) := rfl
/-- rests given out one by one are rests given to those ahead -/
theorem sh_cm {Q R : Int → Int} {l who : Int} (h0 : 0 ≤ R 0) (h1 : 0 ≤ R 1) (h2 : 0 ≤ R 2) (hQ : ∀ j, 0 ≤ Q j ∧ Q j ≤ 1000000) (hl : 0 ≤ l ∧ l ≤ 2) (hw : who = 0 ∨ who = 1 ∨ who = 2) : sh_e Q R l who = Q who + (if l ≤ shk (R 0) (R 1) (R 2) who then 0 else 1) := by
  have hk : shk (R 0) (R 1) (R 2) who = if who = 0 then (if R 0 < R 1 then 1 else 0) + (if R 0 < R 2 then 1 else 0) else if who = 1 then (if R 1 ≤ R 0 then 1 else 0) + (if R 1 < R 2 then 1 else 0) else (if R 2 ≤ R 0 then 1 else 0) + (if R 2 ≤ R 1 then 1 else 0) := rfl
  rw [hk]
  clear hk
  have e1 : ∀ (Q R : Int → Int) (j t : Int), sh_T (R 0) (R 1) (R 2) = t → shi Q R j = if j = t then Q t + 1 else Q j := fun Q R j t h => by subst h; rfl
  have e2 : ∀ (R : Int → Int) (j t : Int), sh_T (R 0) (R 1) (R 2) = t → sh_2 R j = if j = t then -1 else R j := fun R j t h => by subst h; rfl
  rcases (show l = 0 ∨ l = 1 ∨ l = 2 by omega) with rfl | rfl | rfl
  · show Q who = _
    (repeat' split) <;> omega
  · show sh_1 Q R who = _
    rw [shi_1 hQ (by omega) (by omega)]
    rcases sh_Ts (R 0) (R 1) (R 2) with ⟨t, c⟩ | ⟨t, c⟩ | ⟨t, c⟩
    all_goals
      rw [e1 _ _ _ _ t]
      rcases hw with rfl | rfl | rfl
      all_goals
        simp only [Int.reduceEq, if_true, if_false]
        (repeat' split) <;> omega
  · show sh_1 (sh_1 Q R) (sh_2 R) who = _
    rw [shi_1 hQ (by omega) (by omega), shi_1 (shi_b hQ) (by omega) (by omega)]
    rcases sh_Ts (R 0) (R 1) (R 2) with ⟨t, c⟩ | ⟨t, c⟩ | ⟨t, c⟩
    all_goals
      have u0 := e2 R 0 _ t
      have u1 := e2 R 1 _ t
      have u2 := e2 R 2 _ t
      simp only [Int.reduceEq, if_true, if_false] at u0 u1 u2
      rcases sh_Ts (sh_2 R 0) (sh_2 R 1) (sh_2 R 2) with ⟨t', c'⟩ | ⟨t', c'⟩ | ⟨t', c'⟩
      all_goals
        rw [u0, u1, u2] at c'
        rw [e1 _ _ _ _ t', e1 _ _ _ _ t, e1 _ _ _ _ t]
        rcases hw with rfl | rfl | rfl
        all_goals
          simp only [Int.reduceEq, if_true, if_false]
          (repeat' split) <;> omega
/-- the class's share of one -/
theorem sh_cv {c w0 w1 w2 who : Int} (h : shK c w0 w1 w2) (hw : 0 ≤ who ∧ who ≤ 2) : sh_e (shQ c w0 w1 w2) (shR c w0 w1 w2) (shL c w0 w1 w2) who = shv c w0 w1 w2 who := by
  have r0 := shK_b h 0
  have r1 := shK_b h 1
  have r2 := shK_b h 2
  rw [shK_L h, sh_cm (by rw [shK_R h]; exact r0.2.1.1) (by rw [shK_R h]; exact r1.2.1.1) (by rw [shK_R h]; exact r2.2.1.1) (fun j => by
    have := shK_b h j
    rw [shK_Q h]
    omega) (shK_l h) (by omega), shK_Q h, shK_R h, shK_R h, shK_R h]
  rfl
/-! the reference's -/
theorem sh_rq {c w0 w1 w2 w : Int} (h : shK c w0 w1 w2) (t : Int) (hw : w = sh_S w0 w1 w2 t) : z2 (fun x y => x / y) (w3 (c * w)) (w0 + w1 + w2) = shq c w0 w1 w2 t ∧ z2 (fun x y => x - x / y * y) (w3 (c * w)) (w0 + w1 + w2) = shr c w0 w1 w2 t := by
  have m := shK_m h t
  have b := h.2.2.1
  rw [hw, w3_id (by omega) (by omega), z2div m.2.1 m.2.2 (by omega) (by omega), z2rem m.2.1 m.2.2 (by omega) (by omega)]
  exact ⟨rfl, rfl⟩
section S418
variable {c w0 w1 w2 who A L ww : Int} {Y : qz_Z} {m : Nat} {x8 : Int} {T : Int × Int}
theorem zs418_0 (h : zl_418_1 c w0 w1 w2 who A L ww m Y (x8 + (if 0 = who then 0 else if z2 (fun x y => x - x / y * y) (w3 (c * ww)) A < z2 (fun x y => x - x / y * y) (w3 (c * w0)) A then 1 else if z2 (fun x y => x - x / y * y) (w3 (c * w0)) A ≠ z2 (fun x y => x - x / y * y) (w3 (c * ww)) A then 0 else 1)) 1 = T) : zl_418_1 c w0 w1 w2 who A L ww (m + 1) Y x8 0 = T := by
  unfold zl_418_1
  rw [← h]
  rw [if_neg (show ¬ (3 : Int) ≤ 0 by omega)]
  rw [if_neg (show ¬ (0 : Int) ≠ 0 by omega)]
  (repeat' split) <;> first | rfl | (exfalso; omega)
theorem zs418_1 (h : zl_418_1 c w0 w1 w2 who A L ww m Y (x8 + (if 1 = who then 0 else if z2 (fun x y => x - x / y * y) (w3 (c * ww)) A < z2 (fun x y => x - x / y * y) (w3 (c * w1)) A then 1 else if z2 (fun x y => x - x / y * y) (w3 (c * w1)) A ≠ z2 (fun x y => x - x / y * y) (w3 (c * ww)) A then 0 else if who ≤ 1 then 0 else 1)) 2 = T) : zl_418_1 c w0 w1 w2 who A L ww (m + 1) Y x8 1 = T := by
  unfold zl_418_1
  rw [← h]
  rw [if_neg (show ¬ (3 : Int) ≤ 1 by omega)]
  rw [if_pos (show (1 : Int) ≠ 0 by omega)]
  rw [if_neg (show ¬ (1 : Int) ≠ 1 by omega)]
  (repeat' split) <;> first | rfl | (exfalso; omega)
theorem zs418_2 (h : zl_418_1 c w0 w1 w2 who A L ww m Y (x8 + (if 2 = who then 0 else if z2 (fun x y => x - x / y * y) (w3 (c * ww)) A < z2 (fun x y => x - x / y * y) (w3 (c * w2)) A then 1 else if z2 (fun x y => x - x / y * y) (w3 (c * w2)) A ≠ z2 (fun x y => x - x / y * y) (w3 (c * ww)) A then 0 else 0)) 3 = T) : zl_418_1 c w0 w1 w2 who A L ww (m + 1) Y x8 2 = T := by
  unfold zl_418_1
  rw [← h]
  rw [if_neg (show ¬ (3 : Int) ≤ 2 by omega)]
  rw [if_pos (show (2 : Int) ≠ 0 by omega)]
  rw [if_pos (show (2 : Int) ≠ 1 by omega)]
  (repeat' split) <;> first | rfl | (exfalso; omega)
theorem zs418_3 : zl_418_1 c w0 w1 w2 who A L ww (m + 1) Y x8 3 = (x8, 3) := by
  unfold zl_418_1
  rw [if_pos (show (3 : Int) ≤ 3 by omega)]
end S418
theorem sh_rl {c w0 w1 w2 L ww who : Int} {Y : qz_Z} (h : shK c w0 w1 w2) (hw : 0 ≤ who ∧ who ≤ 2) (hww : ww = sh_S w0 w1 w2 who) : ∃ y : Int, zl_418_1 c w0 w1 w2 who (w0 + w1 + w2) L ww 4 Y 0 0 = (shk (shr c w0 w1 w2 0) (shr c w0 w1 w2 1) (shr c w0 w1 w2 2) who, y) := by
  have f0 := (sh_rq h 0 (show w0 = sh_S w0 w1 w2 0 from rfl)).2
  have f1 := (sh_rq h 1 (show w1 = sh_S w0 w1 w2 1 from rfl)).2
  have f2 := (sh_rq h 2 (show w2 = sh_S w0 w1 w2 2 from rfl)).2
  have fw := (sh_rq h who hww).2
  have e := zs418_0 (Y := Y) (L := L) (m := 3) (x8 := 0) (zs418_1 (m := 2) (zs418_2 (m := 1) (zs418_3 (c := c) (w0 := w0) (w1 := w1) (w2 := w2) (who := who) (A := w0 + w1 + w2) (ww := ww) (m := 0))))
  refine ⟨3, Eq.trans e ?_⟩
  refine congrArg (fun x => (x, (3 : Int))) ?_
  rcases (show who = 0 ∨ who = 1 ∨ who = 2 by omega) with rfl | rfl | rfl
  · rw [f0, f1, f2, fw, shk_0]
    clear f0 f1 f2 fw e
    generalize shr c w0 w1 w2 0 = r0
    generalize shr c w0 w1 w2 1 = r1
    generalize shr c w0 w1 w2 2 = r2
    clear h hww
    (repeat' split) <;> omega
  · rw [f0, f1, f2, fw, shk_1]
    clear f0 f1 f2 fw e
    generalize shr c w0 w1 w2 0 = r0
    generalize shr c w0 w1 w2 1 = r1
    generalize shr c w0 w1 w2 2 = r2
    clear h hww
    (repeat' split) <;> omega
  · rw [f0, f1, f2, fw, shk_2]
    clear f0 f1 f2 fw e
    generalize shr c w0 w1 w2 0 = r0
    generalize shr c w0 w1 w2 1 = r1
    generalize shr c w0 w1 w2 2 = r2
    clear h hww
    (repeat' split) <;> omega
/-- the reference's share of one -/
theorem sh_rv {c w0 w1 w2 who : Int} {Y : qz_Z} (h : shK c w0 w1 w2) (hw : 0 ≤ who ∧ who ≤ 2) : zf_418 Y c w0 w1 w2 who = shv c w0 w1 w2 who := by
  have b := shK_b h who
  have b0 := shK_b h 0
  have b1 := shK_b h 1
  have b2 := shK_b h 2
  have hc := h.1
  have q0 := (sh_rq h 0 (show w0 = sh_S w0 w1 w2 0 from rfl)).1
  have q1 := (sh_rq h 1 (show w1 = sh_S w0 w1 w2 1 from rfl)).1
  have q2 := (sh_rq h 2 (show w2 = sh_S w0 w1 w2 2 from rfl)).1
  have lf : w3 ((w3 ((w3 (c - (shq c w0 w1 w2 0))) - (shq c w0 w1 w2 1))) - (shq c w0 w1 w2 2)) = shl c w0 w1 w2 := by
    rw [w3_id (x := c - shq c w0 w1 w2 0) (by omega) (by omega), w3_id (x := c - shq c w0 w1 w2 0 - shq c w0 w1 w2 1) (by omega) (by omega), w3_id (by omega) (by omega)]
    rfl
  have fin : ∀ (q k : Int), 0 ≤ q → q ≤ 999999 → (if shl c w0 w1 w2 ≤ k then (q + 0) else (w3 (q + 1))) = q + (if shl c w0 w1 w2 ≤ k then 0 else 1) := fun q k g0 g1 => by
    rw [w3_id (by omega) (by omega)]
    split <;> rfl
  unfold zf_418
  rcases (show who = 0 ∨ who = 1 ∨ who = 2 by omega) with rfl | rfl | rfl
  · obtain ⟨y, e⟩ := sh_rl (Y := Y) (L := shl c w0 w1 w2) (ww := w0) h (by omega) rfl
    rw [if_neg (show ¬ (0 : Int) ≠ 0 by omega), q0, q1, q2, lf, e]
    exact fin _ _ b0.1.1 b0.1.2
  · obtain ⟨y, e⟩ := sh_rl (Y := Y) (L := shl c w0 w1 w2) (ww := w1) h (by omega) rfl
    rw [if_pos (show (1 : Int) ≠ 0 by omega), if_neg (show ¬ (1 : Int) ≠ 1 by omega), q0, q1, q2, lf, e]
    exact fin _ _ b1.1.1 b1.1.2
  · obtain ⟨y, e⟩ := sh_rl (Y := Y) (L := shl c w0 w1 w2) (ww := w2) h (by omega) rfl
    rw [if_pos (show (2 : Int) ≠ 0 by omega), if_pos (show (2 : Int) ≠ 1 by omega), q0, q1, q2, lf, e]
    exact fin _ _ b2.1.1 b2.1.2
