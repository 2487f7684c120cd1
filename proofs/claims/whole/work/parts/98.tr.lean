/-! a truck asked for: the next town -/
def zG9 (Y : qz_Z) (t : Int) (m : Nat) (x : Int) : Int := zsum (zl_521_1 t m Y x) (fun q => zlet q (fun y1 => 5)) (fun r => r)
theorem zG9_e {Y : qz_Z} {t x : Int} {m : Nat} (h : Y 2 0 0 (3258 + 24 * t) ≤ x) : zG9 Y t m x = 5 := by
  cases m with
  | zero => rfl
  | succ m =>
    unfold zG9 zl_521_1
    rw [if_pos h]
    rfl
theorem zG9_s {Y : qz_Z} {t x : Int} {m : Nat} (h : ¬ Y 2 0 0 (3258 + 24 * t) ≤ x) : zG9 Y t (m + 1) x = if Y 2 0 0 (3264 + 24 * t + x) ≤ Y 2 0 0 0 then zG9 Y t m (x + 1) else Y 2 0 0 (3259 + 24 * t + x) := by
  unfold zG9
  rw [zl_521_1, if_neg h]
  split <;> rfl
theorem rl_52 {b t : Int} {Z Y : qz_Z} (hRa : zR b Z Y) (hV : zV Y) (hN : 0 ≤ Y 2 0 0 (3258 + 24 * t) ∧ Y 2 0 0 (3258 + 24 * t) ≤ 5) (hk : ∀ k : Int, 0 ≤ k → k < 5 → (k < Y 2 0 0 (3258 + 24 * t) → Z 50 b t (12 + k) = Y 2 0 0 (3259 + 24 * t + k) ∧ Z 50 b t (17 + k) = Y 2 0 0 (3264 + 24 * t + k)) ∧ (Y 2 0 0 (3258 + 24 * t) ≤ k → Z 50 b t (12 + k) = -1 ∧ Z 50 b t (17 + k) = -1)) : ∀ j : Nat, j ≤ 5 → (zl_52_1 b b t (j + 1) Z (zG9 Y t (6 - j) j) ((j : Int) - 1)).1 = zG9 Y t 6 0
  | 0, _ => by
    unfold zl_52_1
    rw [if_pos (by omega)]
    rfl
  | j + 1, hj => by
    unfold zl_52_1
    have v := zVr_11_13 (a := 0) hV rfl
    rw [if_neg (by omega), show ((j + 1 : Nat) : Int) - 1 = (j : Int) by omega, zRl_11_13 (a := 0) hRa rfl]
    obtain ⟨h1, h2⟩ := hk j (by omega) (by omega)
    have ih := rl_52 hRa hV hN hk j (by omega)
    rw [show (j : Int) + -1 = (j : Int) - 1 by omega]
    by_cases c : Y 2 0 0 (3258 + 24 * t) ≤ (j : Int)
    · rw [(h2 c).2, if_pos (by omega), zG9_e (by omega)]
      rw [zG9_e c] at ih
      exact ih
    · rw [(h1 (by omega)).2, (h1 (by omega)).1]
      rw [show 6 - j = (6 - (j + 1)) + 1 by omega, zG9_s c] at ih
      by_cases d : Y 2 0 0 (3264 + 24 * t + j) ≤ Y 2 0 0 0
      · rw [if_pos d]
        rw [if_pos d] at ih
        exact ih
      · rw [if_neg d]
        rw [if_neg d] at ih
        exact ih
theorem rr_52 {b t : Int} {Z Y : qz_Z} (hRa : zR b Z Y) (hV : zV Y) (hDt : zDt b Z Y) (t0 : 0 ≤ t) (t1 : t < 4) (ht : t < Y 2 0 0 3200) (ho : Y 2 0 0 (3252 + 24 * t) = 1) : zf_52 Z b b t = zf_521 Y t := by
  obtain ⟨h1, h2, h3⟩ := (hDt t t0 t1 ht).1 ho
  have g := rl_52 hRa hV h2 h3 5 (by omega)
  rw [zG9_e (show Y 2 0 0 (3258 + 24 * t) ≤ ((5 : Nat) : Int) by omega)] at g
  exact g
/-- no towns at all -/
theorem rr_1056z {b n b2 : Int} {Z Y : qz_Z} (hn : n ≠ b2) (h5 : Z 40 b 5 5 = 0) : (zf_1056 Z n b 0 b2).2.2 = 0 ∧ zf_511 Y 0 1 0 0 25 = 0 ∧ (∀ (k : Nat) (c i j : Int), k ≠ 200 → (zf_1056 Z n b 0 b2).1 k c i j = Z k c i j) ∧ (∀ (k : Nat) (c i j : Int), k ≠ 95 → k ≠ 96 → ¬ (k = 1 ∧ (j = 24 ∨ j = 25)) → zf_511 Y 0 k c i j = Y k c i j) := by
  have fz0 : ∀ (k : Nat) (c i j : Int), ¬ (k = 200 ∧ (c = n ∨ c = b2)) → zzi Z n k c i j = Z k c i j := fun k c i j q => if_neg (fun r => q ⟨r.1, .inl r.2⟩)
  have fy0 : ∀ (k : Nat) (c i j : Int), k ≠ 95 → k ≠ 96 → ¬ (k = 1 ∧ (j = 24 ∨ j = 25)) → zu Y 1 0 0 24 0 k c i j = Y k c i j := fun k c i j _ _ q => zu_ne rfl (fun r => q ⟨r.1, .inl r.2.2.2⟩)
  obtain ⟨p1, p2, p3, p4, p5⟩ := rl_1056_1 (b := b) (n := n) (b2 := b2) (a := 0) hn (Z0 := Z) (Y0 := Y) 6 (zzi Z n) (zu Y 1 0 0 24 0) 0 0 (by omega) (by omega) (by omega) (by omega) (zu_at rfl) (fun k k0 k1 => by omega) (fun j j0 j1 => by omega) fz0 fy0
  obtain ⟨c1, c2, _, _, _⟩ := rl_1056_1 (b := b) (n := n) (b2 := b2) (a := 0) hn (Z0 := Z) (Y0 := zt0) 6 (zzi Z n) zt0 0 0 (by omega) (by omega) (by omega) (by omega) rfl (fun k k0 k1 => by omega) (fun j j0 j1 => by omega) fz0 (fun _ _ _ _ _ _ _ => rfl)
  have c3 : (zl_511_1 0 6 zt0 0).1 1 0 0 24 = 0 := by decide +kernel
  rw [c3] at c1
  unfold zf_1056 zf_511
  simp only [zlet, zlet2, zlet3, zlet4]
  generalize zl_1056_1 b b2 n 0 6 (zzi Z n) 0 0 = C at p1 p2 p3 p4 c1 c2 ⊢
  generalize (zl_511_1 0 6 (zu Y 1 0 0 24 0) 0).1 = Y3 at p1 p2 p5 ⊢
  rw [← c1] at p1 ⊢
  obtain ⟨Z7, N, y6⟩ := C
  have d : Z7 40 b 5 5 = 0 := (p4 _ _ _ _ (fun q => absurd q.1 (by decide))).trans h5
  have k0 : zf_47 Z7 b n 0 = 0 := by
    unfold zf_47
    rw [zl_47_1, if_pos (by omega), zlet3, d]
    rfl
  have kp : zpy Z7 200 n 0 200 b2 0 0 0 = Z7 := by
    funext k c i j
    exact if_neg (fun q => by have := q.2.2.2.2; have := q.2.2.2.1; omega)
  have k7 : zf_1070 Z7 n 0 = (Z7, 0) := by
    unfold zf_1070
    rw [zl_1070_1, if_pos (by omega), zlet, if_neg (by omega)]
  have e1 : zl_1056_2 b b2 n 0 121 Z7 (-1) 1 0 = (Z7, 0, 0, 1) := by
    rw [zl_1056_2, if_neg (by omega), if_neg (by omega), zlet, if_pos rfl, kp, zlet, k7, zlet2, k0]
    rw [zl_1056_2, if_neg (by omega), if_pos rfl]
    rfl
  have y24 : zu Y3 1 0 0 25 (-1) 1 0 0 24 = 0 := (zu_ne rfl (fun q => absurd q.2.2.2 (by decide))).trans p1
  have e2 : (zl_511_4 3126 (zu Y3 1 0 0 25 (-1)) 1).1 = zu (zu Y3 1 0 0 25 (-1)) 1 0 0 25 0 := by
    have v : zf_514 (zu Y3 1 0 0 25 (-1)) = 0 := by
      unfold zf_514
      rw [zlet3, y24, if_neg (by omega)]
    have u24 : zu (zu Y3 1 0 0 25 (-1)) 1 0 0 25 0 1 0 0 24 = 0 := (zu_ne rfl (fun q => absurd q.2.2.2 (by decide))).trans y24
    have v2 : zl_511_2 6 (zu (zu Y3 1 0 0 25 (-1)) 1 0 0 25 0) 0 = (zu (zu Y3 1 0 0 25 (-1)) 1 0 0 25 0, 0) := by
      rw [zl_511_2, u24, if_pos (by omega)]
    have v3 : zf_522 (zu (zu Y3 1 0 0 25 (-1)) 1 0 0 25 0) = (zu (zu Y3 1 0 0 25 (-1)) 1 0 0 25 0, 0) := by
      unfold zf_522
      rw [u24, zl_522_1, if_pos (by omega), zlet, if_neg (by omega)]
    rw [zl_511_4, if_neg (by omega), zlet, v, if_pos (zu_at rfl), zlet, v2, zlet2, v3, zlet2, zl_511_4, if_pos rfl]
  refine ⟨?_, ?_, fun k c i j q => ?_, fun k c i j q1 q2 q3 => ?_⟩
  · show (zl_1056_2 b b2 n 0 121 Z7 (-1) 1 0).2.1 = 0
    rw [e1]
  · rw [e2]
    exact zu_at rfl
  · show (zl_1056_2 b b2 n 0 121 Z7 (-1) 1 0).1 k c i j = _
    rw [e1]
    exact p4 k c i j (fun r => q r.1)
  · rw [e2, zu_ne rfl (fun r => q3 ⟨r.1, .inr r.2.2.2⟩), zu_ne rfl (fun r => q3 ⟨r.1, .inr r.2.2.2⟩)]
    exact p5 k c i j q1 q2 q3
