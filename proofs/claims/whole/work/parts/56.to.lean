/-! the lot of a pallet is found -/
/-- a pallet is in one lot alone -/
def zN5 (Y : qz_Z) : Prop := ∀ c p c' p' : Int, 0 ≤ c → c < 2 → 0 ≤ c' → c' < 2 → 0 ≤ p → p < 12 → 0 ≤ p' → p' < 12 → c < Y 2 0 0 3000 → c' < Y 2 0 0 3000 → p < Y 2 0 0 (3015 + 60 * c) → p' < Y 2 0 0 (3015 + 60 * c') → Y 2 0 0 (3022 + 60 * c + 3 * p) = Y 2 0 0 (3022 + 60 * c' + 3 * p') → c = c' ∧ p = p'
/-- where the lot of a pallet stands -/
def zAt (Y : qz_Z) (q c t : Int) : Prop := 0 ≤ c ∧ c < 2 ∧ c < Y 2 0 0 3000 ∧ 0 ≤ t ∧ t < 12 ∧ t < Y 2 0 0 (3015 + 60 * c) ∧ Y 2 0 0 (3022 + 60 * c + 3 * t) = q
theorem z306_n {c q : Int} {Y : qz_Z} : ∀ (m : Nat) (x3 x4 : Int), Y 2 0 0 (3015 + 60 * c) - x4 < (m : Int) → (∀ u : Int, x4 ≤ u → u < Y 2 0 0 (3015 + 60 * c) → Y 2 0 0 (3022 + 60 * c + 3 * u) ≠ q) → (zl_306_1 c q m Y x3 x4).1 = x3 := by
  intro m
  induction m with
  | zero =>
    intro x3 x4 _ _
    rfl
  | succ m ih =>
    intro x3 x4 h hn
    unfold zl_306_1
    by_cases g : Y 2 0 0 (3015 + 60 * c) ≤ x4
    · rw [if_pos g]
    · rw [if_neg g, if_pos (hn x4 (by omega) (by omega))]
      exact ih _ _ (by omega) (fun u h1 h2 => hn u (by omega) h2)
theorem z306_t {c q t : Int} {Y : qz_Z} (h3 : Y 2 0 0 (3022 + 60 * c + 3 * t) = q) (ht : t < Y 2 0 0 (3015 + 60 * c)) : ∀ (m : Nat) (x3 x4 : Int), Y 2 0 0 (3015 + 60 * c) - x4 < (m : Int) → x4 ≤ t → (∀ u : Int, x4 ≤ u → u < Y 2 0 0 (3015 + 60 * c) → Y 2 0 0 (3022 + 60 * c + 3 * u) = q → u = t) → (zl_306_1 c q m Y x3 x4).1 = t := by
  intro m
  induction m with
  | zero => intros; omega
  | succ m ih =>
    intro x3 x4 h h4 hu
    unfold zl_306_1
    rw [if_neg (by omega)]
    by_cases g : Y 2 0 0 (3022 + 60 * c + 3 * x4) = q
    · rw [if_neg (fun e => e g)]
      have e := hu x4 (by omega) (by omega) g
      rw [z306_n m _ _ (by omega) (fun u h1 h2 h5 => by
        have := hu u (by omega) h2 h5
        omega)]
      exact e
    · rw [if_pos g]
      exact ih _ _ (by omega) (by
        by_cases e : x4 = t
        · subst e
          exact absurd h3 g
        · omega) (fun u h1 h2 h5 => hu u (by omega) h2 h5)
/-- the reference finds it -/
theorem zAt_m {Y : qz_Z} {q c t : Int} (hV : zV Y) (hN : zN5 Y) (h : zAt Y q c t) : zf_306 Y c q = t ∧ (∀ c' : Int, 0 ≤ c' → c' < Y 2 0 0 3000 → c' ≠ c → zf_306 Y c' q = -1) ∧ zf_305 Y q = c := by
  obtain ⟨h0, h1, h2, h3, h4, h5, h6⟩ := h
  have r3 := zVr_11_7 (a := 3000) hV rfl
  have rl : ∀ c' : Int, 0 ≤ c' → c' < 2 → 0 ≤ Y 2 0 0 (3015 + 60 * c') ∧ Y 2 0 0 (3015 + 60 * c') ≤ 12 := fun c' a b => zVr_48_5 (x := c') hV a b rfl
  have rc := rl c h0 h1
  have e1 : zf_306 Y c q = t := by
    unfold zf_306
    show (zl_306_1 c q 13 Y (-1) 0).1 = t
    exact z306_t h6 h5 13 (-1) 0 (by omega) h3 (fun u a b g => (hN c u c t h0 h1 h0 h1 a (by omega) h3 h4 h2 h2 b h5 (by rw [g, h6])).2)
  have e2 : ∀ c' : Int, 0 ≤ c' → c' < Y 2 0 0 3000 → c' ≠ c → zf_306 Y c' q = -1 := fun c' a b ne => by
    have r' := rl c' a (by omega)
    unfold zf_306
    show (zl_306_1 c' q 13 Y (-1) 0).1 = -1
    exact z306_n 13 (-1) 0 (by omega) (fun u g1 g2 g3 => ne (hN c' u c t a (by omega) h0 h1 g1 (by omega) h3 h4 b h2 g2 h5 (by rw [g3, h6])).1)
  refine ⟨e1, e2, ?_⟩
  unfold zf_305
  show (zl_305_1 q 3 Y (-1) 0).1 = c
  have st : ∀ (m : Nat) (x2 x3 : Int), zl_305_1 q (m + 1) Y x2 x3 = if Y 2 0 0 3000 ≤ x3 then (x2, x3) else (if zf_306 Y x3 q ≠ -1 then zl_305_1 q m Y x3 (x3 + 1) else zl_305_1 q m Y x2 (x3 + 1)) := fun m x2 x3 => rfl
  have hc : c = 0 ∨ c = 1 := by omega
  rcases hc with rfl | rfl
  · rw [st, if_neg (by omega), e1, if_pos (by omega), st]
    by_cases g : Y 2 0 0 3000 ≤ 0 + 1
    · rw [if_pos g]
    · rw [if_neg g, e2 (0 + 1) (by omega) (by omega) (by omega), if_neg (by omega), st, if_pos (by omega)]
  · rw [st, if_neg (by omega), e2 0 (by omega) (by omega) (by omega), if_neg (by omega), st, if_neg (by omega), show (0 : Int) + 1 = 1 from rfl, e1, if_pos (by omega), st, if_pos (by omega)]
theorem z76_n {b c q : Int} {Z : qz_Z} : ∀ (m : Nat) (x3 : Int), Z 48 b c 5 - x3 < (m : Int) → (∀ u : Int, x3 ≤ u → u < Z 48 b c 5 → Z 49 b (12 * c + u) 0 ≠ q) → ∃ y : Int, zl_76_1 b q c m Z x3 = .inl (Z, y) := by
  intro m
  induction m with
  | zero =>
    intro x3 _ _
    exact ⟨x3, rfl⟩
  | succ m ih =>
    intro x3 h hn
    unfold zl_76_1
    by_cases g : Z 48 b c 5 ≤ x3
    · rw [if_pos g]
      exact ⟨x3, rfl⟩
    · rw [if_neg g, if_pos (hn x3 (by omega) (by omega))]
      exact ih _ (by omega) (fun u h1 h2 => hn u (by omega) h2)
theorem z76_t {b c q t : Int} {Z : qz_Z} (h3 : Z 49 b (12 * c + t) 0 = q) (ht : t < Z 48 b c 5) : ∀ (m : Nat) (x3 : Int), Z 48 b c 5 - x3 < (m : Int) → x3 ≤ t → (∀ u : Int, x3 ≤ u → u < Z 48 b c 5 → Z 49 b (12 * c + u) 0 = q → u = t) → zl_76_1 b q c m Z x3 = .inr (zf_69 (zu Z 44 b q 10 0) b c t, (zf_69 (zu Z 44 b q 10 0) b c t) 48 b c 5) := by
  intro m
  induction m with
  | zero => intros; omega
  | succ m ih =>
    intro x3 h h4 hu
    unfold zl_76_1
    rw [if_neg (by omega)]
    by_cases g : Z 49 b (12 * c + x3) 0 = q
    · rw [if_neg (fun e => e g)]
      have e := hu x3 (by omega) (by omega) g
      rw [e]
      rfl
    · rw [if_pos g]
      exact ih _ (by omega) (by
        by_cases e : x3 = t
        · subst e
          exact absurd h3 g
        · omega) (fun u h1 h2 h5 => hu u (by omega) h2 h5)
/-- the class finds it and takes it out -/
theorem zAt_c {Z Y : qz_Z} {b q c t : Int} (hR : zR b Z Y) (hV : zV Y) (hDl : zDl b Z Y) (hN : zN5 Y) (h : zAt Y q c t) : zf_76 Z b q = (zf_69 (zu Z 44 b q 10 0) b c t, (zf_69 (zu Z 44 b q 10 0) b c t) 48 b c 5) := by
  obtain ⟨h0, h1, h2, h3, h4, h5, h6⟩ := h
  have r3 := zVr_11_7 (a := 3000) hV rfl
  have k3 := zRl_11_7 (a := 3000) hR rfl
  have rl : ∀ c' : Int, 0 ≤ c' → c' < 2 → Z 48 b c' 5 = Y 2 0 0 (3015 + 60 * c') ∧ 0 ≤ Y 2 0 0 (3015 + 60 * c') ∧ Y 2 0 0 (3015 + 60 * c') ≤ 12 := fun c' a g => ⟨zRl_48_5 (x := c') hR a g rfl, zVr_48_5 (x := c') hV a g rfl⟩
  have lt : ∀ c' u : Int, 0 ≤ c' → c' < 2 → 0 ≤ u → u < Z 48 b c' 5 → Z 49 b (12 * c' + u) 0 = Y 2 0 0 (3022 + 60 * c' + 3 * u) := fun c' u a g u0 u1 => by
    have := rl c' a g
    exact (hDl c' u a g u0 (by omega) (by omega)).1
  have rc := rl c h0 h1
  have no : ∀ c' : Int, 0 ≤ c' → c' < Y 2 0 0 3000 → c' ≠ c → ∃ y : Int, zl_76_1 b q c' 13 Z 0 = .inl (Z, y) := fun c' a g ne => by
    have r' := rl c' a (by omega)
    exact z76_n 13 0 (by omega) (fun u g1 g2 g3 => by
      rw [lt c' u a (by omega) g1 g2] at g3
      exact ne (hN c' u c t a (by omega) h0 h1 g1 (by omega) h3 h4 g h2 (by omega) h5 (by rw [g3, h6])).1)
  have ye : zl_76_1 b q c 13 Z 0 = .inr (zf_69 (zu Z 44 b q 10 0) b c t, (zf_69 (zu Z 44 b q 10 0) b c t) 48 b c 5) :=
    z76_t (by rw [lt c t h0 h1 h3 (by omega), h6]) (by omega) 13 0 (by omega) h3 (fun u g1 g2 g3 => by
      rw [lt c u h0 h1 g1 g2] at g3
      exact (hN c u c t h0 h1 h0 h1 g1 (by omega) h3 h4 h2 h2 (by omega) h5 (by rw [g3, h6])).2)
  have st : ∀ (m : Nat) (x2 : Int), zl_76_3 b q (m + 1) Z x2 = if Z 11 b 0 7 ≤ x2 then .inl (Z, x2) else zsum (zl_76_1 b q x2 13 Z 0) (fun r => zlet2 r (fun Z4 y3 => zl_76_3 b q m Z4 (x2 + 1))) (fun r => .inr r) := fun m x2 => rfl
  unfold zf_76
  have hc : c = 0 ∨ c = 1 := by omega
  rcases hc with rfl | rfl
  · rw [st, if_neg (by omega), ye]
    rfl
  · obtain ⟨y, e0⟩ := no 0 (by omega) (by omega) (by omega)
    rw [st, if_neg (by omega), e0]
    show zsum (zl_76_3 b q 2 Z (0 + 1)) _ _ = _
    rw [st, if_neg (by omega), show (0 : Int) + 1 = 1 from rfl, ye]
    rfl
