/-! a lot that goes from its row -/
theorem z69a {b x1 x3 x4 : Int} : ∀ (m : Nat) (Z : qz_Z) (x5 : Int), 0 ≤ x5 → x5 ≤ 3 → 3 - x5 < (m : Int) → ∀ (k : Nat) (c i j : Int), (zl_69_1 b x1 x3 x4 m Z x5).1 k c i j = if k = 49 ∧ c = b ∧ i = x4 ∧ x5 ≤ j ∧ j < 3 then Z 49 b (1 + x4) j else Z k c i j := by
  intro m
  induction m with
  | zero => intros; omega
  | succ m ih =>
    intro Z x5 h0 h1 h2 k c i j
    unfold zl_69_1
    by_cases q : 3 ≤ x5
    · rw [if_pos q, if_neg (fun g => by omega)]
    · rw [if_neg q]
      show (zl_69_1 b x1 x3 x4 m (zu Z 49 b x4 x5 (Z 49 b (1 + x4) x5)) (x5 + 1)).1 k c i j = _
      rw [ih _ _ (by omega) (by omega) (by omega)]
      by_cases g : k = 49 ∧ c = b ∧ i = x4 ∧ x5 + 1 ≤ j ∧ j < 3
      · rw [if_pos g, if_pos ⟨g.1, g.2.1, g.2.2.1, by omega, g.2.2.2.2⟩, zu_ne rfl (fun p => by omega)]
      · rw [if_neg g]
        by_cases g2 : k = 49 ∧ c = b ∧ i = x4 ∧ j = x5
        · obtain ⟨rfl, rfl, rfl, rfl⟩ := g2
          rw [zu_at rfl, if_pos ⟨rfl, rfl, rfl, by omega, by omega⟩]
        · rw [zu_ne rfl g2, if_neg (fun p => by
            by_cases e : j = x5
            · exact g2 ⟨p.1, p.2.1, p.2.2.1, e⟩
            · exact g ⟨p.1, p.2.1, p.2.2.1, by omega, p.2.2.2.2⟩)]
theorem z69b {b x1 x3 : Int} : ∀ (m : Nat) (Z : qz_Z) (x4 : Int), x4 ≤ x1 * 12 + x3 → x1 * 12 + x3 - x4 < (m : Int) → ∀ (k : Nat) (c i j : Int), (zl_69_3 b x1 x3 m Z x4).1 k c i j = if k = 49 ∧ c = b ∧ (x4 ≤ i ∧ i < x1 * 12 + x3) ∧ 0 ≤ j ∧ j < 3 then Z 49 b (i + 1) j else Z k c i j := by
  intro m
  induction m with
  | zero => intros; omega
  | succ m ih =>
    intro Z x4 h0 h2 k c i j
    unfold zl_69_3
    by_cases q : x1 * 12 + x3 ≤ x4
    · rw [if_pos q, if_neg (fun g => by omega)]
    · rw [if_neg q]
      show (zl_69_3 b x1 x3 m (zl_69_1 b x1 x3 x4 4 Z 0).1 (x4 + 1)).1 k c i j = _
      rw [ih _ _ (by omega) (by omega)]
      by_cases g : k = 49 ∧ c = b ∧ (x4 + 1 ≤ i ∧ i < x1 * 12 + x3) ∧ 0 ≤ j ∧ j < 3
      · rw [if_pos g, if_pos ⟨g.1, g.2.1, ⟨by omega, by omega⟩, g.2.2.2⟩, z69a 4 Z 0 (by omega) (by omega) (by omega), if_neg (fun p => by omega)]
      · rw [if_neg g, z69a 4 Z 0 (by omega) (by omega) (by omega)]
        by_cases g2 : k = 49 ∧ c = b ∧ i = x4 ∧ 0 ≤ j ∧ j < 3
        · rw [if_pos g2, if_pos ⟨g2.1, g2.2.1, ⟨by omega, by omega⟩, g2.2.2.2⟩, show i + 1 = 1 + x4 by omega]
        · rw [if_neg g2, if_neg (fun p => by
            by_cases e : i = x4
            · exact g2 ⟨p.1, p.2.1, e, p.2.2.2⟩
            · exact g ⟨p.1, p.2.1, ⟨by omega, by omega⟩, p.2.2.2⟩)]
/-- the class's row behind a lot that goes -/
theorem z69 {Z : qz_Z} {b c t : Int} (h0 : 0 ≤ c) (h1 : c ≤ 1) (h2 : 0 ≤ t) (h3 : t < Z 48 b c 5) (h4 : Z 48 b c 5 ≤ 12) (k : Nat) (e i j : Int) : zf_69 Z b c t k e i j = if k = 48 ∧ e = b ∧ i = c ∧ j = 5 then Z 48 b c 5 - 1 else if k = 49 ∧ e = b ∧ (12 * c + t ≤ i ∧ i < 12 * c + (Z 48 b c 5 - 1)) ∧ 0 ≤ j ∧ j < 3 then Z 49 b (i + 1) j else Z k e i j := by
  unfold zf_69
  show zu (zl_69_3 b c (Z 48 b c 5 - 1) ((23 - (c * 12 + t)).toNat + 1) Z (c * 12 + t)).1 48 b c 5 (Z 48 b c 5 - 1) k e i j = _
  by_cases q : k = 48 ∧ e = b ∧ i = c ∧ j = 5
  · rw [if_pos q]
    obtain ⟨rfl, rfl, rfl, rfl⟩ := q
    exact zu_at rfl
  · rw [if_neg q, zu_ne rfl q, z69b _ Z _ (by omega) (by omega)]
    by_cases g : k = 49 ∧ e = b ∧ (c * 12 + t ≤ i ∧ i < c * 12 + (Z 48 b c 5 - 1)) ∧ 0 ≤ j ∧ j < 3
    · rw [if_pos g, if_pos ⟨g.1, g.2.1, ⟨by omega, by omega⟩, g.2.2.2⟩]
    · rw [if_neg g, if_neg (fun p => g ⟨p.1, p.2.1, ⟨by omega, by omega⟩, p.2.2.2⟩)]
/-- the reference's row behind it -/
theorem z312 {Y : qz_Z} {c t : Int} (k : Nat) (e i j : Int) : zf_312 Y c t k e i j = if k = 2 ∧ e = 0 ∧ i = 0 ∧ 3022 + 60 * c + 3 * (Y 2 0 0 (3015 + 60 * c) - 1) ≤ j ∧ j < 3022 + 60 * c + 3 * (Y 2 0 0 (3015 + 60 * c) - 1) + 3 then 0 else if k = 2 ∧ e = 0 ∧ i = 0 ∧ 3022 + 60 * c + 3 * t ≤ j ∧ j < 3022 + 60 * c + 3 * t + 3 * (Y 2 0 0 (3015 + 60 * c) - 1 - t) then zu Y 2 0 0 (3015 + 60 * c) (Y 2 0 0 (3015 + 60 * c) - 1) 2 0 0 (j + 3) else zu Y 2 0 0 (3015 + 60 * c) (Y 2 0 0 (3015 + 60 * c) - 1) k e i j := rfl
/-- the lot at place t of clock c goes on both sides -/
theorem rr_69 {b c t : Int} {Z Y : qz_Z} (hR : zR b Z Y) (hV : zV Y) (hDl : zDl b Z Y) (h0 : 0 ≤ c) (h1 : c < 2) (h2 : 0 ≤ t) (h3 : t < Y 2 0 0 (3015 + 60 * c)) : zR b (zf_69 Z b c t) (zf_312 Y c t) ∧ zV (zf_312 Y c t) ∧ zDl b (zf_69 Z b c t) (zf_312 Y c t) ∧ zFc [4805, 4900] b Z (zf_69 Z b c t) ∧ yFr [4805, 10050, 10051, 10052] Y (zf_312 Y c t) := by
  have e := zRl_48_5 (x := c) (a := 3015 + 60 * c) hR h0 h1 rfl
  have r := zVr_48_5 (x := c) (a := 3015 + 60 * c) hV h0 h1 rfl
  have zc := z69 (Z := Z) (b := b) h0 (by omega) h2 (by omega) (by omega)
  have yc := z312 (Y := Y) (c := c) (t := t)
  have fr : yFr [4805, 10050, 10051, 10052] Y (zf_312 Y c t) := by
    have lots : ∀ a : Int, 3022 + 60 * c ≤ a → a < 3022 + 60 * c + 36 → ([4805, 10050, 10051, 10052] : List Nat).contains (zcm a) = true := fun a g0 g1 => by
      have w : (a - 3022 - 60 * c) % 3 = 0 ∨ (a - 3022 - 60 * c) % 3 = 1 ∨ (a - 3022 - 60 * c) % 3 = 2 := by omega
      rcases w with w | w | w
      · rw [zcm_lot0 (c := c) (p := (a - 3022 - 60 * c) / 3) h0 h1 (by omega) (by omega) (by omega)]
        rfl
      · rw [zcm_lot1 (c := c) (p := (a - 3022 - 60 * c) / 3) h0 h1 (by omega) (by omega) (by omega)]
        rfl
      · rw [zcm_lot2 (c := c) (p := (a - 3022 - 60 * c) / 3) h0 h1 (by omega) (by omega) (by omega)]
        rfl
    refine ⟨fun a hL => ?_, fun _ => ?_, fun k b' i j hk => ?_⟩
    · rw [yc, if_neg (fun q => by rw [lots a (by omega) (by omega)] at hL; cases hL), if_neg (fun q => by rw [lots a (by omega) (by omega)] at hL; cases hL)]
      refine zu_ne rfl (fun q => ?_)
      rw [q.2.2.2, zcm_s (ac_48_5 (x := c) h0 h1 rfl)] at hL
      cases hL
    · rw [yc, if_neg (fun q => absurd q.1 (by decide)), if_neg (fun q => absurd q.1 (by decide))]
      exact zu_ne rfl (fun q => absurd q.1 (by decide))
    · rw [yc, if_neg (fun q => by rw [q.1] at hk; cases hk), if_neg (fun q => by rw [q.1] at hk; cases hk)]
      exact zu_ne rfl (fun q => by rw [q.1] at hk; cases hk)
  have fc : zFc [4805, 4900] b Z (zf_69 Z b c t) := by
    refine ⟨fun k i j hk hL => ?_, fun k c' i j hh => ?_⟩
    · rw [zc, if_neg (fun q => by rw [q.1, q.2.2.2] at hL; cases hL), if_neg (fun q => by rw [q.1] at hL; cases hL)]
    · rw [zc, if_neg (fun q => by
        rcases hh with hh | hh
        · exact hh.2 q.2.1
        · rw [q.1] at hh
          cases hh), if_neg (fun q => by
        rcases hh with hh | hh
        · exact hh.2 q.2.1
        · rw [q.1] at hh
          cases hh)]
  have nl : ∀ k i j a, adr k i j = some a → ¬ (3022 + 60 * c ≤ a ∧ a < 3022 + 60 * c + 36) := fun k i j a ea q => by
    have h5 := adr_inv ea
    rw [adm_lot (c := c) (p := (a - 3022 - 60 * c) / 3) (w := (a - 3022 - 60 * c) % 3) h0 h1 (by omega) (by omega) (by omega) (by omega) (by omega)] at h5
    cases h5
  refine ⟨fun k i j a ea => ?_, fun a lo hi ea => ?_, fun c' p g0 g1 g2 g3 g4 => ?_, fc, fr⟩
  · have n := nl k i j a ea
    rw [yc, if_neg (fun q => n (by omega)), if_neg (fun q => n (by omega)), zc]
    by_cases q : k = 48 ∧ b = b ∧ i = c ∧ j = 5
    · obtain ⟨rfl, -, rfl, rfl⟩ := q
      rw [if_pos ⟨rfl, rfl, rfl, rfl⟩]
      rw [ac_48_5 (x := i) h0 h1 rfl] at ea
      cases ea
      rw [zu_at rfl, e]
    · rw [if_neg q, if_neg (fun g => by rw [g.1] at ea; cases ea), zu_ne rfl (fun g => q ?_)]
      · exact hR k i j a ea
      · have h5 := adr_inv ea
        have h6 := adr_inv (ac_48_5 (x := c) h0 h1 rfl)
        rw [g.2.2.2, h6] at h5
        cases h5
        exact ⟨rfl, rfl, rfl, rfl⟩
  · by_cases q : a = 3015 + 60 * c
    · subst q
      rw [zvi_48_5 (x := c) h0 h1 rfl] at ea
      cases ea
      rw [yc, if_neg (fun q => by omega), if_neg (fun q => by omega), zu_at rfl]
      omega
    · rw [yc]
      by_cases g : (2 : Nat) = 2 ∧ (0 : Int) = 0 ∧ (0 : Int) = 0 ∧ 3022 + 60 * c + 3 * (Y 2 0 0 (3015 + 60 * c) - 1) ≤ a ∧ a < 3022 + 60 * c + 3 * (Y 2 0 0 (3015 + 60 * c) - 1) + 3
      · rw [if_pos g]
        have w : (a - 3022 - 60 * c) % 3 = 0 ∨ (a - 3022 - 60 * c) % 3 = 1 ∨ (a - 3022 - 60 * c) % 3 = 2 := by omega
        rcases w with w | w | w
        · rw [zvi_lot (c := c) (p := (a - 3022 - 60 * c) / 3) h0 h1 (by omega) (by omega) (by omega)] at ea
          cases ea
          omega
        · rw [zvn_lot1 (c := c) (p := (a - 3022 - 60 * c) / 3) h0 h1 (by omega) (by omega) (by omega)] at ea
          cases ea
        · rw [zvn_lot2 (c := c) (p := (a - 3022 - 60 * c) / 3) h0 h1 (by omega) (by omega) (by omega)] at ea
          cases ea
      · rw [if_neg g]
        by_cases g2 : (2 : Nat) = 2 ∧ (0 : Int) = 0 ∧ (0 : Int) = 0 ∧ 3022 + 60 * c + 3 * t ≤ a ∧ a < 3022 + 60 * c + 3 * t + 3 * (Y 2 0 0 (3015 + 60 * c) - 1 - t)
        · rw [if_pos g2, zu_ne rfl (fun q => by omega)]
          have w : (a - 3022 - 60 * c) % 3 = 0 ∨ (a - 3022 - 60 * c) % 3 = 1 ∨ (a - 3022 - 60 * c) % 3 = 2 := by omega
          rcases w with w | w | w
          · rw [zvi_lot (c := c) (p := (a - 3022 - 60 * c) / 3) h0 h1 (by omega) (by omega) (by omega)] at ea
            cases ea
            exact zVr_lot (c := c) (p := (a - 3022 - 60 * c) / 3 + 1) hV h0 h1 (by omega) (by omega) (by omega)
          · rw [zvn_lot1 (c := c) (p := (a - 3022 - 60 * c) / 3) h0 h1 (by omega) (by omega) (by omega)] at ea
            cases ea
          · rw [zvn_lot2 (c := c) (p := (a - 3022 - 60 * c) / 3) h0 h1 (by omega) (by omega) (by omega)] at ea
            cases ea
        · rw [if_neg g2, zu_ne rfl (fun x => q x.2.2.2)]
          exact hV a lo hi ea
  · have y5 : zf_312 Y c t 2 0 0 (3015 + 60 * c') = if c' = c then Y 2 0 0 (3015 + 60 * c) - 1 else Y 2 0 0 (3015 + 60 * c') := by
      rw [yc, if_neg (fun q => by omega), if_neg (fun q => by omega)]
      by_cases q : c' = c
      · subst q
        rw [if_pos rfl, zu_at rfl]
      · rw [if_neg q, zu_ne rfl (fun x => by omega)]
    have cell : ∀ w : Int, 0 ≤ w → w < 3 → (∀ c1 p1 : Int, 0 ≤ c1 → c1 < 2 → 0 ≤ p1 → p1 < 12 → p1 < Y 2 0 0 (3015 + 60 * c1) → Z 49 b (12 * c1 + p1) w = Y 2 0 0 (3022 + w + 60 * c1 + 3 * p1)) → zf_69 Z b c t 49 b (12 * c' + p) w = zf_312 Y c t 2 0 0 (3022 + w + 60 * c' + 3 * p) := fun w w0 w1 hw => by
      rw [zc, if_neg (fun q => absurd q.1 (by decide)), yc]
      rw [y5] at g4
      by_cases q : c' = c
      · subst q
        rw [if_pos rfl] at g4
        rw [if_neg (c := (2 : Nat) = 2 ∧ (0 : Int) = 0 ∧ (0 : Int) = 0 ∧ 3022 + 60 * c' + 3 * (Y 2 0 0 (3015 + 60 * c') - 1) ≤ 3022 + w + 60 * c' + 3 * p ∧ _) (fun q => by omega)]
        by_cases g : t ≤ p
        · rw [if_pos ⟨rfl, rfl, ⟨by omega, by omega⟩, w0, w1⟩, if_pos ⟨rfl, rfl, rfl, by omega, by omega⟩, zu_ne rfl (fun q => by omega), show 12 * c' + p + 1 = 12 * c' + (p + 1) by omega, show 3022 + w + 60 * c' + 3 * p + 3 = 3022 + w + 60 * c' + 3 * (p + 1) by omega]
          exact hw c' (p + 1) g0 g1 (by omega) (by omega) (by omega)
        · rw [if_neg (fun q => by omega), if_neg (fun q => by omega), zu_ne rfl (fun q => by omega)]
          exact hw c' p g0 g1 g2 g3 (by omega)
      · rw [if_neg q] at g4
        rw [if_neg (fun x => by omega), if_neg (fun x => by omega), if_neg (fun x => by omega), zu_ne rfl (fun x => by omega)]
        exact hw c' p g0 g1 g2 g3 g4
    have d := fun c1 p1 a0 a1 a2 a3 a4 => hDl c1 p1 a0 a1 a2 a3 a4
    refine ⟨?_, ?_, ?_⟩
    · have := cell 0 (by omega) (by omega) (fun c1 p1 a0 a1 a2 a3 a4 => (d c1 p1 a0 a1 a2 a3 a4).1)
      exact this
    · have := cell 1 (by omega) (by omega) (fun c1 p1 a0 a1 a2 a3 a4 => (d c1 p1 a0 a1 a2 a3 a4).2.1)
      exact this
    · have := cell 2 (by omega) (by omega) (fun c1 p1 a0 a1 a2 a3 a4 => (d c1 p1 a0 a1 a2 a3 a4).2.2)
      exact this
