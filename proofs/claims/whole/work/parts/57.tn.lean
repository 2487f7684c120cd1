/-! lots: what binds them to pallets -/
theorem z312_lot {Y : qz_Z} {c t c' p : Int} (h0 : 0 ≤ c) (h1 : c < 2) (h2 : 0 ≤ t) (g0 : 0 ≤ c') (g1 : c' < 2) (g2 : 0 ≤ p) (g3 : p < 12) (g4 : c' = c → p < Y 2 0 0 (3015 + 60 * c) - 1) (h5 : 0 < Y 2 0 0 (3015 + 60 * c) ∧ Y 2 0 0 (3015 + 60 * c) ≤ 12) : zf_312 Y c t 2 0 0 (3022 + 60 * c' + 3 * p) = Y 2 0 0 (3022 + 60 * c' + 3 * (if c' = c ∧ t ≤ p then p + 1 else p)) := by
  rw [z312]
  by_cases q : c' = c
  · have g5 := g4 q
    subst q
    rw [if_neg (fun q => by omega)]
    by_cases g : t ≤ p
    · rw [if_pos ⟨rfl, rfl, rfl, by omega, by omega⟩, if_pos ⟨rfl, g⟩, zu_ne rfl (fun q => by omega), show 3022 + 60 * c' + 3 * p + 3 = 3022 + 60 * c' + 3 * (p + 1) by omega]
    · rw [if_neg (fun q => by omega), if_neg (fun q => g q.2), zu_ne rfl (fun q => by omega)]
  · rw [if_neg (fun x => by omega), if_neg (fun x => by omega), if_neg (fun x => q x.1), zu_ne rfl (fun x => by omega)]
theorem z312_len {Y : qz_Z} {c t c' : Int} (h0 : 0 ≤ c) (h1 : c < 2) (h2 : 0 ≤ t) (g0 : 0 ≤ c') (g1 : c' < 2) (h5 : 0 < Y 2 0 0 (3015 + 60 * c) ∧ Y 2 0 0 (3015 + 60 * c) ≤ 12) : zf_312 Y c t 2 0 0 (3015 + 60 * c') = if c' = c then Y 2 0 0 (3015 + 60 * c) - 1 else Y 2 0 0 (3015 + 60 * c') := by
  rw [z312, if_neg (fun q => by omega), if_neg (fun q => by omega)]
  by_cases q : c' = c
  · subst q
    rw [if_pos rfl, zu_at rfl]
  · rw [if_neg q, zu_ne rfl (fun x => by omega)]
theorem z312_o {Y : qz_Z} {c t a : Int} (h0 : 0 ≤ c) (h1 : c < 2) (h2 : 0 ≤ t) (h5 : 0 < Y 2 0 0 (3015 + 60 * c) ∧ Y 2 0 0 (3015 + 60 * c) ≤ 12) (h6 : a < 3010 ∨ 3130 ≤ a) : zf_312 Y c t 2 0 0 a = Y 2 0 0 a := by
  rw [z312, if_neg (fun q => by omega), if_neg (fun q => by omega), zu_ne rfl (fun x => by omega)]
/-- each lot is of a pallet that is queued and has crates; each that is queued has a lot -/
def zN6 (Y : qz_Z) : Prop := ∀ c p : Int, 0 ≤ c → c < 2 → 0 ≤ p → p < 12 → c < Y 2 0 0 3000 → p < Y 2 0 0 (3015 + 60 * c) → Y 2 0 0 (210 + 20 * Y 2 0 0 (3022 + 60 * c + 3 * p)) = 1 ∧ 1 ≤ Y 2 0 0 (204 + 20 * Y 2 0 0 (3022 + 60 * c + 3 * p))
def zN7 (Y : qz_Z) : Prop := ∀ q : Int, 0 ≤ q → q < 48 → Y 2 0 0 (210 + 20 * q) = 1 → ∃ c t : Int, zAt Y q c t
def zNL (Y : qz_Z) : Prop := zN5 Y ∧ zN6 Y ∧ zN7 Y
theorem zNL_f {K : List Nat} {Y M : qz_Z} (h : zNL Y) (hV : zV Y) (g : yFa K Y M) (e : K.contains 4410 = false ∧ K.contains 4404 = false ∧ K.contains 4805 = false ∧ K.contains 1107 = false ∧ K.contains 10050 = false) : zNL M := by
  have a3 : M 2 0 0 3000 = Y 2 0 0 3000 := yFr_at 1107 g e.2.2.2.1 (zcm_s (ac_11_7 rfl))
  have al : ∀ c : Int, 0 ≤ c → c < 2 → M 2 0 0 (3015 + 60 * c) = Y 2 0 0 (3015 + 60 * c) := fun c h0 h1 => yFr_at 4805 g e.2.2.1 (zcm_s (ac_48_5 h0 h1 rfl))
  have at' : ∀ c p : Int, 0 ≤ c → c < 2 → 0 ≤ p → p < 12 → M 2 0 0 (3022 + 60 * c + 3 * p) = Y 2 0 0 (3022 + 60 * c + 3 * p) := fun c p h0 h1 h2 h3 => yFr_at 10050 g e.2.2.2.2 (zcm_lot0 h0 h1 h2 h3 rfl)
  have as : ∀ q : Int, 0 ≤ q → q < 48 → M 2 0 0 (210 + 20 * q) = Y 2 0 0 (210 + 20 * q) := fun q h0 h1 => yFr_at 4410 g e.1 (zcm_s (ac_44_10 h0 h1 rfl))
  have ac : ∀ q : Int, 0 ≤ q → q < 48 → M 2 0 0 (204 + 20 * q) = Y 2 0 0 (204 + 20 * q) := fun q h0 h1 => yFr_at 4404 g e.2.1 (zcm_s (ac_44_4 h0 h1 rfl))
  have rl : ∀ c p : Int, 0 ≤ c → c < 2 → 0 ≤ p → p < 12 → 0 ≤ Y 2 0 0 (3022 + 60 * c + 3 * p) ∧ Y 2 0 0 (3022 + 60 * c + 3 * p) ≤ 47 := fun c p h0 h1 h2 h3 => zVr_lot hV h0 h1 h2 h3 rfl
  refine ⟨fun c p c' p' h0 h1 g0 g1 h2 h3 g2 g3 h4 g4 h5 g5 h6 => ?_, fun c p h0 h1 h2 h3 h4 h5 => ?_, fun q h0 h1 h2 => ?_⟩
  · rw [a3] at h4 g4
    rw [al _ h0 h1] at h5
    rw [al _ g0 g1] at g5
    rw [at' c p h0 h1 h2 h3, at' c' p' g0 g1 g2 g3] at h6
    exact h.1 c p c' p' h0 h1 g0 g1 h2 h3 g2 g3 h4 g4 h5 g5 h6
  · rw [a3] at h4
    rw [al _ h0 h1] at h5
    have r := rl c p h0 h1 h2 h3
    rw [at' c p h0 h1 h2 h3, as _ r.1 (by omega), ac _ r.1 (by omega)]
    exact h.2.1 c p h0 h1 h2 h3 h4 h5
  · rw [as q h0 h1] at h2
    obtain ⟨c, t, i0, i1, i2, i3, i4, i5, i6⟩ := h.2.2 q h0 h1 h2
    exact ⟨c, t, i0, i1, by rw [a3]; exact i2, i3, i4, by rw [al _ i0 i1]; exact i5, by rw [at' c t i0 i1 i3 i4]; exact i6⟩
/-- the lot of a pallet goes, and the pallet is queued no more -/
theorem zNL_go {Y M : qz_Z} {q c t : Int} (h : zNL Y) (hV : zV Y) (ha : zAt Y q c t) (nm : ∀ a : Int, ¬ (a = 210 + 20 * q ∨ a = 204 + 20 * q ∨ a = 205 + 20 * q ∨ a = 206 + 20 * q) → M 2 0 0 a = zf_312 Y c t 2 0 0 a) (hv : M 2 0 0 (210 + 20 * q) ≠ 1) (q0 : 0 ≤ q) (q1 : q < 48) : zNL M := by
  obtain ⟨h0, h1, h2, h3, h4, h5, h6⟩ := ha
  have r := zVr_48_5 (x := c) hV h0 h1 rfl
  have a3 : M 2 0 0 3000 = Y 2 0 0 3000 := by rw [nm _ (by omega), z312_o h0 h1 h3 (by omega) (by omega)]
  have al : ∀ c' : Int, 0 ≤ c' → c' < 2 → M 2 0 0 (3015 + 60 * c') = if c' = c then Y 2 0 0 (3015 + 60 * c) - 1 else Y 2 0 0 (3015 + 60 * c') := fun c' g0 g1 => by rw [nm _ (by omega), z312_len h0 h1 h3 g0 g1 (by omega)]
  have at' : ∀ c' p : Int, 0 ≤ c' → c' < 2 → 0 ≤ p → p < 12 → p < M 2 0 0 (3015 + 60 * c') → ∃ p2 : Int, (p2 = if c' = c ∧ t ≤ p then p + 1 else p) ∧ p2 < 12 ∧ p2 < Y 2 0 0 (3015 + 60 * c') ∧ M 2 0 0 (3022 + 60 * c' + 3 * p) = Y 2 0 0 (3022 + 60 * c' + 3 * p2) := fun c' p g0 g1 g2 g3 g4 => by
    rw [al c' g0 g1] at g4
    refine ⟨_, rfl, ?_, ?_, ?_⟩
    · by_cases x : c' = c ∧ t ≤ p
      · rw [if_pos x]; rw [if_pos x.1] at g4; omega
      · rw [if_neg x]; exact g3
    · by_cases x : c' = c
      · subst x; rw [if_pos rfl] at g4
        by_cases y : t ≤ p
        · rw [if_pos ⟨rfl, y⟩]; omega
        · rw [if_neg (fun z => y z.2)]; omega
      · rw [if_neg x] at g4; rw [if_neg (fun z => x z.1)]; exact g4
    · rw [nm _ (by omega), z312_lot h0 h1 h3 g0 g1 g2 g3 (fun x => by rw [if_pos x] at g4; exact g4) (by omega)]
  have as : ∀ p : Int, 0 ≤ p → p < 48 → p ≠ q → M 2 0 0 (210 + 20 * p) = Y 2 0 0 (210 + 20 * p) := fun p g0 g1 g2 => by rw [nm _ (by omega), z312_o h0 h1 h3 (by omega) (by omega)]
  have ac : ∀ p : Int, 0 ≤ p → p < 48 → p ≠ q → M 2 0 0 (204 + 20 * p) = Y 2 0 0 (204 + 20 * p) := fun p g0 g1 g2 => by rw [nm _ (by omega), z312_o h0 h1 h3 (by omega) (by omega)]
  refine ⟨fun c1 p1 c2 p2 i0 i1 j0 j1 i2 i3 j2 j3 i4 j4 i5 j5 i6 => ?_, fun c1 p1 i0 i1 i2 i3 i4 i5 => ?_, fun p i0 i1 i2 => ?_⟩
  · rw [a3] at i4 j4
    obtain ⟨s1, k1, k2, k3, k4⟩ := at' c1 p1 i0 i1 i2 i3 i5
    obtain ⟨s2, l1, l2, l3, l4⟩ := at' c2 p2 j0 j1 j2 j3 j5
    rw [k4, l4] at i6
    have s1n : 0 ≤ s1 := by rw [k1]; by_cases x : c1 = c ∧ t ≤ p1 <;> simp only [x, if_true, if_false] <;> omega
    have s2n : 0 ≤ s2 := by rw [l1]; by_cases x : c2 = c ∧ t ≤ p2 <;> simp only [x, if_true, if_false] <;> omega
    have w := h.1 c1 s1 c2 s2 i0 i1 j0 j1 s1n k2 s2n l2 i4 j4 k3 l3 i6
    refine ⟨w.1, ?_⟩
    have w1 := w.1
    have w2 := w.2
    subst w1
    by_cases x : c1 = c
    · subst x
      by_cases y1 : t ≤ p1
      · rw [if_pos ⟨rfl, y1⟩] at k1
        by_cases y2 : t ≤ p2
        · rw [if_pos ⟨rfl, y2⟩] at l1; omega
        · rw [if_neg (fun z => y2 z.2)] at l1; omega
      · rw [if_neg (fun z => y1 z.2)] at k1
        by_cases y2 : t ≤ p2
        · rw [if_pos ⟨rfl, y2⟩] at l1; omega
        · rw [if_neg (fun z => y2 z.2)] at l1; omega
    · rw [if_neg (fun z => x z.1)] at k1 l1
      omega
  · rw [a3] at i4
    obtain ⟨s1, k1, k2, k3, k4⟩ := at' c1 p1 i0 i1 i2 i3 i5
    have s1n : 0 ≤ s1 := by rw [k1]; by_cases x : c1 = c ∧ t ≤ p1 <;> simp only [x, if_true, if_false] <;> omega
    have rr := zVr_lot (c := c1) (p := s1) hV i0 i1 s1n k2 rfl
    have ne : Y 2 0 0 (3022 + 60 * c1 + 3 * s1) ≠ q := fun x => by
      have w := h.1 c1 s1 c t i0 i1 h0 h1 s1n k2 h3 h4 i4 h2 k3 h5 (by rw [x, h6])
      have w1 := w.1
      have w2 := w.2
      subst w1
      by_cases y : t ≤ p1
      · rw [if_pos ⟨rfl, y⟩] at k1; omega
      · rw [if_neg (fun z => y z.2)] at k1; omega
    rw [k4, as _ rr.1 (by omega) ne, ac _ rr.1 (by omega) ne]
    exact h.2.1 c1 s1 i0 i1 s1n k2 i4 k3
  · by_cases x : p = q
    · subst x
      exact absurd i2 hv
    · rw [as p i0 i1 x] at i2
      obtain ⟨c1, s1, j0, j1, j2, j3, j4, j5, j6⟩ := h.2.2 p i0 i1 i2
      have ne : ¬ (c1 = c ∧ s1 = t) := fun z => by
        rw [z.1, z.2, h6] at j6
        exact x j6.symm
      have k : ∃ p1 : Int, 0 ≤ p1 ∧ p1 < 12 ∧ p1 < M 2 0 0 (3015 + 60 * c1) ∧ (if c1 = c ∧ t ≤ p1 then p1 + 1 else p1) = s1 := by
        rw [al c1 j0 j1]
        by_cases y : c1 = c
        · subst y
          rw [if_pos rfl]
          by_cases z : t < s1
          · exact ⟨s1 - 1, by omega, by omega, by omega, by rw [if_pos ⟨rfl, by omega⟩]; omega⟩
          · have z2 : s1 ≠ t := fun z3 => ne ⟨rfl, z3⟩
            exact ⟨s1, by omega, by omega, by omega, by rw [if_neg (fun w => by omega)]⟩
        · rw [if_neg y]
          exact ⟨s1, j3, j4, j5, by rw [if_neg (fun w => y w.1)]⟩
      obtain ⟨p1, k0, k1, k2, k3⟩ := k
      obtain ⟨s2, l1, l2, l3, l4⟩ := at' c1 p1 j0 j1 k0 k1 k2
      exact ⟨c1, p1, j0, j1, by rw [a3]; exact j2, k0, k1, k2, by rw [l4, l1, k3]; exact j6⟩
/-- the class's row: the pallet's state is written ahead of the lot's going -/
theorem z69_s {Z : qz_Z} {b c t q v : Int} (h0 : 0 ≤ c) (h1 : c ≤ 1) (h2 : 0 ≤ t) (h3 : t < Z 48 b c 5) (h4 : Z 48 b c 5 ≤ 12) : zf_69 (zu Z 44 b q 10 v) b c t = zu (zf_69 Z b c t) 44 b q 10 v := by
  have e5 : zu Z 44 b q 10 v 48 b c 5 = Z 48 b c 5 := zu_ne rfl (fun x => absurd x.1 (by decide))
  funext k e i j
  rw [z69 h0 h1 h2 (by rw [e5]; exact h3) (by rw [e5]; exact h4), e5]
  by_cases q1 : k = 48 ∧ e = b ∧ i = c ∧ j = 5
  · rw [if_pos q1, zu_ne rfl (fun x => by rw [q1.1] at x; exact absurd x.1 (by decide)), z69 h0 h1 h2 h3 h4, if_pos q1]
  · rw [if_neg q1]
    by_cases q2 : k = 49 ∧ e = b ∧ (12 * c + t ≤ i ∧ i < 12 * c + (Z 48 b c 5 - 1)) ∧ 0 ≤ j ∧ j < 3
    · rw [if_pos q2, zu_ne rfl (fun x => absurd x.1 (by decide)), zu_ne rfl (fun x => by rw [q2.1] at x; exact absurd x.1 (by decide)), z69 h0 h1 h2 h3 h4, if_neg q1, if_pos q2]
    · rw [if_neg q2]
      by_cases q3 : k = 44 ∧ e = b ∧ i = q ∧ j = 10
      · obtain ⟨rfl, rfl, rfl, rfl⟩ := q3
        rw [zu_at rfl, zu_at rfl]
      · rw [zu_ne rfl q3, zu_ne rfl q3, z69 h0 h1 h2 h3 h4, if_neg q1, if_neg q2]
/-- takeOut against the reference's unqueue: but for the pallet's state -/
theorem rr_76 {b q c t : Int} {Z Y : qz_Z} (hR : zR b Z Y) (hV : zV Y) (hDl : zDl b Z Y) (hN : zN5 Y) (ha : zAt Y q c t) (q0 : 0 ≤ q) (q1 : q < 48) : (zf_76 Z b q).1 = zu (zf_69 Z b c t) 44 b q 10 0 ∧ (zf_76 Z b q).2 = Y 2 0 0 (3015 + 60 * c) - 1 ∧ zR b (zf_69 Z b c t) (zf_312 Y c t) ∧ zV (zf_312 Y c t) ∧ zDl b (zf_69 Z b c t) (zf_312 Y c t) ∧ zFc [4805, 4900] b Z (zf_69 Z b c t) ∧ yFr [4805, 10050, 10051, 10052] Y (zf_312 Y c t) := by
  have e := zAt_c hR hV hDl hN ha
  obtain ⟨h0, h1, h2, h3, h4, h5, h6⟩ := ha
  have k5 := zRl_48_5 (x := c) (a := 3015 + 60 * c) hR h0 h1 rfl
  have r5 := zVr_48_5 (x := c) (a := 3015 + 60 * c) hV h0 h1 rfl
  have s := z69_s (Z := Z) (b := b) (c := c) (t := t) (q := q) (v := 0) h0 (by omega) h3 (by omega) (by omega)
  have w := rr_69 hR hV hDl h0 h1 h3 h5
  refine ⟨by rw [e, s], ?_, w⟩
  rw [e]
  show zf_69 (zu Z 44 b q 10 0) b c t 48 b c 5 = _
  rw [s, zu_ne rfl (fun x => absurd x.1 (by decide)), z69 h0 (by omega) h3 (by omega) (by omega), if_pos ⟨rfl, rfl, rfl, rfl⟩, k5]
