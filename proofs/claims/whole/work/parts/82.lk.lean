/-! findings: a ring against rows that move up -/
def zFn (b : Int) (Z Y : qz_Z) : Prop := 0 ≤ Z 11 b 0 11 ∧ (Y 2 0 0 3501 = if Z 11 b 0 11 < 24 then Z 11 b 0 11 else 24) ∧ ∀ i j : Int, 0 ≤ i → i < Y 2 0 0 3501 → 0 ≤ j → j < 6 → Z 52 b ((Z 11 b 0 11 - Y 2 0 0 3501 + i) % 24) j = Y 2 0 0 (3560 + 6 * i + j)
theorem zFn_f {L K : List Nat} {b : Int} {Z Y C M : qz_Z} (h : zFn b Z Y) (f : zFa L b Z C) (g : yFa K Y M) (e : L.contains 1111 = false ∧ L.contains 5200 = false ∧ K.contains 10015 = false ∧ K.contains 10060 = false) : zFn b C M := by
  obtain ⟨h1, h2, h3⟩ := h
  unfold zFn
  rw [zFc_at 1111 f e.1 rfl rfl, yFr_at 10015 g e.2.2.1 (zcm_fmany rfl)]
  refine ⟨h1, h2, fun i j i0 i1 j0 j1 => ?_⟩
  have c : Y 2 0 0 3501 ≤ 24 := by
    rw [h2]
    split <;> omega
  rw [zFc_at 5200 f e.2.1 rfl rfl, yFr_at 10060 g e.2.2.2 (zcm_find (by omega) (by omega))]
  exact h3 i j i0 i1 j0 j1
/-- the rows move up -/
theorem zl363 {x1 x2 x3 x4 x5 : Int} : ∀ (m : Nat) (Y : qz_Z) (x : Int), 0 ≤ x → x ≤ 138 → 138 - x < (m : Int) → ∀ a : Int, (zl_363_1 x1 x2 x3 x4 x5 m Y x).1 2 0 0 a = if 3560 + x ≤ a ∧ a < 3698 then Y 2 0 0 (a + 6) else Y 2 0 0 a
  | 0, Y, x, _, _, h => by omega
  | m + 1, Y, x, x0, x1', h => fun a => by
    unfold zl_363_1
    by_cases c : 138 ≤ x
    · rw [if_pos c, if_neg (by omega)]
    · rw [if_neg c]
      simp only [zlet]
      rw [zl363 m _ (x + 1) (by omega) (by omega) (by omega) a]
      by_cases d : 3560 + (x + 1) ≤ a ∧ a < 3698
      · rw [if_pos d, if_pos (by omega), zun (by omega)]
      · rw [if_neg d]
        by_cases e : a = 3560 + x
        · rw [e, zua, if_pos (by omega)]
          congr 1
          omega
        · rw [zun e, if_neg (by omega)]
theorem zl363_fr {x1 x2 x3 x4 x5 : Int} : ∀ (m : Nat) (Y : qz_Z) (x : Int), 0 ≤ x → x ≤ 138 → zV Y → ∀ {b : Int} {Z : qz_Z}, zR b Z Y → zV (zl_363_1 x1 x2 x3 x4 x5 m Y x).1 ∧ zR b Z (zl_363_1 x1 x2 x3 x4 x5 m Y x).1 ∧ yFr [10060] Y (zl_363_1 x1 x2 x3 x4 x5 m Y x).1
  | 0, Y, x, _, _, hV => fun hR => ⟨hV, hR, yFr_r⟩
  | m + 1, Y, x, x0, x1', hV => fun hR => by
    unfold zl_363_1
    by_cases c : 138 ≤ x
    · rw [if_pos c]
      exact ⟨hV, hR, yFr_r⟩
    · rw [if_neg c]
      simp only [zlet]
      have v := zV_n (v := Y 2 0 0 (3566 + x)) hV rfl (zvn_find (a := 3560 + x) (by omega) (by omega))
      have r := zRx_1 (zRx_m (v := Y 2 0 0 (3566 + x)) (zRx_0 hR) rfl (adm_find (a := 3560 + x) (by omega) (by omega)))
      obtain ⟨i1, i2, i3⟩ := zl363_fr (x1 := x1) (x2 := x2) (x3 := x3) (x4 := x4) (x5 := x5) m _ (x + 1) (by omega) (by omega) v r
      exact ⟨i1, i2, yFr_t (yFr_u (yFr_r : yFr [10060] Y Y) rfl (zcm_find (a := 3560 + x) (by omega) (by omega)) rfl) i3 (by decide)⟩
/-- a finding is kept -/
theorem rr_363 {b k p kind fig g : Int} {Z Y : qz_Z} (hRa : zR b Z Y) (hV : zV Y) (c0 : 0 ≤ Y 2 0 0 3501) (c1 : Y 2 0 0 3501 ≤ 24) : zR b Z (zf_363 Y k p kind fig g) ∧ zV (zf_363 Y k p kind fig g) ∧ yFr [10015, 10060] Y (zf_363 Y k p kind fig g) ∧ (zf_363 Y k p kind fig g 2 0 0 3501 = if Y 2 0 0 3501 = 24 then 24 else Y 2 0 0 3501 + 1) ∧ (∀ i j : Int, 0 ≤ i → 0 ≤ j → j < 6 → (Y 2 0 0 3501 = 24 → i < 23 → zf_363 Y k p kind fig g 2 0 0 (3560 + 6 * i + j) = Y 2 0 0 (3560 + 6 * (i + 1) + j)) ∧ (Y 2 0 0 3501 ≠ 24 → i < Y 2 0 0 3501 → zf_363 Y k p kind fig g 2 0 0 (3560 + 6 * i + j) = Y 2 0 0 (3560 + 6 * i + j)) ∧ (i = (if Y 2 0 0 3501 = 24 then 23 else Y 2 0 0 3501) → zf_363 Y k p kind fig g 2 0 0 (3560 + 6 * i + j) = if j = 0 then k else if j = 1 then Y 2 0 0 0 else if j = 2 then p else if j = 3 then kind else if j = 4 then fig else g)) := by
  -- the last six writes, and the count
  have six : ∀ {Y1 : qz_Z} {n : Int}, zR b Z Y1 → zV Y1 → yFr [10015, 10060] Y Y1 → Y1 2 0 0 3501 = n → Y1 2 0 0 0 = Y 2 0 0 0 → 0 ≤ n → n < 24 → ∀ F : qz_Z, F = zu (zu (zu (zu (zu (zu (zu Y1 2 0 0 (3560 + 6 * n) k) 2 0 0 (3561 + 6 * n) (Y1 2 0 0 0)) 2 0 0 (3562 + 6 * n) p) 2 0 0 (3563 + 6 * n) kind) 2 0 0 (3564 + 6 * n) fig) 2 0 0 (3565 + 6 * n) g) 2 0 0 3501 (n + 1) → zR b Z F ∧ zV F ∧ yFr [10015, 10060] Y F ∧ F 2 0 0 3501 = n + 1 ∧ (∀ a : Int, (a < 3560 + 6 * n ∨ 3566 + 6 * n ≤ a) → a ≠ 3501 → F 2 0 0 a = Y1 2 0 0 a) ∧ (∀ j : Int, 0 ≤ j → j < 6 → F 2 0 0 (3560 + 6 * n + j) = if j = 0 then k else if j = 1 then Y 2 0 0 0 else if j = 2 then p else if j = 3 then kind else if j = 4 then fig else g) := by
    intro Y1 n r v f en e0 n0 n1 F eF
    have wf : ∀ {M : qz_Z} {a w : Int}, zR b Z M → zV M → yFr [10015, 10060] Y M → 3560 ≤ a → a < 3704 → zR b Z (zu M 2 0 0 a w) ∧ zV (zu M 2 0 0 a w) ∧ yFr [10015, 10060] Y (zu M 2 0 0 a w) := fun {M a w} r v f h0 h1 => ⟨zRx_1 (zRx_m (zRx_0 r) rfl (adm_find h0 h1)), zV_n v rfl (zvn_find h0 h1), yFr_u f rfl (zcm_find h0 h1) rfl⟩
    obtain ⟨r1, v1, f1⟩ := wf (a := 3560 + 6 * n) (w := k) r v f (by omega) (by omega)
    obtain ⟨r2, v2, f2⟩ := wf (a := 3561 + 6 * n) (w := Y1 2 0 0 0) r1 v1 f1 (by omega) (by omega)
    obtain ⟨r3, v3, f3⟩ := wf (a := 3562 + 6 * n) (w := p) r2 v2 f2 (by omega) (by omega)
    obtain ⟨r4, v4, f4⟩ := wf (a := 3563 + 6 * n) (w := kind) r3 v3 f3 (by omega) (by omega)
    obtain ⟨r5, v5, f5⟩ := wf (a := 3564 + 6 * n) (w := fig) r4 v4 f4 (by omega) (by omega)
    obtain ⟨r6, v6, f6⟩ := wf (a := 3565 + 6 * n) (w := g) r5 v5 f5 (by omega) (by omega)
    rw [eF]
    refine ⟨zRx_1 (zRx_m (zRx_0 r6) rfl (adm_fmany rfl)), zV_n v6 rfl (zvn_fmany rfl), yFr_u f6 rfl (zcm_fmany rfl) rfl, zua, fun a h0 h1 => ?_, fun j j0 j1 => ?_⟩
    · rw [zun h1, zun (by omega), zun (by omega), zun (by omega), zun (by omega), zun (by omega), zun (by omega)]
    · rw [zun (by omega)]
      have c : j = 0 ∨ j = 1 ∨ j = 2 ∨ j = 3 ∨ j = 4 ∨ j = 5 := by omega
      rcases c with rfl | rfl | rfl | rfl | rfl | rfl
      · rw [zun (by omega), zun (by omega), zun (by omega), zun (by omega), zun (by omega), show 3560 + 6 * n + 0 = 3560 + 6 * n by omega, zua]
        rfl
      · rw [zun (by omega), zun (by omega), zun (by omega), zun (by omega), show 3560 + 6 * n + 1 = 3561 + 6 * n by omega, zua, e0]
        rfl
      · rw [zun (by omega), zun (by omega), zun (by omega), show 3560 + 6 * n + 2 = 3562 + 6 * n by omega, zua]
        rfl
      · rw [zun (by omega), zun (by omega), show 3560 + 6 * n + 3 = 3563 + 6 * n by omega, zua]
        rfl
      · rw [zun (by omega), show 3560 + 6 * n + 4 = 3564 + 6 * n by omega, zua]
        rfl
      · rw [show 3560 + 6 * n + 5 = 3565 + 6 * n by omega, zua]
        rfl
  by_cases h : Y 2 0 0 3501 = 24
  · obtain ⟨i1, i2, i3⟩ := zl363_fr (x1 := k) (x2 := p) (x3 := kind) (x4 := fig) (x5 := g) 139 Y 0 (by omega) (by omega) hV hRa
    have sh := zl363 (x1 := k) (x2 := p) (x3 := kind) (x4 := fig) (x5 := g) 139 Y 0 (by omega) (by omega) (by omega)
    generalize hY1 : (zl_363_1 k p kind fig g 139 Y 0).1 = Y1 at i1 i2 i3 sh
    have c24 : Y1 2 0 0 3501 = 24 := by rw [sh, if_neg (by omega)]; exact h
    have r := zRx_1 (zRx_m (v := 23) (zRx_0 i2) rfl (adm_fmany (a := 3501) rfl))
    have v := zV_n (v := 23) i1 rfl (zvn_fmany (a := 3501) rfl)
    have f : yFr [10015, 10060] Y (zu Y1 2 0 0 3501 23) := yFr_u (yFr_w i3 (by decide)) rfl (zcm_fmany rfl) rfl
    have eF : zf_363 Y k p kind fig g = zu (zu (zu (zu (zu (zu (zu (zu Y1 2 0 0 3501 23) 2 0 0 (3560 + 6 * 23) k) 2 0 0 (3561 + 6 * 23) (zu Y1 2 0 0 3501 23 2 0 0 0)) 2 0 0 (3562 + 6 * 23) p) 2 0 0 (3563 + 6 * 23) kind) 2 0 0 (3564 + 6 * 23) fig) 2 0 0 (3565 + 6 * 23) g) 2 0 0 3501 (23 + 1) := by
      unfold zf_363
      rw [if_neg (show ¬ Y 2 0 0 3501 ≠ 24 by omega)]
      simp only [zlet, zlet2]
      rw [hY1, c24]
      rw [show (24 : Int) - 1 = 23 by omega, zua]
      rw [zun (a' := 0) (a := 3560 + 6 * 23) (by omega)]
      rw [zun (a' := 3501) (a := 3565 + 6 * 23) (by omega), zun (a' := 3501) (a := 3564 + 6 * 23) (by omega), zun (a' := 3501) (a := 3563 + 6 * 23) (by omega), zun (a' := 3501) (a := 3562 + 6 * 23) (by omega), zun (a' := 3501) (a := 3561 + 6 * 23) (by omega), zun (a' := 3501) (a := 3560 + 6 * 23) (by omega), zua]
    obtain ⟨p1, p2, p3, p4, p5, p6⟩ := six (n := 23) r v f zua (by rw [zun (by omega), sh, if_neg (by omega)]) (by omega) (by omega) _ eF
    refine ⟨p1, p2, p3, by rw [p4, if_pos h]; rfl, fun i j i0 j0 j1 => ⟨fun _ hi => ?_, fun n => absurd h n, fun hi => ?_⟩⟩
    · rw [p5 _ (by omega) (by omega), zun (by omega), sh, if_pos (by omega)]
      congr 1
      omega
    · rw [if_pos h] at hi
      rw [hi]
      exact p6 j j0 j1
  · have eF : zf_363 Y k p kind fig g = zu (zu (zu (zu (zu (zu (zu Y 2 0 0 (3560 + 6 * Y 2 0 0 3501) k) 2 0 0 (3561 + 6 * Y 2 0 0 3501) (Y 2 0 0 0)) 2 0 0 (3562 + 6 * Y 2 0 0 3501) p) 2 0 0 (3563 + 6 * Y 2 0 0 3501) kind) 2 0 0 (3564 + 6 * Y 2 0 0 3501) fig) 2 0 0 (3565 + 6 * Y 2 0 0 3501) g) 2 0 0 3501 (Y 2 0 0 3501 + 1) := by
      unfold zf_363
      rw [if_pos h]
      simp only [zlet]
      rw [zun (a' := 0) (a := 3560 + 6 * Y 2 0 0 3501) (by omega)]
      rw [zun (a' := 3501) (a := 3565 + 6 * Y 2 0 0 3501) (by omega), zun (a' := 3501) (a := 3564 + 6 * Y 2 0 0 3501) (by omega), zun (a' := 3501) (a := 3563 + 6 * Y 2 0 0 3501) (by omega), zun (a' := 3501) (a := 3562 + 6 * Y 2 0 0 3501) (by omega), zun (a' := 3501) (a := 3561 + 6 * Y 2 0 0 3501) (by omega), zun (a' := 3501) (a := 3560 + 6 * Y 2 0 0 3501) (by omega)]
    obtain ⟨p1, p2, p3, p4, p5, p6⟩ := six (n := Y 2 0 0 3501) hRa hV yFr_r rfl rfl c0 (by omega) _ eF
    refine ⟨p1, p2, p3, by rw [p4, if_neg h], fun i j i0 j0 j1 => ⟨fun n => absurd n h, fun _ hi => p5 _ (by omega) (by omega), fun hi => ?_⟩⟩
    rw [if_neg h] at hi
    rw [hi]
    exact p6 j j0 j1
/-- the kind of a finding -/
theorem rr_135 {b k p : Int} {Z Y : qz_Z} (hRa : zR b Z Y) (hV : zV Y) (k0 : 0 ≤ k) (k1 : k < 2) (p0 : 0 ≤ p) (p1 : p < 48) : zf_135 Z b b k b p = zf_364 Y k p := by
  have v1 := zVr_44_1 (x := p) (a := 201 + 20 * p) hV p0 p1 rfl
  have v9 := zVr_44_9 (x := p) (a := 209 + 20 * p) hV p0 p1 rfl
  unfold zf_135 zf_100 zf_364 zf_326
  simp only [zlet]
  rw [zRl_44_1 (x := p) (a := 201 + 20 * p) hRa p0 p1 rfl, zRl_44_7 (x := p) (a := 207 + 20 * p) hRa p0 p1 rfl, zRl_44_8 (x := p) (a := 208 + 20 * p) hRa p0 p1 rfl, zRl_44_9 (x := p) (a := 209 + 20 * p) hRa p0 p1 rfl, zRl_51_1 (x := k) (a := 3521 + 10 * k) hRa k0 k1 rfl, zRl_41_3 (x := Y 2 0 0 (201 + 20 * p)) (a := 113 + 5 * Y 2 0 0 (201 + 20 * p)) hRa v1.1 (by omega) rfl, zRl_41_4 (x := Y 2 0 0 (201 + 20 * p)) (a := 114 + 5 * Y 2 0 0 (201 + 20 * p)) hRa v1.1 (by omega) rfl]
  generalize Y 2 0 0 (113 + 5 * Y 2 0 0 (201 + 20 * p)) = A
  generalize Y 2 0 0 (114 + 5 * Y 2 0 0 (201 + 20 * p)) = S
  generalize Y 2 0 0 (207 + 20 * p) = R
  generalize Y 2 0 0 (208 + 20 * p) = H
  generalize Y 2 0 0 (209 + 20 * p) = G at v9 ⊢
  generalize Y 2 0 0 (3521 + 10 * k) = T
  by_cases c1 : A - S ≤ R
  · simp only [if_pos c1]
    by_cases c2 : A + S < R
    · simp only [if_pos c2]
      by_cases c3 : A + 3 * S < R
      · simp only [if_pos c3, ne_eq, not_true_eq_false, if_false]
      · simp only [if_neg c3]
        rw [if_pos (show (2 : Int) ≠ 3 by omega)]
    · simp only [if_neg c2]
      rw [if_pos (show (0 : Int) ≠ 3 by omega)]
  · simp only [if_neg c1]
    rw [if_pos (show (0 : Int) ≠ 3 by omega)]
theorem rr_135s {Y : qz_Z} {k p : Int} : zf_364 Y k p = -1 ∨ zf_364 Y k p = 0 ∨ zf_364 Y k p = 1 ∨ zf_364 Y k p = 2 := by
  unfold zf_364
  simp only [zlet]
  repeat' split
  all_goals simp
theorem rr_100 {b p : Int} {Z Y : qz_Z} (hRa : zR b Z Y) (hV : zV Y) (p0 : 0 ≤ p) (p1 : p < 48) : zf_100 Z b b p = zf_326 Y p ∧ 0 ≤ zf_326 Y p ∧ zf_326 Y p ≤ 3 := by
  have v1 := zVr_44_1 (x := p) (a := 201 + 20 * p) hV p0 p1 rfl
  unfold zf_100 zf_326
  rw [zRl_44_1 (x := p) (a := 201 + 20 * p) hRa p0 p1 rfl, zRl_44_7 (x := p) (a := 207 + 20 * p) hRa p0 p1 rfl, zRl_41_3 (x := Y 2 0 0 (201 + 20 * p)) (a := 113 + 5 * Y 2 0 0 (201 + 20 * p)) hRa v1.1 (by omega) rfl, zRl_41_4 (x := Y 2 0 0 (201 + 20 * p)) (a := 114 + 5 * Y 2 0 0 (201 + 20 * p)) hRa v1.1 (by omega) rfl]
  refine ⟨rfl, ?_⟩
  split
  · split
    · split <;> omega
    · omega
  · omega
