/-! the close of a day, the hours, side by side -/
theorem zS_row {b : Int} {Z Y Y' : qz_Z} (h : zAl b Z Y) (e : ∀ j, Y' 2 0 0 j = Y 2 0 0 j) : zAl b Z Y' := by
  have g : yFa [] Y Y' ∧ True := ⟨fun a _ => e a, trivial⟩
  have f : zFc [] b Z Z := zFc_r
  have r1 : zR b Z Y' := fun k i j a ea => (zS_R h k i j a ea).trans (e a).symm
  have r2 : zV Y' := fun a lo hi ea => by
    rw [e a]
    exact zS_V h a lo hi ea
  exact ⟨r1, r2, zD1_f (zS_D1 h) f.1 g.1 ⟨rfl, rfl, rfl⟩, zD4_f (zS_D4 h) f.1 g.1 ⟨⟨rfl, rfl⟩, rfl, rfl, rfl⟩, zN1_f (zS_N1 h) g.1 ⟨rfl, rfl, rfl, rfl⟩, zN4_f (zS_N4 h) g.1 ⟨rfl, rfl, rfl⟩, zN8_f (zS_N8 h) g.1 ⟨rfl, rfl, rfl⟩, zN9_f (zS_N9 h) g.1 ⟨rfl, rfl, rfl⟩, zNL_f (zS_NL h) (zS_V h) g.1 ⟨rfl, rfl, rfl, rfl, rfl⟩, zDl_f (zS_Dl h) f.1 g.1 ⟨rfl, rfl, rfl, rfl, rfl⟩, zDs_f (zS_Ds h) f.1 g.1 ⟨rfl, rfl⟩, zDw_f (zS_Dw h) f.1 g.1 ⟨rfl, rfl⟩, (zFc_at 4000 f.1 rfl rfl rfl).trans (zS_Dg h), zDt_f (zS_Dt h) f.1 g.1 rfl rfl, zFn_f (zS_Fn h) f.1 g.1 ⟨rfl, rfl, rfl, rfl⟩, zNp_f (zS_Np h) (zS_V h) g.1 ⟨rfl, rfl⟩, zNr_f (zS_Nr h) (zS_V h) g.1 ⟨rfl, rfl, rfl⟩, zNi_f (zS_Ni h) (zS_V h) g.1 ⟨rfl, rfl⟩, zNq_f (zS_Nq h) (zS_V h) g.1 ⟨rfl, rfl⟩, zNk_f (zS_Nk h) g.1 rfl, zNt_f (zS_Nt h) (zS_V h) g.1 ⟨rfl, rfl⟩, zDb_f (zS_Db h) f.1 (by decide), zPb_f (zS_Pb h) f.1 (by decide), zKb_f (zS_Kb h) f.1 (by decide)⟩
/-- the class's hall alone counts -/
theorem zS_hall {b : Int} {Z Z' Y : qz_Z} (h : zAl b Z Y) (e : ∀ k i j, zhall k = true → Z' k b i j = Z k b i j) : zAl b Z' Y := by
  have g : yFa [] Y Y ∧ True := ⟨fun a _ => rfl, trivial⟩
  have f : zFa [] b Z Z' ∧ True := ⟨fun k i j hk _ => e k i j hk, trivial⟩
  have r1 : zR b Z' Y := zR_e (zS_R h) e (fun _ => rfl)
  exact ⟨r1, zS_V h, zD1_f (zS_D1 h) f.1 g.1 ⟨rfl, rfl, rfl⟩, zD4_f (zS_D4 h) f.1 g.1 ⟨⟨rfl, rfl⟩, rfl, rfl, rfl⟩, zN1_f (zS_N1 h) g.1 ⟨rfl, rfl, rfl, rfl⟩, zN4_f (zS_N4 h) g.1 ⟨rfl, rfl, rfl⟩, zN8_f (zS_N8 h) g.1 ⟨rfl, rfl, rfl⟩, zN9_f (zS_N9 h) g.1 ⟨rfl, rfl, rfl⟩, zNL_f (zS_NL h) (zS_V h) g.1 ⟨rfl, rfl, rfl, rfl, rfl⟩, zDl_f (zS_Dl h) f.1 g.1 ⟨rfl, rfl, rfl, rfl, rfl⟩, zDs_f (zS_Ds h) f.1 g.1 ⟨rfl, rfl⟩, zDw_f (zS_Dw h) f.1 g.1 ⟨rfl, rfl⟩, (zFc_at 4000 f.1 rfl rfl rfl).trans (zS_Dg h), zDt_f (zS_Dt h) f.1 g.1 rfl rfl, zFn_f (zS_Fn h) f.1 g.1 ⟨rfl, rfl, rfl, rfl⟩, zNp_f (zS_Np h) (zS_V h) g.1 ⟨rfl, rfl⟩, zNr_f (zS_Nr h) (zS_V h) g.1 ⟨rfl, rfl, rfl⟩, zNi_f (zS_Ni h) (zS_V h) g.1 ⟨rfl, rfl⟩, zNq_f (zS_Nq h) (zS_V h) g.1 ⟨rfl, rfl⟩, zNk_f (zS_Nk h) g.1 rfl, zNt_f (zS_Nt h) (zS_V h) g.1 ⟨rfl, rfl⟩, zDb_f (zS_Db h) f.1 (by decide), zPb_f (zS_Pb h) f.1 (by decide), zKb_f (zS_Kb h) f.1 (by decide)⟩
/-! bills -/
theorem zl30_11 {b c y i j : Int} : ∀ (m : Nat) (Z : qz_Z) (x : Int), (zl_30_1 b c c y m Z x).1 11 b i j = Z 11 b i j
  | 0, Z, x => rfl
  | m + 1, Z, x => by
    unfold zl_30_1
    split
    · rfl
    split
    · exact zl30_11 m Z _
    split
    · exact zl30_11 m Z _
    split
    · exact zl30_11 m Z _
    simp only [zlet]
    split
    · rw [zl30_11 m]
      simp [zuq]
    · rw [zl30_11 m]
      simp [zuq]
theorem zDP_17 {b : Int} {Z : qz_Z} (hD : zDb b Z) (hP : zPb b Z) (h4 : Z 11 b 0 4 ≤ 8) : zDb b (zf_17 Z b) ∧ zPb b (zf_17 Z b) := by
  have l1 : ∀ (m : Nat) (C : qz_Z) (w c x : Int), 0 ≤ c → c < 8 → zDb b C → zPb b C → C 11 b 0 4 ≤ 8 → zDb b (zl_17_1 b w c m C x).1 ∧ zPb b (zl_17_1 b w c m C x).1 ∧ (zl_17_1 b w c m C x).1 11 b 0 4 ≤ 8 := fun m => by
    induction m with
    | zero => exact fun _ _ _ _ _ _ h1 h2 h3 => ⟨h1, h2, h3⟩
    | succ m ih =>
      intro C w c x c0 c1 h1 h2 h3
      unfold zl_17_1
      split
      · exact ⟨h1, h2, h3⟩
      · simp only [zlet]
        exact ih _ _ _ _ c0 c1 (zDb_30 61 C 0 (Int.le_refl 0) h1) (zPb_30 c0 c1 61 C 0 (Int.le_refl 0) h2) (by
          show (zl_30_1 b c c x 61 C 0).1 11 b 0 4 ≤ 8
          rw [zl30_11]
          exact h3)
  have l3 : ∀ (m : Nat) (C : qz_Z) (w x : Int), 0 ≤ x → zDb b C → zPb b C → C 11 b 0 4 ≤ 8 → zDb b (zl_17_3 b w m C x).1 ∧ zPb b (zl_17_3 b w m C x).1 := fun m => by
    induction m with
    | zero => exact fun _ _ _ _ h1 h2 _ => ⟨h1, h2⟩
    | succ m ih =>
      intro C w x x0 h1 h2 h3
      unfold zl_17_3
      split
      · exact ⟨h1, h2⟩
      rename_i g1
      simp only [zlet, zlet2]
      obtain ⟨a1, a2, a3⟩ := l1 28 (zu C 45 b x 7 0) w x 0 x0 (by omega) (zDb_u h1 rfl) (zPb_u h2 rfl) (by rw [zu_ne rfl (fun q => absurd q.1 (by decide))]; exact h3)
      exact ih _ _ _ (by omega) a1 a2 a3
  have l4 : ∀ (m : Nat) (C : qz_Z) (x : Int), zDb b C → zPb b C → zDb b (zl_17_4 b m C x).1 ∧ zPb b (zl_17_4 b m C x).1 := fun m => by
    induction m with
    | zero => exact fun _ _ h1 h2 => ⟨h1, h2⟩
    | succ m ih =>
      intro C x h1 h2
      unfold zl_17_4
      split
      · exact ⟨h1, h2⟩
      split
      · exact ih _ _ h1 h2
      split
      · exact ih _ _ h1 h2
      · simp only [zlet]
        exact ih _ _ (zDb_u h1 rfl) (zPb_u h2 rfl)
  unfold zf_17
  simp only [zlet2]
  obtain ⟨a1, a2⟩ := l3 9 Z (Z 11 b 0 13 / 24 - 1) 0 (Int.le_refl 0) hD hP h4
  exact l4 _ _ _ a1 a2
theorem zS_17 {b : Int} {s : zSM} {Z Y : qz_Z} (h : zAl b Z Y) (hM : zM s Y) : zAl b (zf_17 Z b) (zf_265 Y (Y 2 0 0 0 / 24 - 1)) ∧ yFr [4503, 4507, 4606, 4719] Y (zf_265 Y (Y 2 0 0 0 / 24 - 1)) := by
  obtain ⟨r1, r2, f, g⟩ := rr_17 (b := b) (zS_R h) (zS_V h) (fun q q0 q1 => (zM_k hM 2 0 0 (1811 + 2 * q) (lo := 0) (hi := 41) (by decide) (zs_1810_1 (x := q) (by omega) q0 q1)).1)
  obtain ⟨k1, k2⟩ := zDP_17 (zS_Db h) (zS_Pb h) (by
    have v := zVr_11_4 (a := 1400) (zS_V h) rfl
    rw [zRl_11_4 (a := 1400) (zS_R h) rfl]
    exact v.2)
  exact ⟨⟨r1, r2, zD1_f (zS_D1 h) f.1 g.1 ⟨rfl, rfl, rfl⟩, zD4_f (zS_D4 h) f.1 g.1 ⟨⟨rfl, rfl⟩, rfl, rfl, rfl⟩, zN1_f (zS_N1 h) g.1 ⟨rfl, rfl, rfl, rfl⟩, zN4_f (zS_N4 h) g.1 ⟨rfl, rfl, rfl⟩, zN8_f (zS_N8 h) g.1 ⟨rfl, rfl, rfl⟩, zN9_f (zS_N9 h) g.1 ⟨rfl, rfl, rfl⟩, zNL_f (zS_NL h) (zS_V h) g.1 ⟨rfl, rfl, rfl, rfl, rfl⟩, zDl_f (zS_Dl h) f.1 g.1 ⟨rfl, rfl, rfl, rfl, rfl⟩, zDs_f (zS_Ds h) f.1 g.1 ⟨rfl, rfl⟩, zDw_f (zS_Dw h) f.1 g.1 ⟨rfl, rfl⟩, (zFc_at 4000 f.1 rfl rfl rfl).trans (zS_Dg h), zDt_f (zS_Dt h) f.1 g.1 rfl rfl, zFn_f (zS_Fn h) f.1 g.1 ⟨rfl, rfl, rfl, rfl⟩, zNp_f (zS_Np h) (zS_V h) g.1 ⟨rfl, rfl⟩, zNr_f (zS_Nr h) (zS_V h) g.1 ⟨rfl, rfl, rfl⟩, zNi_f (zS_Ni h) (zS_V h) g.1 ⟨rfl, rfl⟩, zNq_f (zS_Nq h) (zS_V h) g.1 ⟨rfl, rfl⟩, zNk_f (zS_Nk h) g.1 rfl, zNt_f (zS_Nt h) (zS_V h) g.1 ⟨rfl, rfl⟩, k1, k2, zKb_f (zS_Kb h) f.1 (by decide)⟩, g⟩
/-! a quarrel -/
theorem zDb_9007 {b i q v s0 s1 s2 : Int} {Z : qz_Z} (h : zDb b Z) (q0 : 0 ≤ q) (q1 : q < Z 11 b 0 6) : zDb b (zf_9007 Z b i q v s0 s1 s2) := by
  have base : zDb b (zu (zu (zu (zu (zu (zu (zu Z 54 b i 2 2) 54 b i 3 v) 54 b i 4 s0) 54 b i 5 s1) 54 b i 6 s2) 47 b q 19 (w3 (Z 47 b q 19 - min (Z 47 b q 19) v))) 45 b (Z 47 b q 1) 4 (w3 (Z 45 b (Z 47 b q 1) 4 - min (Z 47 b q 19) v))) := by
    refine zDb_1 (q := q) h q0 q1 ?_ ?_ (fun r => ⟨?_, ?_⟩) (fun r => ⟨?_, ?_, ?_⟩) (fun r n => ⟨?_, ?_⟩) (fun i => ⟨?_, ?_⟩) (fun i n => ⟨?_, ?_, ?_⟩) ?_ ?_ ?_
    all_goals simp [zuq]
    all_goals try (right; exact w3_m)
    all_goals try (intros; simp_all)
  unfold zf_9007
  simp only [zlet]
  repeat' split
  all_goals
    repeat (refine zDb_u ?_ rfl)
    exact base
theorem zPb_q {b i B : Int} {Z C : qz_Z} (h : zPb b Z) (i0 : 0 ≤ i) (i1 : i < Z 11 b 0 10) (s0 : Z 54 b i 2 = 0) (s1 : C 54 b i 2 ≠ 0) (sn : ∀ r, r ≠ i → C 54 b r 2 = Z 54 b r 2) (c6 : C 11 b 0 6 = Z 11 b 0 6) (c10 : C 11 b 0 10 = Z 11 b 0 10) (rs : ∀ r, C 47 b r 9 = Z 47 b r 9 ∧ C 47 b r 18 = Z 47 b r 18) (ru : ∀ r, 0 ≤ r → r < Z 11 b 0 6 → 0 ≤ C 47 b r 19 ∧ C 47 b r 19 ≤ Z 47 b r 19) (bn : ∀ j, j ≠ B → C 45 b j 3 = Z 45 b j 3) (bq : 0 ≤ B → B < 8 → 0 ≤ C 45 b B 3 ∧ C 45 b B 3 ≤ Z 45 b B 3 + 399960) : zPb b C := by
  have e : zPs b C = zPs b Z + 1 := by
    unfold zPs
    rw [c6, c10, zSi_w (g := fun k => if C 54 b k 2 = 0 then 0 else 1) (f := fun k => if Z 54 b k 2 = 0 then 0 else 1) i0 i1 (fun j _ _ n => by simp only [sn j n])]
    simp only [(rs _).1, s0, if_neg s1]
    simp
    omega
  refine ⟨by rw [c6]; exact h.1, by rw [c10]; exact h.2.1, fun r r0 r1 => ?_, fun j j0 j1 => ?_⟩
  · rw [(rs r).2]
    have a := h.2.2.1 r r0 (by omega)
    have c := ru r r0 (by omega)
    omega
  · rw [e]
    have a := h.2.2.2 j j0 j1
    by_cases n : j = B
    · rw [n] at j0 j1 a ⊢
      have := bq j0 j1
      omega
    · rw [bn j n]
      omega
theorem zPb_9007 {b i q v s0 s1 s2 : Int} {Z : qz_Z} (h : zPb b Z) (q0 : 0 ≤ q) (q1 : q < Z 11 b 0 6) (i0 : 0 ≤ i) (i1 : i < Z 11 b 0 10) (s : Z 54 b i 2 = 0) (v0 : 1 ≤ v) (v1 : v ≤ 399960) : zPb b (zf_9007 Z b i q v s0 s1 s2) := by
  have u := h.2.2.1 q q0 q1
  have ps := zPs_r h
  have ew : w3 (v - min (Z 47 b q 19) v) = v - min (Z 47 b q 19) v := w3_id (by omega) (by omega)
  have ex : w3 (Z 47 b q 19 - min (Z 47 b q 19) v) = Z 47 b q 19 - min (Z 47 b q 19) v := w3_id (by omega) (by omega)
  have base : zPb b (zu (zu (zu (zu (zu (zu (zu (zu Z 54 b i 2 2) 54 b i 3 v) 54 b i 4 s0) 54 b i 5 s1) 54 b i 6 s2) 47 b q 19 (w3 (Z 47 b q 19 - min (Z 47 b q 19) v))) 45 b (Z 47 b q 1) 4 (w3 (Z 45 b (Z 47 b q 1) 4 - min (Z 47 b q 19) v))) 45 b (Z 47 b q 1) 3 (w3 (Z 45 b (Z 47 b q 1) 3 + w3 (v - min (Z 47 b q 19) v)))) := by
    rw [ew, ex]
    refine zPb_q (i := i) (B := Z 47 b q 1) h i0 i1 s ?_ (fun r n => ?_) ?_ ?_ (fun r => ⟨?_, ?_⟩) (fun r r0 r1 => ?_) (fun j n => ?_) (fun g0 g1 => ?_)
    · simp [zuq]
    · simp [zuq, n]
    · simp [zuq]
    · simp [zuq]
    · simp [zuq]
    · simp [zuq]
    · by_cases n : r = q
      · subst n
        simp [zuq]
        omega
      · have u2 := h.2.2.1 r r0 r1
        simp [zuq, n]
        omega
    · simp [zuq, n]
    · have p := h.2.2.2 _ g0 g1
      rw [zu_at rfl, w3_id (by omega) (by omega)]
      omega
  unfold zf_9007
  simp only [zlet]
  repeat' split
  all_goals
    repeat (refine zPb_u ?_ rfl)
    simpa [zuq] using base
theorem z54_9007 {b i q v s0 s1 s2 r : Int} {Z : qz_Z} (hr : r ≠ i) : zf_9007 Z b i q v s0 s1 s2 54 b r 2 = Z 54 b r 2 := by
  unfold zf_9007
  simp only [zlet]
  repeat' split
  all_goals simp [zuq, hr]
theorem zS_7 {b i n : Int} {s : zSM} {Z Y : qz_Z} (h : zAl b Z Y) (hM : zM s Y) (i0 : 0 ≤ i) (i1 : i < Y 2 0 0 3815) (hs : Y 2 0 0 (3852 + 8 * i) = 0) : zAl b (zf_7 Z n b b i).1 (zf_408 Y i) ∧ zFc [1112, 1400, 4202, 4205, 4503, 4504, 4513, 4719, 5300, 5301, 5302, 5303, 5304, 5402, 5403, 5404, 5405, 5406] b Z (zf_7 Z n b b i).1 ∧ yFr [1112, 1400, 4202, 4205, 4503, 4513, 4719, 5300, 5301, 5302, 5303, 5304, 5402, 5403, 5404, 5405, 5406] Y (zf_408 Y i) := by
  have hRa := zS_R h
  have hV := zS_V h
  have v10 := zVr_11_10 (a := 3815) hV rfl
  have i12 : i < 12 := by omega
  have v54 := zVr_54_0 (x := i) (a := 3850 + 8 * i) hV i0 i12 rfl
  have e10 := zRl_11_10 (a := 3815) hRa rfl
  have e6 := zRl_11_6 (a := 2000) hRa rfl
  have e540 := zRl_54_0 (x := i) (a := 3850 + 8 * i) hRa i0 i12 rfl
  have e541 := zRl_54_1 (x := i) (a := 3851 + 8 * i) hRa i0 i12 rfl
  have e542 := zRl_54_2 (x := i) (a := 3852 + 8 * i) hRa i0 i12 rfl
  obtain ⟨a1, a2, _, a4⟩ := (zS_Kb h).2.2 i i0 (by rw [e10]; exact i1)
  rw [e541] at a1
  rw [e540] at a2 a4
  have q0 := a2.1
  have q1 := a2.2
  rw [e6] at q1
  have q60 : Y 2 0 0 (3850 + 8 * i) < 60 := by omega
  rw [zRl_47_9 (x := Y 2 0 0 (3850 + 8 * i)) (a := 2019 + 16 * Y 2 0 0 (3850 + 8 * i)) hRa q0 q60 rfl] at a4
  have hW := zS_W h q0 q1 a4
  have vp := zVr_47_0 (x := Y 2 0 0 (3850 + 8 * i)) (a := 2010 + 16 * Y 2 0 0 (3850 + 8 * i)) hV q0 q60 rfl
  have vs := zVr_44_1 (x := Y 2 0 0 (2010 + 16 * Y 2 0 0 (3850 + 8 * i))) (a := 201 + 20 * Y 2 0 0 (2010 + 16 * Y 2 0 0 (3850 + 8 * i))) hV vp.1 (by omega) rfl
  have hpr := ((zS_Kb h).2.1.2.1 (Y 2 0 0 (201 + 20 * Y 2 0 0 (2010 + 16 * Y 2 0 0 (3850 + 8 * i)))) vs.1 (by omega)).2
  rw [zRl_41_3 (x := Y 2 0 0 (201 + 20 * Y 2 0 0 (2010 + 16 * Y 2 0 0 (3850 + 8 * i)))) (a := 113 + 5 * Y 2 0 0 (201 + 20 * Y 2 0 0 (2010 + 16 * Y 2 0 0 (3850 + 8 * i)))) hRa vs.1 (by omega) rfl] at hpr
  have hu := (zS_Pb h).2.2.1 (Y 2 0 0 (3850 + 8 * i)) q0 (by rw [e6]; exact q1)
  have hu2 := hu
  rw [zRl_47_19 (x := Y 2 0 0 (3850 + 8 * i)) (a := 1810 + 2 * Y 2 0 0 (3850 + 8 * i)) hRa q0 q60 rfl] at hu2
  obtain ⟨r1, r2, f, g, w⟩ := rr_7 (b := b) (i := i) (n := n) hRa hV (zS_D1 h) (zS_D4 h) i0 i12 a1 a4 hW hpr ⟨hu2.1, by omega⟩ (zM_f hM 2 0 0 _) (zM_f hM 2 0 0 _) (zM_f hM 2 0 0 _)
  have all : zDb b (zf_7 Z n b b i).1 ∧ zPb b (zf_7 Z n b b i).1 ∧ (∀ r, r ≠ i → (zf_7 Z n b b i).1 54 b r 2 = Z 54 b r 2) := by
    rcases w with w | ⟨Z14, v, s0, s1, s2, hz, v0, v1, w⟩
    · rw [w]
      refine ⟨zDb_u (zS_Db h) rfl, zPb_q (i := i) (B := -1) (zS_Pb h) i0 (by rw [e10]; exact i1) (e542.trans hs) ?_ (fun r n => ?_) ?_ ?_ (fun r => ⟨?_, ?_⟩) (fun r r0 r1 => ?_) (fun j n => ?_) (fun g0 _ => absurd g0 (by decide)), fun r n => ?_⟩
      · rw [zu_at rfl]
        decide
      · exact zu_ne rfl (fun q => n q.2.2.1)
      · exact zu_ne rfl (fun q => absurd q.1 (by decide))
      · exact zu_ne rfl (fun q => absurd q.1 (by decide))
      · exact zu_ne rfl (fun q => absurd q.1 (by decide))
      · exact zu_ne rfl (fun q => absurd q.1 (by decide))
      · rw [zu_ne rfl (fun q => absurd q.1 (by decide))]
        exact ⟨((zS_Pb h).2.2.1 r r0 r1).1, Int.le_refl _⟩
      · exact zu_ne rfl (fun q => absurd q.1 (by decide))
      · exact zu_ne rfl (fun q => n q.2.2.1)
    · have dz : zDb b Z14 := zDb_e (zS_Db h) (fun k i' j' hk => hz k b i' j' (fun e => by rw [e] at hk; cases hk))
      have pz : zPb b Z14 := zPb_e (zS_Pb h) (fun k i' j' hk => hz k b i' j' (fun e => by rw [e] at hk; cases hk))
      rw [w]
      refine ⟨zDb_9007 dz q0 (by rw [hz 11 b 0 6 (by decide), e6]; exact q1), zPb_9007 pz q0 (by rw [hz 11 b 0 6 (by decide), e6]; exact q1) i0 (by rw [hz 11 b 0 10 (by decide), e10]; exact i1) (by rw [hz 54 b i 2 (by decide), e542]; exact hs) v0 v1, fun r n => ?_⟩
      rw [z54_9007 n, hz 54 b r 2 (by decide)]
  exact ⟨⟨r1, r2, zD1_f (zS_D1 h) f.1 g.1 ⟨rfl, rfl, rfl⟩, zD4_f (zS_D4 h) f.1 g.1 ⟨⟨rfl, rfl⟩, rfl, rfl, rfl⟩, zN1_f (zS_N1 h) g.1 ⟨rfl, rfl, rfl, rfl⟩, zN4_f (zS_N4 h) g.1 ⟨rfl, rfl, rfl⟩, zN8_f (zS_N8 h) g.1 ⟨rfl, rfl, rfl⟩, zN9_f (zS_N9 h) g.1 ⟨rfl, rfl, rfl⟩, zNL_f (zS_NL h) (zS_V h) g.1 ⟨rfl, rfl, rfl, rfl, rfl⟩, zDl_f (zS_Dl h) f.1 g.1 ⟨rfl, rfl, rfl, rfl, rfl⟩, zDs_f (zS_Ds h) f.1 g.1 ⟨rfl, rfl⟩, zDw_f (zS_Dw h) f.1 g.1 ⟨rfl, rfl⟩, (zFc_at 4000 f.1 rfl rfl rfl).trans (zS_Dg h), zDt_f (zS_Dt h) f.1 g.1 rfl rfl, zFn_f (zS_Fn h) f.1 g.1 ⟨rfl, rfl, rfl, rfl⟩, zNp_f (zS_Np h) (zS_V h) g.1 ⟨rfl, rfl⟩, zNr_f (zS_Nr h) (zS_V h) g.1 ⟨rfl, rfl, rfl⟩, zNi_f (zS_Ni h) (zS_V h) g.1 ⟨rfl, rfl⟩, zNq_z (zS_Nq h) hRa hV r1 g.1 rfl (fun p hp => all.2.2 p (by rw [e10] at hp; omega)), zNk_f (zS_Nk h) g.1 rfl, zNt_f (zS_Nt h) (zS_V h) g.1 ⟨rfl, rfl⟩, all.1, all.2.1, zKb_f (zS_Kb h) f.1 (by decide)⟩, f, g⟩
/-- the conditions under which the reference judges and sells -/
theorem zS_w6 {b i : Int} {Z Y : qz_Z} (h : zAl b Z Y) (i0 : 0 ≤ i) (i1 : i < Y 2 0 0 3815) : Y 2 0 0 (2018 + 16 * Y 2 0 0 (3850 + 8 * i)) ≤ Y 2 0 0 (2024 + 16 * Y 2 0 0 (3850 + 8 * i)) ∧ Y 2 0 0 (2024 + 16 * Y 2 0 0 (3850 + 8 * i)) ≤ Y 2 0 0 (2021 + 16 * Y 2 0 0 (3850 + 8 * i)) ∧ 0 ≤ Y 2 0 0 (2025 + 16 * Y 2 0 0 (3850 + 8 * i)) ∧ Y 2 0 0 (2025 + 16 * Y 2 0 0 (3850 + 8 * i)) ≤ Y 2 0 0 (2022 + 16 * Y 2 0 0 (3850 + 8 * i)) ∧ Y 2 0 0 (2016 + 16 * Y 2 0 0 (3850 + 8 * i)) ≤ Y 2 0 0 (2023 + 16 * Y 2 0 0 (3850 + 8 * i)) ∧ Y 2 0 0 (2023 + 16 * Y 2 0 0 (3850 + 8 * i)) ≤ Y 2 0 0 (40 + Y 2 0 0 (3850 + 8 * i)) := by
  have hRa := zS_R h
  have v10 := zVr_11_10 (a := 3815) (zS_V h) rfl
  have v6 := zVr_11_6 (a := 2000) (zS_V h) rfl
  have i12 : i < 12 := by omega
  obtain ⟨_, a2, _, a4⟩ := (zS_Kb h).2.2 i i0 (by rw [zRl_11_10 (a := 3815) hRa rfl]; exact i1)
  rw [zRl_54_0 (x := i) (a := 3850 + 8 * i) hRa i0 i12 rfl] at a2 a4
  rw [zRl_11_6 (a := 2000) hRa rfl] at a2
  rw [zRl_47_9 (x := Y 2 0 0 (3850 + 8 * i)) (a := 2019 + 16 * Y 2 0 0 (3850 + 8 * i)) hRa a2.1 (by omega) rfl] at a4
  obtain ⟨_, ⟨b1, b2, b3, b4⟩, ⟨c1, c2, c3⟩, d1, d2, d3, d4⟩ := zS_W h a2.1 a2.2 a4
  exact ⟨b2, b3, c1, c2, d2, d3⟩
theorem zM_408 {b i : Int} {s : zSM} {Z Y : qz_Z} (ν : qz_N) (h : zAl b Z Y) (hM : zM s Y) (hc : s.2 + 3 ≤ 1000000000) (i0 : 0 ≤ i) (i1 : i < Y 2 0 0 3815) : zM (zb s 3) (zf_408 Y i) := by
  have v10 := zVr_11_10 (a := 3815) (zS_V h) rfl
  obtain ⟨w1, w2, w3_, w4, w5, w6⟩ := zS_w6 h i0 i1
  obtain ⟨M, e, _, g, _⟩ := sp_408 (ν := ν) hM (a1 := i) ⟨i0, by omega⟩ i1 w1 w2 w3_ w4 w5 w6 hc
  rw [← e]
  exact g
theorem zS_g9 {b c : Int} {Z Y : qz_Z} (h : zAl b Z Y) (c0 : 0 ≤ c) (c1 : c < Y 2 0 0 3000) (c3 : 1 ≤ Y 2 0 0 (3015 + 60 * c)) : 0 ≤ Y 2 0 0 (211 + 20 * Y 2 0 0 (3022 + 60 * c)) := by
  have v7 := zVr_11_7 (a := 3000) (zS_V h) rfl
  have c2 : c < 2 := by omega
  have vl := zVr_lot (c := c) (p := 0) (a := 3022 + 60 * c) (zS_V h) c0 c2 (by omega) (by omega) (by omega)
  obtain ⟨n6a, n6b⟩ := (zS_NL h).2.1 c 0 c0 c2 (by omega) (by omega) c1 (by omega)
  rw [show 3022 + 60 * c + 3 * 0 = 3022 + 60 * c by omega] at n6a n6b
  have p3 : Y 2 0 0 (3022 + 60 * c) < Y 2 0 0 102 := by
    by_cases q : Y 2 0 0 (3022 + 60 * c) < Y 2 0 0 102
    · exact q
    · have z := zS_Np h (210 + 20 * Y 2 0 0 (3022 + 60 * c)) (by omega) (by omega)
      omega
  exact (zS_N1 h _ vl.1 (by omega)).2 p3 (by omega)
theorem zM_309 {b c : Int} {s : zSM} {Z Y : qz_Z} (ν : qz_N) (h : zAl b Z Y) (hM : zM s Y) (hc : s.2 + 82 ≤ 1000000000) (c0 : 0 ≤ c) (c1 : c < Y 2 0 0 3000) (c3 : 1 ≤ Y 2 0 0 (3015 + 60 * c)) : zM (zb s 82) (zf_309 Y c) := by
  have v7 := zVr_11_7 (a := 3000) (zS_V h) rfl
  obtain ⟨M, e, _, g, _⟩ := sp_309 (ν := ν) hM (a1 := c) ⟨c0, by omega⟩ c3 (.inr (zS_g9 h c0 c1 c3)) hc
  rw [← e]
  exact g
/-! the books -/
theorem rl_4_2 {b a : Int} (ν : qz_N) : ∀ (m k : Nat) (Z Y : qz_Z) (n8 x : Int) (s : zSM), zAl b Z Y → zM s Y → s.2 + (3 * (12 - x).toNat + 3) ≤ 1000000000 → 0 ≤ x → x ≤ 12 → 12 - x < (m : Int) → 12 - x < (k : Int) → zAl b (zl_4_2 b m Z n8 x).1 (zl_402_1 a k Y x).1 ∧ yFr [1112, 1400, 4202, 4205, 4503, 4513, 4719, 5300, 5301, 5302, 5303, 5304, 5402, 5403, 5404, 5405, 5406] Y (zl_402_1 a k Y x).1
  | 0, _, _, _, _, _, _, _, _, _, _, _, _, _ => by omega
  | m + 1, 0, _, _, _, _, _, _, _, _, _, _, _, _ => by omega
  | m + 1, k + 1, Z, Y, n8, x, s, h, hM, hc, x0, x1, hm, hk => by
    have v10 := zVr_11_10 (a := 3815) (zS_V h) rfl
    unfold zl_4_2 zl_402_1
    rw [zRl_11_10 (a := 3815) (zS_R h) rfl]
    by_cases c : Y 2 0 0 3815 ≤ x
    · rw [if_pos c, if_pos c]
      exact ⟨h, yFr_r⟩
    rw [if_neg c, if_neg c, zRl_54_2 (x := x) (a := 3852 + 8 * x) (zS_R h) x0 (by omega) rfl]
    by_cases d : Y 2 0 0 (3852 + 8 * x) ≠ 0
    · rw [if_pos d, if_pos d]
      exact rl_4_2 ν m k Z Y n8 (x + 1) s h hM (by omega) (by omega) (by omega) (by omega) (by omega)
    · rw [if_neg d, if_neg d]
      obtain ⟨h1, _, g1⟩ := zS_7 (n := n8) h hM x0 (by omega) (Classical.not_not.mp d)
      have hM1 := zM_408 (i := x) ν h hM (by omega) x0 (by omega)
      obtain ⟨h2, g2⟩ := rl_4_2 ν m k _ _ (zf_7 Z n8 b b x).2 (x + 1) (zb s 3) h1 hM1 (by show s.2 + 3 + (3 * (12 - (x + 1)).toNat + 3) ≤ 1000000000; omega) (by omega) (by omega) (by omega) (by omega)
      exact ⟨h2, yFr_t g1 g2 (by decide)⟩
def zk4 (b n : Int) (A : qz_Z) : qz_Z × Int := zlet3 (zl_4_2 b 13 A n 0) (fun Z34 n37 y33 => (if (z2 (fun x y => x - x / y * y) (((Z34 11 b 0 13) / 24) - 1) 7) ≠ 6 then (zlet2 (zl_4_3 b 7 Z34 3) (fun Z43 y42 => (Z43, n37))) else (zlet (zf_8 Z34 b) (fun Z46 => (zlet2 (zl_4_3 b 7 Z46 3) (fun Z49 y48 => (Z49, n37)))))))
theorem zlet_c {α β : Type} {v : qz_Z} {k : qz_Z → β} {k' : qz_Z → α} {K : α → β} (h : ∀ z, k z = K (k' z)) : zlet v k = K (zlet v k') := h v
theorem zf_4e {b n : Int} {Z : qz_Z} : zf_4 Z n b = zk4 b n (zf_9405 (zl_4_1 b 7 Z 0 0).1 b (w3 ((zl_4_1 b 7 Z 0 0).2.1 * (zl_4_1 b 7 Z 0 0).1 13 b 0 1))) := by
  have e3 : ∀ {α : Type} (q : qz_Z × Int × Int) (kk : qz_Z → Int → Int → α), zlet3 q kk = kk q.1 q.2.1 q.2.2 := fun _ _ => rfl
  unfold zf_4 zf_9405
  rw [e3]
  by_cases c : w3 ((zl_4_1 b 7 Z 0 0).2.1 * (zl_4_1 b 7 Z 0 0).1 13 b 0 1) ≠ 0
  · rw [if_pos c, if_pos c]
    refine zlet_c (K := zk4 b n) (fun _ => ?_)
    refine zlet_c (K := zk4 b n) (fun _ => ?_)
    refine zlet_c (K := zk4 b n) (fun _ => ?_)
    refine zlet_c (K := zk4 b n) (fun _ => ?_)
    refine zlet_c (K := zk4 b n) (fun _ => ?_)
    refine zlet_c (K := zk4 b n) (fun _ => ?_)
    refine zlet_c (K := zk4 b n) (fun _ => ?_)
    exact zlet_c (K := zk4 b n) (fun _ => rfl)
  · rw [if_neg c, if_neg c]
    rfl
/-- rooms' hours are told -/
theorem zNr_463 {Y : qz_Z} (h : zNr Y) : ∀ (m : Nat) (M : qz_Z) (x : Int), 0 ≤ x → (∀ a, M 2 0 0 a = Y 2 0 0 a ∨ M 2 0 0 a = 0) → M 2 0 0 1200 = Y 2 0 0 1200 → (∀ a, (zl_463_1 m M x).1 2 0 0 a = Y 2 0 0 a ∨ (zl_463_1 m M x).1 2 0 0 a = 0) ∧ (zl_463_1 m M x).1 2 0 0 1200 = Y 2 0 0 1200
  | 0, M, x, _, g, g2 => ⟨g, g2⟩
  | m + 1, M, x, x0, g, g2 => by
    unfold zl_463_1
    split
    · exact ⟨g, g2⟩
    · simp only [zlet]
      refine zNr_463 h m _ _ (by omega) (fun a => ?_) ?_
      · by_cases q : a = 1218 + 12 * x
        · rw [q, zua]
          exact .inr rfl
        · rw [zun q]
          exact g a
      · rw [zun (by omega)]
        exact g2
theorem zNr_0 {Y M : qz_Z} (h : zNr Y) (v : 0 ≤ Y 2 0 0 1200) (g : ∀ a, M 2 0 0 a = Y 2 0 0 a ∨ M 2 0 0 a = 0) (e : M 2 0 0 1200 = Y 2 0 0 1200) : zNr M := by
  unfold zNr
  rw [e]
  refine ⟨fun a a0 a1 => ?_, fun r r0 r1 => ?_⟩
  · rcases g a with q | q
    · rw [q]
      exact h.1 a a0 a1
    · exact q
  · rcases g (3510 + r) with q | q
    · rw [q]
      exact h.2 r r0 r1
    · exact q
theorem zl41_k {b : Int} {P : qz_Z → Prop} (hu : ∀ Z i j v, P Z → P (zu Z 43 b i j v)) : ∀ (m : Nat) (Z : qz_Z) (x1 x2 : Int), P Z → P (zl_4_1 b m Z x1 x2).1
  | 0, Z, x1, x2, h => h
  | m + 1, Z, x1, x2, h => by
    unfold zl_4_1
    split
    · exact h
    · simp only [zlet]
      exact zl41_k hu m _ _ _ (hu _ _ _ _ h)
theorem zS_4a {b : Int} {Z Y : qz_Z} (h : zAl b Z Y) : zAl b (zf_9405 (zl_4_1 b 7 Z 0 0).1 b (w3 ((zl_4_1 b 7 Z 0 0).2.1 * (zl_4_1 b 7 Z 0 0).1 13 b 0 1))) (zf_463 (zf_403 Y 0 4 (w3 (Y 2 0 0 3811 * zf_492 Y)) (-1))) ∧ yFr [1112, 1400, 4309, 5300, 5301, 5302, 5303, 5304] Y (zf_463 (zf_403 Y 0 4 (w3 (Y 2 0 0 3811 * zf_492 Y)) (-1))) := by
  obtain ⟨r1, r2, f, g⟩ := rr_4a (b := b) (zS_R h) (zS_V h)
  have nr : zNr (zf_463 (zf_403 Y 0 4 (w3 (Y 2 0 0 3811 * zf_492 Y)) (-1))) := by
    obtain ⟨q1, q2, q3, q4⟩ := rr_9005 (b := b) (f := 0) (t := 4) (c := w3 (Y 2 0 0 3811 * zf_492 Y)) (p := -1) (zS_R h) (zS_V h) (by omega) (by omega) (by omega) (by omega)
    have n1 : zNr (zf_403 Y 0 4 (w3 (Y 2 0 0 3811 * zf_492 Y)) (-1)) := zNr_f (zS_Nr h) (zS_V h) q4.1 ⟨rfl, rfl, rfl⟩
    have v2 := zVr_11_2 (a := 1200) q2 rfl
    obtain ⟨w1, w2⟩ := zNr_463 n1 7 (zf_403 Y 0 4 (w3 (Y 2 0 0 3811 * zf_492 Y)) (-1)) 0 (Int.le_refl 0) (fun a => .inl rfl) rfl
    exact zNr_0 n1 v2.1 w1 w2
  have db : zDb b (zl_4_1 b 7 Z 0 0).1 := zl41_k (P := zDb b) (fun _ _ _ _ h => zDb_u h rfl) _ _ _ _ (zS_Db h)
  have e5 : ∀ (A : qz_Z) (c : Int), zf_9405 A b c = zf_9005 A b 0 4 c (-1) := fun A c => rfl
  exact ⟨⟨r1, r2, zD1_f (zS_D1 h) f.1 g.1 ⟨rfl, rfl, rfl⟩, zD4_f (zS_D4 h) f.1 g.1 ⟨⟨rfl, rfl⟩, rfl, rfl, rfl⟩, zN1_f (zS_N1 h) g.1 ⟨rfl, rfl, rfl, rfl⟩, zN4_f (zS_N4 h) g.1 ⟨rfl, rfl, rfl⟩, zN8_f (zS_N8 h) g.1 ⟨rfl, rfl, rfl⟩, zN9_f (zS_N9 h) g.1 ⟨rfl, rfl, rfl⟩, zNL_f (zS_NL h) (zS_V h) g.1 ⟨rfl, rfl, rfl, rfl, rfl⟩, zDl_f (zS_Dl h) f.1 g.1 ⟨rfl, rfl, rfl, rfl, rfl⟩, zDs_f (zS_Ds h) f.1 g.1 ⟨rfl, rfl⟩, zDw_f (zS_Dw h) f.1 g.1 ⟨rfl, rfl⟩, (zFc_at 4000 f.1 rfl rfl rfl).trans (zS_Dg h), zDt_f (zS_Dt h) f.1 g.1 rfl rfl, zFn_f (zS_Fn h) f.1 g.1 ⟨rfl, rfl, rfl, rfl⟩, zNp_f (zS_Np h) (zS_V h) g.1 ⟨rfl, rfl⟩, nr, zNi_f (zS_Ni h) (zS_V h) g.1 ⟨rfl, rfl⟩, zNq_f (zS_Nq h) (zS_V h) g.1 ⟨rfl, rfl⟩, zNk_f (zS_Nk h) g.1 rfl, zNt_f (zS_Nt h) (zS_V h) g.1 ⟨rfl, rfl⟩, zDb_f (zS_Db h) f.1 (by decide), zPb_f (zS_Pb h) f.1 (by decide), zKb_f (zS_Kb h) f.1 (by decide)⟩, g⟩
theorem zS_4 {b n : Int} {s : zSM} {Z Y : qz_Z} (ν : qz_N) (h : zAl b Z Y) (hM : zM s Y) (hc : s.2 + 53 ≤ 1000000000) (h24 : 24 ≤ Y 2 0 0 0) : zAl b (zf_4 Z n b).1 (zf_402 Y (Y 2 0 0 0 / 24 - 1)) := by
  have e3 : ∀ {α : Type} (q : qz_Z × Int × Int) (kk : qz_Z → Int → Int → α), zlet3 q kk = kk q.1 q.2.1 q.2.2 := fun _ _ => rfl
  obtain ⟨h1, g1⟩ := zS_4a h
  have y0 : (zf_463 (zf_403 Y 0 4 (w3 (Y 2 0 0 3811 * zf_492 Y)) (-1))) 2 0 0 0 = Y 2 0 0 0 := yFr_at 1113 g1.1 rfl (zcm_s (ac_11_13 rfl))
  -- the reference's ranges go on
  obtain ⟨Ma, ea, _, ma, _⟩ := sp_403 (ν := ν) hM (a1 := 0) (by omega) (a2 := 4) (by omega) (a3 := w3 (Y 2 0 0 3811 * zf_492 Y)) (w3_r _) (a4 := -1) (by omega) (by omega)
  rw [ea] at ma
  obtain ⟨Mb, eb, _, mb, _⟩ := sp_463 (ν := ν) ma (by show s.2 + 1 + 0 ≤ 1000000000; omega)
  rw [eb] at mb
  rw [zf_4e, zf402_e]
  unfold zk4
  rw [e3]
  obtain ⟨h2, g2⟩ := rl_4_2 (b := b) (a := Y 2 0 0 0 / 24 - 1) ν 13 13 _ _ n 0 (zb s 1) h1 mb (by show s.2 + 1 + (3 * (12 - (0 : Int)).toNat + 3) ≤ 1000000000; omega) (by omega) (by omega) (by omega) (by omega)
  have z0 := (yFr_at 1113 g2.1 rfl (zcm_s (ac_11_13 rfl))).trans y0
  generalize zl_4_2 b 13 (zf_9405 (zl_4_1 b 7 Z 0 0).1 b (w3 ((zl_4_1 b 7 Z 0 0).2.1 * (zl_4_1 b 7 Z 0 0).1 13 b 0 1))) n 0 = A at h2 ⊢
  generalize (zl_402_1 (Y 2 0 0 0 / 24 - 1) 13 (zf_463 (zf_403 Y 0 4 (w3 (Y 2 0 0 3811 * zf_492 Y)) (-1))) 0).1 = B at h2 z0 ⊢
  have v0 := zVr_11_13 (a := 0) (zS_V h) rfl
  rw [zRl_11_13 (a := 0) (zS_R h2) rfl, z0, z2rem (by omega) (by omega) (by omega) (by omega)]
  have last : ∀ {C M : qz_Z}, zAl b C M → zAl b (zl_4_3 b 7 C 3).1 (zc8 M) := fun {C M} h => by
    obtain ⟨r1, r2, f, g⟩ := rr_4c (zS_R h) (zS_V h)
    exact ⟨r1, r2, zD1_f (zS_D1 h) f.1 g.1 ⟨rfl, rfl, rfl⟩, zD4_f (zS_D4 h) f.1 g.1 ⟨⟨rfl, rfl⟩, rfl, rfl, rfl⟩, zN1_f (zS_N1 h) g.1 ⟨rfl, rfl, rfl, rfl⟩, zN4_f (zS_N4 h) g.1 ⟨rfl, rfl, rfl⟩, zN8_f (zS_N8 h) g.1 ⟨rfl, rfl, rfl⟩, zN9_f (zS_N9 h) g.1 ⟨rfl, rfl, rfl⟩, zNL_f (zS_NL h) (zS_V h) g.1 ⟨rfl, rfl, rfl, rfl, rfl⟩, zDl_f (zS_Dl h) f.1 g.1 ⟨rfl, rfl, rfl, rfl, rfl⟩, zDs_f (zS_Ds h) f.1 g.1 ⟨rfl, rfl⟩, zDw_f (zS_Dw h) f.1 g.1 ⟨rfl, rfl⟩, (zFc_at 4000 f.1 rfl rfl rfl).trans (zS_Dg h), zDt_f (zS_Dt h) f.1 g.1 rfl rfl, zFn_f (zS_Fn h) f.1 g.1 ⟨rfl, rfl, rfl, rfl⟩, zNp_f (zS_Np h) (zS_V h) g.1 ⟨rfl, rfl⟩, zNr_f (zS_Nr h) (zS_V h) g.1 ⟨rfl, rfl, rfl⟩, zNi_f (zS_Ni h) (zS_V h) g.1 ⟨rfl, rfl⟩, zNq_f (zS_Nq h) (zS_V h) g.1 ⟨rfl, rfl⟩, zNk_f (zS_Nk h) g.1 rfl, zNt_f (zS_Nt h) (zS_V h) g.1 ⟨rfl, rfl⟩, zDb_f (zS_Db h) f.1 (by decide), zPb_f (zS_Pb h) f.1 (by decide), zKb_f (zS_Kb h) f.1 (by decide)⟩
  by_cases c : (Y 2 0 0 0 / 24 - 1) % 7 ≠ 6
  · rw [if_pos c, if_pos c]
    exact last h2
  · rw [if_neg c, if_neg c]
    obtain ⟨r1, r2, f, g⟩ := rr_8 (C := zf_8 A.1 b) (M := zf_413 B) (zS_R h2) (zS_V h2) rfl rfl
    have h3 : zAl b (zf_8 A.1 b) (zf_413 B) := ⟨r1, r2, zD1_f (zS_D1 h2) f.1 g.1 ⟨rfl, rfl, rfl⟩, zD4_f (zS_D4 h2) f.1 g.1 ⟨⟨rfl, rfl⟩, rfl, rfl, rfl⟩, zN1_f (zS_N1 h2) g.1 ⟨rfl, rfl, rfl, rfl⟩, zN4_f (zS_N4 h2) g.1 ⟨rfl, rfl, rfl⟩, zN8_f (zS_N8 h2) g.1 ⟨rfl, rfl, rfl⟩, zN9_f (zS_N9 h2) g.1 ⟨rfl, rfl, rfl⟩, zNL_f (zS_NL h2) (zS_V h2) g.1 ⟨rfl, rfl, rfl, rfl, rfl⟩, zDl_f (zS_Dl h2) f.1 g.1 ⟨rfl, rfl, rfl, rfl, rfl⟩, zDs_f (zS_Ds h2) f.1 g.1 ⟨rfl, rfl⟩, zDw_f (zS_Dw h2) f.1 g.1 ⟨rfl, rfl⟩, (zFc_at 4000 f.1 rfl rfl rfl).trans (zS_Dg h2), zDt_f (zS_Dt h2) f.1 g.1 rfl rfl, zFn_f (zS_Fn h2) f.1 g.1 ⟨rfl, rfl, rfl, rfl⟩, zNp_f (zS_Np h2) (zS_V h2) g.1 ⟨rfl, rfl⟩, zNr_f (zS_Nr h2) (zS_V h2) g.1 ⟨rfl, rfl, rfl⟩, zNi_f (zS_Ni h2) (zS_V h2) g.1 ⟨rfl, rfl⟩, zNq_f (zS_Nq h2) (zS_V h2) g.1 ⟨rfl, rfl⟩, zNk_f (zS_Nk h2) g.1 rfl, zNt_f (zS_Nt h2) (zS_V h2) g.1 ⟨rfl, rfl⟩, zDb_f (zS_Db h2) f.1 (by decide), zPb_f (zS_Pb h2) f.1 (by decide), zKb_f (zS_Kb h2) f.1 (by decide)⟩
    exact last h3
