/-! what is asked first, told as the reference tells it -/
def zf_9173 (Z : qz_Z) (a0b : Int) (a1 : Int) : Int := (if a1 < 0 then 0 else (if (Z 11 a0b 0 2) ≤ a1 then 0 else (if (Z 43 a0b a1 10) ≤ (Z 11 a0b 0 13) then 0 else 1)))
def zf_9178 (Z : qz_Z) (a0b : Int) (a1 : Int) (a2 : Int) : Int := (if (Z 44 a0b a1 10) = 0 ∨ (Z 44 a0b a1 10) = 1 then (if (Z 44 a0b a1 12) = a2 then 0 else (zlet (zf_9173 Z a0b (Z 44 a0b a1 12)) (fun v7 => (if v7 ≠ 0 then 0 else (zlet (zf_9173 Z a0b a2) (fun v9 => (if v9 ≠ 0 then 0 else (if a2 ≠ 6 then (zlet (zf_182 Z a0b a2) (fun v12 => (if ((Z 43 a0b a2 0) - v12) ≤ 0 then 0 else 1))) else (zlet (zf_182 Z a0b a2) (fun v15 => (if (12 - v15) ≤ 0 then 0 else 1))))))))))) else 0)
def zx_9230 (Z : qz_Z) (a1 : Int) (a2 : Int) : qz_Z × Int × Int := (if a1 < 0 then (Z, 0, 24) else (if (Z 11 0 0 3) ≤ a1 then (Z, 0, 24) else (if a2 < (-1) then (Z, 0, 24) else (if a2 < (Z 11 0 0 2) then (if a2 ≠ (-1) then (zlet (zf_9178 Z 0 a1 a2) (fun v12 => (if v12 = 0 then (Z, 0, 15) else (zlet (zdd Z 8 a1 a2 0 0 0 0) (fun Z22 => (zlet (zf_175 Z22 0 0 a1 a2) (fun Z27 => (zlet (zf_182 Z27 0 a2) (fun v28 => (Z27, ((Z27 43 0 a2 0) - v28), 0)))))))))) else (zlet (zf_9178 Z 0 a1 6) (fun v60 => (if v60 = 0 then (Z, 0, 15) else (zlet (zdd Z 8 a1 a2 0 0 0 0) (fun Z70 => (zlet (zf_175 Z70 0 0 a1 6) (fun Z75 => (zlet (zf_182 Z75 0 6) (fun v76 => (Z75, (12 - v76), 0)))))))))) ) else (Z, 0, 24)))))
def zf_9049 (Z : qz_Z) (a0b : Int) (a1 : Int) (a2 : Int) : Int := (if (Z 47 a0b a1 9) ≠ 0 then 0 else (zlet (zf_9173 Z a0b (Z 44 a0b (Z 47 a0b a1 0) 12)) (fun v8 => (if v8 ≠ 0 then 0 else (if (Z 50 a0b a2 2) ≠ 0 then 0 else (zlet (zf_43 Z a0b a2) (fun v12 => (if (Z 50 a0b a2 0) < (w3 (v12 + (Z 47 a0b a1 3))) then 0 else (zlet (zf_53 Z a0b a2) (fun v19 => (if v19 ≤ 0 then (zlet (zf_40 Z a0b) (fun v21 => (if (Z 11 a0b 0 14) ≤ v21 then 0 else 1))) else 1)))))))))))
theorem zx_230e {Z : qz_Z} {a1 a2 : Int} (hr : Z 11 0 0 2 ≤ 6) : zx_230 Z a1 a2 = zx_9230 Z a1 a2 := by
  unfold zx_230 zx_9230 zf_9178 zf_9173
  simp only [zlet]
  by_cases h1 : a1 < 0
  · rw [if_pos h1, if_pos h1]
  rw [if_neg h1, if_neg h1]
  by_cases h2 : Z 11 0 0 3 ≤ a1
  · rw [if_pos h2, if_pos h2]
  rw [if_neg h2, if_neg h2]
  by_cases h3 : a2 < -1
  · rw [if_pos h3, if_pos h3]
  rw [if_neg h3, if_neg h3]
  by_cases h4 : a2 < Z 11 0 0 2
  · rw [if_pos h4, if_pos h4]
    by_cases h5 : a2 ≠ -1
    · rw [if_pos h5, if_pos h5]
      have h6 : a2 ≠ 6 := by omega
      have h7 : ¬ a2 < 0 := by omega
      have h8 : ¬ Z 11 0 0 2 ≤ a2 := by omega
      simp only [if_pos h6, if_neg h7, if_neg h8]
      grind (splits := 40)
    · rw [if_neg h5, if_neg h5]
      have h7 : ¬ (6 : Int) < 0 := by omega
      have h8 : Z 11 0 0 2 ≤ 6 := by omega
      simp only [if_neg h7, if_pos h8]
      grind (splits := 40)
  · rw [if_neg h4, if_neg h4]
theorem rr_9173 {b r : Int} {Z Y : qz_Z} (hRa : zR b Z Y) (hV : zV Y) (hDs : zDs b Z Y) (hNr : zNr Y) {C M : Int} (hC : zE C (zf_9173 Z b r)) (hM : zE M (zf_390 Y r)) : C = M := by
  have hc : C = _ := hC
  have hm : M = _ := hM
  rw [hc, hm]
  unfold zf_9173 zf_390
  have e2 := zRl_11_2 (a := 1200) hRa rfl
  have e13 := zRl_11_13 (a := 0) hRa rfl
  have v2 := zVr_11_2 (a := 1200) hV rfl
  have v13 := zVr_11_13 (a := 0) hV rfl
  by_cases h0 : r < 0
  · rw [if_pos h0, if_pos h0]
  · rw [if_neg h0, if_neg h0, e2, e13]
    by_cases h5 : 5 < r
    · rw [if_pos h5, if_pos (by omega)]
    · rw [if_neg h5]
      have d := hDs r (by omega) (by omega)
      by_cases h1 : Y 2 0 0 1200 ≤ r
      · rw [if_pos h1]
        have n := hNr.2 r h1 (by omega)
        rw [n, if_pos (by omega)]
      · rw [if_neg h1]
        rcases d with d | d
        · rw [d]
        · rw [d.1, d.2, if_pos (by omega), if_pos (by omega)]
/-! single rows -/
theorem zN1_1 {Y M : qz_Z} {q : Int} (h : zN1 Y) (f : ∀ p : Int, p ≠ q → 0 ≤ p → p < 48 → M 2 0 0 (210 + 20 * p) = Y 2 0 0 (210 + 20 * p) ∧ M 2 0 0 (211 + 20 * p) = Y 2 0 0 (211 + 20 * p) ∧ M 2 0 0 (204 + 20 * p) = Y 2 0 0 (204 + 20 * p)) (c : M 2 0 0 102 = Y 2 0 0 102) (g : (1 < M 2 0 0 (210 + 20 * q) → M 2 0 0 (211 + 20 * q) = -1 ∧ M 2 0 0 (204 + 20 * q) = 0) ∧ (M 2 0 0 (210 + 20 * q) ≤ 1 → 0 ≤ M 2 0 0 (211 + 20 * q))) : zN1 M := fun p h0 h1 => by
  by_cases e : p = q
  · subst e
    exact ⟨g.1, fun _ => g.2⟩
  · obtain ⟨f1, f2, f3⟩ := f p e h0 h1
    rw [f1, f2, f3, c]
    exact h p h0 h1
theorem zN8_1 {Y M : qz_Z} {q : Int} (h : zN8 Y) (f : ∀ p : Int, p ≠ q → 0 ≤ p → p < 48 → M 2 0 0 (211 + 20 * p) = Y 2 0 0 (211 + 20 * p)) (c : M 2 0 0 102 = Y 2 0 0 102) (d : M 2 0 0 1200 = Y 2 0 0 1200) (g : M 2 0 0 (211 + 20 * q) < M 2 0 0 1200 ∨ M 2 0 0 (211 + 20 * q) = 6) : zN8 M := fun p h0 h1 h2 => by
  by_cases e : p = q
  · subst e
    exact g
  · rw [f p e h0 h1, d]
    exact h p h0 h1 (by omega)
theorem zN4_1 {Y M : qz_Z} {q : Int} (h : zN4 Y) (f : ∀ r : Int, r ≠ q → 0 ≤ r → r < 60 → M 2 0 0 2000 = Y 2 0 0 2000 ∧ M 2 0 0 (2019 + 16 * r) = Y 2 0 0 (2019 + 16 * r) ∧ M 2 0 0 (2020 + 16 * r) = Y 2 0 0 (2020 + 16 * r)) (g : (M 2 0 0 (2019 + 16 * q) ≠ 1 → M 2 0 0 (2020 + 16 * q) = -1) ∧ (M 2 0 0 (2019 + 16 * q) = 1 → 0 ≤ M 2 0 0 (2020 + 16 * q))) : zN4 M := fun r h0 h1 h2 => by
  by_cases e : r = q
  · subst e
    exact g
  · obtain ⟨f1, f2, f3⟩ := f r e h0 h1
    rw [f2, f3]
    exact h r h0 h1 (by omega)
/-- a pallet that isn't queued changes -/
theorem zNL_1 {Y M : qz_Z} {q : Int} (h : zNL Y) (hV : zV Y) (q0 : 0 ≤ q) (q1 : q < 48) (s0 : Y 2 0 0 (210 + 20 * q) ≠ 1) (s1 : M 2 0 0 (210 + 20 * q) ≠ 1) (f : ∀ a : Int, (3000 ≤ a ∧ a < 3130 ∨ 200 ≤ a ∧ a < 1160 ∧ ¬ (200 + 20 * q ≤ a ∧ a < 220 + 20 * q)) → M 2 0 0 a = Y 2 0 0 a) : zNL M := by
  obtain ⟨h5, h6, h7⟩ := h
  have fc : ∀ c : Int, 0 ≤ c → c < 2 → M 2 0 0 (3015 + 60 * c) = Y 2 0 0 (3015 + 60 * c) := fun c g0 g1 => f _ (by omega)
  have fl : ∀ c p : Int, 0 ≤ c → c < 2 → 0 ≤ p → p < 12 → M 2 0 0 (3022 + 60 * c + 3 * p) = Y 2 0 0 (3022 + 60 * c + 3 * p) := fun c p g0 g1 g2 g3 => f _ (by omega)
  have f3 : M 2 0 0 3000 = Y 2 0 0 3000 := f _ (by omega)
  refine ⟨fun c p c' p' c0 c1 c2 c3 p0 p1 p2 p3 a1 a2 a3 a4 a5 => ?_, fun c p c0 c1 p0 p1 a1 a2 => ?_, fun r r0 r1 r2 => ?_⟩
  · rw [f3] at a1 a2
    rw [fc c c0 c1] at a3
    rw [fc c' c2 c3] at a4
    rw [fl c p c0 c1 p0 p1, fl c' p' c2 c3 p2 p3] at a5
    exact h5 c p c' p' c0 c1 c2 c3 p0 p1 p2 p3 a1 a2 a3 a4 a5
  · rw [f3] at a1
    rw [fc c c0 c1] at a2
    rw [fl c p c0 c1 p0 p1]
    have g := h6 c p c0 c1 p0 p1 a1 a2
    have v := zVr_lot (c := c) (p := p) (a := 3022 + 60 * c + 3 * p) hV c0 c1 p0 p1 rfl
    have n : Y 2 0 0 (3022 + 60 * c + 3 * p) ≠ q := fun e => by rw [e] at g; exact s0 g.1
    rw [f (210 + 20 * Y 2 0 0 (3022 + 60 * c + 3 * p)) (by omega), f (204 + 20 * Y 2 0 0 (3022 + 60 * c + 3 * p)) (by omega)]
    exact g
  · have n : r ≠ q := fun e => by rw [e] at r2; exact s1 r2
    rw [f (210 + 20 * r) (by omega)] at r2
    obtain ⟨c, t, c0, c1, c2, t0, t1, t2, t3⟩ := h7 r r0 r1 r2
    refine ⟨c, t, c0, c1, ?_, t0, t1, ?_, ?_⟩
    · rw [f3]
      exact c2
    · rw [fc c c0 c1]
      exact t2
    · rw [fl c t c0 c1 t0 t1]
      exact t3
/-! to another place -/
theorem z472_w {Y : qz_Z} {p w : Int} : zf_472 Y p w 2 0 0 (211 + 20 * p) = w := by
  unfold zf_472
  simp only [zlet]
  repeat' split
  all_goals exact zu_at rfl
theorem z472_g {Y : qz_Z} {p w a : Int} (h : a ≠ 211 + 20 * p) (g : ∀ r : Int, 0 ≤ r → r ≤ 5 → (r = Y 2 0 0 (211 + 20 * p) ∨ r = w) → a ≠ 1216 + 12 * r) : zf_472 Y p w 2 0 0 a = Y 2 0 0 a := by
  unfold zf_472
  simp only [zlet]
  repeat' split
  all_goals first
    | (rw [zu_ne rfl (fun q => h q.2.2.2), zu_ne rfl (fun q => g _ (by omega) (by omega) (by first | exact .inl rfl | exact .inr rfl) q.2.2.2), zu_ne rfl (fun q => g _ (by omega) (by omega) (by first | exact .inl rfl | exact .inr rfl) q.2.2.2)]; done)
    | (rw [zu_ne rfl (fun q => h q.2.2.2), zu_ne rfl (fun q => g _ (by omega) (by omega) (by first | exact .inl rfl | exact .inr rfl) q.2.2.2)]; done)
    | (rw [zu_ne rfl (fun q => h q.2.2.2)]; done)
theorem z472_o {Y : qz_Z} {p w a : Int} (h : a ≠ 211 + 20 * p) (g : a < 1210 ∨ 1282 ≤ a) : zf_472 Y p w 2 0 0 a = Y 2 0 0 a := z472_g h (fun r _ _ _ => by omega)
/-- doors are those of rooms that are there -/
theorem zNr_d {Y : qz_Z} {p w : Int} (hN : zNr Y) (c0 : 0 ≤ Y 2 0 0 1200) (e0 : 0 ≤ p) (e1 : p < 48) (o : Y 2 0 0 (211 + 20 * p) < Y 2 0 0 1200 ∨ 5 < Y 2 0 0 (211 + 20 * p)) (n : w < Y 2 0 0 1200 ∨ 5 < w) : zNr (zf_472 Y p w) := by
  unfold zNr
  rw [z472_o (a := 1200) (by omega) (by omega)]
  refine ⟨fun a h0 h1 => ?_, fun r h0 h1 => ?_⟩
  · rw [z472_g (by omega) (fun r r0 r1 r2 => by rcases r2 with r2 | r2 <;> omega)]
    exact hN.1 a h0 h1
  · rw [z472_o (by omega) (by omega)]
    exact hN.2 r h0 h1
/-- what parcels are of is there -/
def zN9 (Y : qz_Z) : Prop := ∀ q : Int, 0 ≤ q → q < 60 → q < Y 2 0 0 2000 → Y 2 0 0 (2010 + 16 * q) < Y 2 0 0 102
theorem zN9_f {K : List Nat} {Y M : qz_Z} (h : zN9 Y) (g : yFa K Y M) (e : K.contains 4700 = false ∧ K.contains 1106 = false ∧ K.contains 1103 = false) : zN9 M := fun q h0 h1 h2 => by
  rw [yFr_at 4700 g e.1 (zcm_s (ac_47_0 h0 h1 rfl)), yFr_at 1103 g e.2.2 (zcm_s (ac_11_3 rfl))]
  rw [yFr_at 1106 g e.2.1 (zcm_s (ac_11_6 rfl))] at h2
  exact h q h0 h1 h2
theorem rr_175p {b p w : Int} {Z Y : qz_Z} (hRa : zR b Z Y) (hV : zV Y) (hN1 : zN1 Y) (hN8 : zN8 Y) (hNr : zNr Y) (e0 : 0 ≤ p) (e1 : p < 48) (e2 : 0 ≤ w) (e3 : w ≤ 6) (e4 : Y 2 0 0 (210 + 20 * p) ≤ 1) (e5 : w < Y 2 0 0 1200 ∨ w = 6) (e6 : p < Y 2 0 0 102) {C M : qz_Z} (hC : zE C (zf_175 Z b b p w)) (hM : zE M (zf_472 Y p w)) : zR b C M ∧ zV M ∧ zFc [4307, 4412] b Z C ∧ yFr [4307, 4412] Y M ∧ zN1 M ∧ zN8 M ∧ zNr M := by
  obtain ⟨g1, g2, g3, g4⟩ := rr_175 hRa hV e0 e1 (by omega) e3 hC hM
  have hm : M = zf_472 Y p w := hM
  have ro : M 2 0 0 1200 = Y 2 0 0 1200 := by rw [hm]; exact z472_o (by omega) (by omega)
  have rp : M 2 0 0 102 = Y 2 0 0 102 := by rw [hm]; exact z472_o (by omega) (by omega)
  have rw_ : M 2 0 0 (211 + 20 * p) = w := by rw [hm]; exact z472_w
  have n8 := hN8 p e0 e1 e6
  refine ⟨g1, g2, g3, g4, zN1_1 (q := p) hN1 (fun r n r0 r1 => ?_) rp ?_, zN8_1 (q := p) hN8 (fun r n r0 r1 => ?_) rp ro (by rw [rw_, ro]; exact e5), by rw [hm]; exact zNr_d hNr (zVr_11_2 (a := 1200) hV rfl).1 e0 e1 (by omega) (by omega)⟩
  · rw [hm]
    exact ⟨z472_o (by omega) (by omega), z472_o (by omega) (by omega), z472_o (by omega) (by omega)⟩
  · rw [rw_, show M 2 0 0 (210 + 20 * p) = Y 2 0 0 (210 + 20 * p) from by rw [hm]; exact z472_o (by omega) (by omega)]
    exact ⟨fun _ => by omega, fun _ => e2⟩
  · rw [hm]
    exact z472_o (by omega) (by omega)
theorem zN1_0 {Y M : qz_Z} (h : zN1 Y) (f : ∀ p : Int, 0 ≤ p → p < 48 → M 2 0 0 (210 + 20 * p) = Y 2 0 0 (210 + 20 * p) ∧ M 2 0 0 (211 + 20 * p) = Y 2 0 0 (211 + 20 * p) ∧ M 2 0 0 (204 + 20 * p) = Y 2 0 0 (204 + 20 * p)) (c : M 2 0 0 102 = Y 2 0 0 102) : zN1 M := fun p h0 h1 => by
  obtain ⟨f1, f2, f3⟩ := f p h0 h1
  rw [f1, f2, f3, c]
  exact h p h0 h1
theorem zN8_0 {Y M : qz_Z} (h : zN8 Y) (f : ∀ p : Int, 0 ≤ p → p < 48 → M 2 0 0 (211 + 20 * p) = Y 2 0 0 (211 + 20 * p)) (c : M 2 0 0 102 = Y 2 0 0 102) (d : M 2 0 0 1200 = Y 2 0 0 1200) : zN8 M := fun p h0 h1 h2 => by
  rw [f p h0 h1, d]
  exact h p h0 h1 (by omega)
theorem zNL_0 {Y M : qz_Z} (h : zNL Y) (f : ∀ a : Int, (3000 ≤ a ∧ a < 3130 ∨ 200 ≤ a ∧ a < 1160) → M 2 0 0 a = Y 2 0 0 a) (hV : zV Y) : zNL M := by
  obtain ⟨h5, h6, h7⟩ := h
  have fc : ∀ c : Int, 0 ≤ c → c < 2 → M 2 0 0 (3015 + 60 * c) = Y 2 0 0 (3015 + 60 * c) := fun c g0 g1 => f _ (by omega)
  have fl : ∀ c p : Int, 0 ≤ c → c < 2 → 0 ≤ p → p < 12 → M 2 0 0 (3022 + 60 * c + 3 * p) = Y 2 0 0 (3022 + 60 * c + 3 * p) := fun c p g0 g1 g2 g3 => f _ (by omega)
  have f3 : M 2 0 0 3000 = Y 2 0 0 3000 := f _ (by omega)
  refine ⟨fun c p c' p' c0 c1 c2 c3 p0 p1 p2 p3 a1 a2 a3 a4 a5 => ?_, fun c p c0 c1 p0 p1 a1 a2 => ?_, fun r r0 r1 r2 => ?_⟩
  · rw [f3] at a1 a2
    rw [fc c c0 c1] at a3
    rw [fc c' c2 c3] at a4
    rw [fl c p c0 c1 p0 p1, fl c' p' c2 c3 p2 p3] at a5
    exact h5 c p c' p' c0 c1 c2 c3 p0 p1 p2 p3 a1 a2 a3 a4 a5
  · rw [f3] at a1
    rw [fc c c0 c1] at a2
    rw [fl c p c0 c1 p0 p1]
    have g := h6 c p c0 c1 p0 p1 a1 a2
    have v := zVr_lot (c := c) (p := p) (a := 3022 + 60 * c + 3 * p) hV c0 c1 p0 p1 rfl
    rw [f (210 + 20 * Y 2 0 0 (3022 + 60 * c + 3 * p)) (by omega), f (204 + 20 * Y 2 0 0 (3022 + 60 * c + 3 * p)) (by omega)]
    exact g
  · rw [f (210 + 20 * r) (by omega)] at r2
    obtain ⟨c, t, c0, c1, c2, t0, t1, t2, t3⟩ := h7 r r0 r1 r2
    refine ⟨c, t, c0, c1, ?_, t0, t1, ?_, ?_⟩
    · rw [f3]
      exact c2
    · rw [fc c c0 c1]
      exact t2
    · rw [fl c t c0 c1 t0 t1]
      exact t3
theorem z477_s {Y : qz_Z} {p w v : Int} (h : v = zf_477 Y p w) (n : v ≠ 0) : Y 2 0 0 (210 + 20 * p) ≤ 1 := by
  rw [h] at n
  unfold zf_477 at n
  by_cases g : 1 < Y 2 0 0 (210 + 20 * p)
  · rw [if_pos g] at n
    exact absurd rfl n
  · omega
def zf_9426 (Z : qz_Z) (a1 : Int) (a2 : Int) : qz_Z × Int := (zlet (zu Z 2 0 0 (2021 + 16 * a1) (Z 2 0 0 (207 + 20 * (Z 2 0 0 (2010 + 16 * a1))))) (fun Z28 => (zlet (zu Z28 2 0 0 (2022 + 16 * a1) (Z28 2 0 0 (208 + 20 * (Z 2 0 0 (2010 + 16 * a1))))) (fun Z30 => (zlet (zu Z30 2 0 0 (2023 + 16 * a1) (Z30 2 0 0 0)) (fun Z32 => (zlet (zu Z32 2 0 0 (2024 + 16 * a1) (Z32 2 0 0 (207 + 20 * (Z 2 0 0 (2010 + 16 * a1))))) (fun Z35 => (zlet (zu Z35 2 0 0 (2025 + 16 * a1) (Z35 2 0 0 (208 + 20 * (Z 2 0 0 (2010 + 16 * a1))))) (fun Z38 => (zlet (zu Z38 2 0 0 (2020 + 16 * a1) a2) (fun Z39 => (zlet (zu Z39 2 0 0 (2019 + 16 * a1) 1) (fun Z42 => (zlet (zf_429 Z42 (Z 2 0 0 (2010 + 16 * a1))) (fun Z46 => (zlet (zf_518 Z46 a2 1) (fun v47 => (Z46, v47)))))))))))))))))))
def zy_9426 (Z : qz_Z) (dm : qz_Z → Int → Int → Int → Int → Int → Int → Int → qz_Z) (a1 : Int) (a2 : Int) : qz_Z × Int := (if a1 < 0 then (zlet (zu Z 1 0 0 2 1) (fun Z5 => (Z5, 0))) else (if ((Z 2 0 0 2000) - 1) < a1 then (zlet (zu Z 1 0 0 2 1) (fun Z8 => (Z8, 0))) else (if a2 < 0 then (zlet (zu Z 1 0 0 2 1) (fun Z10 => (Z10, 0))) else (if ((Z 2 0 0 3200) - 1) < a2 then (zlet (zu Z 1 0 0 2 1) (fun Z13 => (Z13, 0))) else (zlet (zu Z 1 0 0 2 0) (fun Z14 => (zlet (zf_437 Z14 a1 a2) (fun v15 => (if v15 = 0 then (zlet (zu Z14 1 0 0 2 2) (fun Z17 => (Z17, 0))) else (zlet (zu Z14 1 0 0 2 0) (fun Z18 => (zlet (dm Z18 21 a1 a2 0 0 0 0) (fun Z25 => (zlet2 (zf_9426 Z25 a1 a2) (fun Z46 v47 => (Z46, v47))))))))))))))))
theorem zy_426e {Z : qz_Z} {dm : qz_Z → Int → Int → Int → Int → Int → Int → Int → qz_Z} {a1 a2 : Int} : zy_426 Z dm a1 a2 = zy_9426 Z dm a1 a2 := rfl
