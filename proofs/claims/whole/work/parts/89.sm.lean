/-- what a sale wants and keeps -/
def zSl (b p : Int) (Z Y : qz_Z) : Prop := zR b Z Y ∧ zV Y ∧ zD1 b Z Y ∧ zD4 b Z Y ∧ zN4 Y ∧ zN1 Y ∧ zN9 Y ∧ zLs p Y ∧ zDb b Z
theorem rr_287 {Y : qz_Z} {o p h : Int} : zf_287 Y o p h = min (zlf Y o / h) (min (Y 2 0 0 (204 + 20 * p)) (Y 2 0 0 (1516 + 12 * o))) := by
  unfold zf_287
  simp only [zlet]
  have e : w3 (w3 (Y 2 0 0 (1411 + 12 * Y 2 0 0 (1510 + 12 * o)) + Y 2 0 0 (1413 + 12 * Y 2 0 0 (1510 + 12 * o))) - zf_289 Y (Y 2 0 0 (1510 + 12 * o))) = zlf Y o := rfl
  rw [e]
  generalize zlf Y o / h = L
  split
  · split <;> omega
  · split <;> omega
theorem zl309_1 {c p start res st : Int} {Y : qz_Z} {h : Int} : ∀ n : Nat, zl_309_1 c p start res st n Y h 1 = (Y, h, 1)
  | 0 => rfl
  | n + 1 => by
    rw [zl_309_1, if_pos (by omega)]
theorem zl309_s {c p start res st : Int} {Y : qz_Z} {h : Int} {n : Nat} : zl_309_1 c p start res st (n + 1) Y h 0 = (if zf_286 Y p h ≠ -1 then (if zf_9433 Y c p (zf_286 Y p h) (zf_287 Y (zf_286 Y p h) p h) h 2 0 0 (204 + 20 * p) ≠ 0 then (if start ≤ h + zf_9433 Y c p (zf_286 Y p h) (zf_287 Y (zf_286 Y p h) p h) h 2 0 0 (3014 + 60 * c) * st then zl_309_1 c p start res st n (zf_9433 Y c p (zf_286 Y p h) (zf_287 Y (zf_286 Y p h) p h) h) start 0 else zl_309_1 c p start res st n (zf_9433 Y c p (zf_286 Y p h) (zf_287 Y (zf_286 Y p h) p h) h) (h + zf_9433 Y c p (zf_286 Y p h) (zf_287 Y (zf_286 Y p h) p h) h 2 0 0 (3014 + 60 * c) * st) 0) else zl_309_1 c p start res st n (zf_9433 Y c p (zf_286 Y p h) (zf_287 Y (zf_286 Y p h) p h) h) h 1) else (if res ≤ h - st then zl_309_1 c p start res st n Y (h - st) 0 else zl_309_1 c p start res st n Y (h - 0) 1)) := by
  rw [zl_309_1, if_neg (show ¬ (0 : Int) ≠ 0 by omega)]
  rfl
theorem rl_73 {b c p start res st : Int} (c0 : 0 ≤ c) (c1 : c < 2) (p0 : 0 ≤ p) (p1 : p < 48) (s1 : 1 ≤ st) (r1 : 1 ≤ res) (rs : res ≤ start) (s2 : start ≤ res + 200 * st) : ∀ (m n : Nat) (Z Y : qz_Z) (x9 x10 : Int), zSl b p Z Y → Y 2 0 0 (210 + 20 * p) ≤ 1 → p < Y 2 0 0 102 → 0 ≤ Y 2 0 0 (3014 + 60 * c) → 0 ≤ x10 → 41 ≤ x10 + (m : Int) → Y 2 0 0 (204 + 20 * p) + x10 ≤ 40 → 1 ≤ Y 2 0 0 (204 + 20 * p) → res ≤ (if x10 ≤ 0 then x9 else min (x9 + Y 2 0 0 (3014 + 60 * c) * st) start) → (if x10 ≤ 0 then x9 else min (x9 + Y 2 0 0 (3014 + 60 * c) * st) start) ≤ start → 202 * Y 2 0 0 (204 + 20 * p) + 203 ≤ (n : Int) → zSl b p (zl_73_1 b c p c p start res st m Z x9 x10).1 (zl_309_1 c p start res st n Y (if x10 ≤ 0 then x9 else min (x9 + Y 2 0 0 (3014 + 60 * c) * st) start) 0).1 ∧ (zl_73_1 b c p c p start res st m Z x9 x10).2.1 = (zl_309_1 c p start res st n Y (if x10 ≤ 0 then x9 else min (x9 + Y 2 0 0 (3014 + 60 * c) * st) start) 0).2.1 ∧ zFc [1106, 1112, 1400, 4202, 4203, 4204, 4404, 4405, 4504, 4509, 4606, 4608, 4700, 4701, 4702, 4703, 4704, 4705, 4706, 4707, 4708, 4709, 4710, 4714, 4715, 4716, 4717, 4718, 4719, 4720, 4809, 4810, 4811, 5300, 5301, 5302, 5303, 5304] b Z (zl_73_1 b c p c p start res st m Z x9 x10).1 ∧ yFr [1106, 1112, 1400, 4202, 4203, 4204, 4404, 4405, 4606, 4700, 4701, 4702, 4703, 4704, 4705, 4706, 4707, 4708, 4709, 4710, 4714, 4715, 4716, 4717, 4719, 4720, 4809, 4810, 4811, 5300, 5301, 5302, 5303, 5304] Y (zl_309_1 c p start res st n Y (if x10 ≤ 0 then x9 else min (x9 + Y 2 0 0 (3014 + 60 * c) * st) start) 0).1
  | 0, n, Z, Y, x9, x10, h, hs, hp, hr, k0, k1, k2, k3, h1, h2, hn => by omega
  | m + 1, n, Z, Y, x9, x10, h, hs, hp, hr, k0, k1, k2, k3, h1, h2, hn => by
    have hh := h
    obtain ⟨hRa, hV, hD1, hD4, hN4, hN1, hN9, hLs, hDb⟩ := hh
    have e4 : Z 44 b p 4 = Y 2 0 0 (204 + 20 * p) := zRl_44_4 hRa p0 p1 rfl
    have er : Z 48 b c 4 = Y 2 0 0 (3014 + 60 * c) := zRl_48_4 hRa c0 c1 rfl
    rw [zl_73s, if_neg (show ¬ 40 ≤ x10 by omega), if_neg (show ¬ Z 44 b p 4 ≤ 0 by omega), er]
    generalize hh0 : (if x10 ≤ 0 then x9 else min (x9 + Y 2 0 0 (3014 + 60 * c) * st) start) = h0 at h1 h2 ⊢
    unfold zg_73
    have f1 := zediv (a := max 0 (h0 - zf_26 Z b b p) + st - 1) s1
    have m1 := zediv (a := h0 - res) s1
    have hi := fun (pr : Int) (r0 : 1 ≤ pr) => rr_26 (pr := pr) hRa hV hDb hN1 p0 p1 r0
    generalize hf : (max 0 (h0 - zf_26 Z b b p) + st - 1) / st = f at f1 ⊢
    generalize hm : (h0 - res) / st = mo at m1 ⊢
    have f0 : 0 ≤ f := by
      rw [← hf]
      exact Int.ediv_nonneg (by omega) (by omega)
    have mo0 : 0 ≤ mo := by
      rw [← hm]
      exact Int.ediv_nonneg (by omega) (by omega)
    have mo200 : mo ≤ 200 := by
      by_cases q : mo ≤ 200
      · exact q
      · have g : 201 * st ≤ mo * st := Int.mul_le_mul_of_nonneg_right (by omega) (by omega)
        omega
    -- no taker before
    have none : ∀ k : Int, k ≤ f → k ≤ mo → ∀ j : Int, 0 ≤ j → j < k → zf_286 Y p (h0 - j * st) = -1 ∧ res ≤ h0 - (j + 1) * st := fun k kf km j j0 j1 => by
      have g1 : (j + 1) * st ≤ mo * st := Int.mul_le_mul_of_nonneg_right (by omega) (by omega)
      have g2 : (j + 1) * st ≤ f * st := Int.mul_le_mul_of_nonneg_right (by omega) (by omega)
      have g3 : 0 ≤ j * st := Int.mul_nonneg j0 (by omega)
      rw [Int.add_mul, Int.one_mul] at g1 g2 ⊢
      refine ⟨(hi (h0 - j * st) (by omega)).2 (by omega), by omega⟩
    have cm : ∀ x : Int, st * x = x * st := fun x => Int.mul_comm st x
    by_cases fm : f ≤ mo
    · rw [if_pos fm, show min mo f = f by omega, cm f]
      have g1 : f * st ≤ mo * st := Int.mul_le_mul_of_nonneg_right fm (by omega)
      generalize hP : f * st = P at f1 g1 none ⊢
      have hd1 : res ≤ h0 - P := by omega
      obtain ⟨t1, t2, t3, t4⟩ := (hi (h0 - P) (by omega)).1 (by omega)
      have e34 : zf_34 Z b b p (h0 - P) = zf_286 Y p (h0 - P) := rr_34 hRa hV hDb hN1 p0 p1 (by omega) rfl rfl
      rw [e34]
      have v5 := zVr_11_5 (a := 1401) hV rfl
      -- the reference gets there
      have nf : n = (n - f.toNat - 1 + 1) + f.toNat := by omega
      have st_ := zl309_f (c := c) (p := p) (start := start) (res := res) (st := st) (Y := Y) f.toNat (n - f.toNat - 1 + 1) h0 (fun j j0 j1 => none f (by omega) fm j j0 (by omega))
      rw [← nf, show ((f.toNat : Nat) : Int) = f by omega, hP] at st_
      rw [st_]
      have o0 := t1
      have o1 : zf_286 Y p (h0 - P) < 24 := by omega
      rw [zl309_s, if_pos (show zf_286 Y p (h0 - P) ≠ -1 by omega), if_pos (show zf_286 Y p (h0 - P) ≠ -1 by omega)]
      generalize zf_286 Y p (h0 - P) = o at t1 t2 t4 o0 o1 ⊢
      rw [rr_lf hRa hV hDb o0 o1, e4, zRl_46_6 (x := o) (a := 1516 + 12 * o) hRa o0 o1 rfl, rr_287]
      have L1 : 1 ≤ zlf Y o / (h0 - P) := by
        have q := t4.2.2.2
        exact Int.le_ediv_of_mul_le (by omega) (by omega)
      have W1 : 1 ≤ Y 2 0 0 (1516 + 12 * o) := by
        have q := t4.2.1
        unfold zf_260 at q
        by_cases z : Y 2 0 0 (1516 + 12 * o) ≤ 0
        · rw [if_pos z] at q
          exact absurd rfl q
        · omega
      have n1 : 1 ≤ min (zlf Y o / (h0 - P)) (min (Y 2 0 0 (204 + 20 * p)) (Y 2 0 0 (1516 + 12 * o))) := by omega
      have n2 : min (zlf Y o / (h0 - P)) (min (Y 2 0 0 (204 + 20 * p)) (Y 2 0 0 (1516 + 12 * o))) ≤ Y 2 0 0 (204 + 20 * p) := by omega
      generalize min (zlf Y o / (h0 - P)) (min (Y 2 0 0 (204 + 20 * p)) (Y 2 0 0 (1516 + 12 * o))) = k at n1 n2 ⊢
      have v6 := zVr_11_6 (a := 2000) hV rfl
      obtain ⟨g1', g2, g3, g4, g5, g6, g7, g8, g9, g10⟩ := rr_9032 (o := o) (h := h0 - P) (n := k) hRa hV hD1 hD4 hN4 hN1 hN9 hLs c0 c1 p0 p1 o0 o1 n1 (by omega) t3 hs hp rfl rfl
      have gdb := zDb_sell (c := c) (p := p) (o := o) (h := h0 - P) (n := k) hDb (by rw [zRl_11_6 (a := 2000) hRa rfl]; exact v6.1)
      have g44 : zf_9433 Y c p o k (h0 - P) 2 0 0 (204 + 20 * p) = Y 2 0 0 (204 + 20 * p) - k := by rw [← zRl_44_4 (x := p) (a := 204 + 20 * p) g1' p0 p1 rfl, zf_9032_4, e4]
      have q1 : zf_9433 Y c p o k (h0 - P) 2 0 0 (210 + 20 * p) ≤ 1 := by rw [yFr_at 4410 g4.1 rfl (zcm_s (ac_44_10 p0 p1 rfl))]; exact hs
      have q2 : p < zf_9433 Y c p o k (h0 - P) 2 0 0 102 := by rw [yFr_at 1103 g4.1 rfl (zcm_s (ac_11_3 rfl))]; exact hp
      have q3 : zf_9433 Y c p o k (h0 - P) 2 0 0 (3014 + 60 * c) = Y 2 0 0 (3014 + 60 * c) := yFr_at 4804 g4.1 rfl (zcm_s (ac_48_4 c0 c1 rfl))
      have zs : zSl b p (zf_9032 Z b c p o (h0 - P) k) (zf_9433 Y c p o k (h0 - P)) := ⟨g1', g2, g5, g6, g7, g8, g9, g10, gdb⟩
      have z4 : zf_9032 Z b c p o (h0 - P) k 44 b p 4 = Y 2 0 0 (204 + 20 * p) - k := by rw [zf_9032_4, e4]
      generalize zf_9032 Z b c p o (h0 - P) k = Z1 at g1' g3 g5 g6 gdb zs z4 ⊢
      generalize zf_9433 Y c p o k (h0 - P) = Y1 at g1' g2 g4 g5 g6 g7 g8 g9 g10 g44 q1 q2 q3 zs ⊢
      by_cases done : Y 2 0 0 (204 + 20 * p) - k = 0
      · rw [if_neg (show ¬ Y1 2 0 0 (204 + 20 * p) ≠ 0 by omega), zl309_1]
        have ec : zl_73_1 b c p c p start res st m Z1 (h0 - P) (x10 + 1) = (Z1, h0 - P, x10 + 1) := by
          cases m with
          | zero => rfl
          | succ m =>
            rw [zl_73s]
            by_cases q : 40 ≤ x10 + 1
            · rw [if_pos q]
            · rw [if_neg q, if_pos (by omega)]
        rw [ec]
        exact ⟨zs, rfl, g3, g4⟩
      · rw [if_pos (show Y1 2 0 0 (204 + 20 * p) ≠ 0 by omega)]
        have nn : 0 ≤ Y 2 0 0 (3014 + 60 * c) * st := Int.mul_nonneg hr (by omega)
        have nx : (if x10 + 1 ≤ 0 then h0 - P else min (h0 - P + Y1 2 0 0 (3014 + 60 * c) * st) start) = min (h0 - P + Y 2 0 0 (3014 + 60 * c) * st) start := by rw [if_neg (by omega), q3]
        have ih := rl_73 c0 c1 p0 p1 s1 r1 rs s2 m (n - f.toNat - 1) Z1 Y1 (h0 - P) (x10 + 1) zs q1 q2 (by omega) (by omega) (by omega) (by omega) (by omega) (by rw [nx]; omega) (by rw [nx]; omega) (by omega)
        rw [nx] at ih
        rw [q3]
        have ee : (if start ≤ h0 - P + Y 2 0 0 (3014 + 60 * c) * st then zl_309_1 c p start res st (n - f.toNat - 1) Y1 start 0 else zl_309_1 c p start res st (n - f.toNat - 1) Y1 (h0 - P + Y 2 0 0 (3014 + 60 * c) * st) 0) = zl_309_1 c p start res st (n - f.toNat - 1) Y1 (min (h0 - P + Y 2 0 0 (3014 + 60 * c) * st) start) 0 := by
          by_cases q : start ≤ h0 - P + Y 2 0 0 (3014 + 60 * c) * st
          · rw [if_pos q, show min (h0 - P + Y 2 0 0 (3014 + 60 * c) * st) start = start by omega]
          · rw [if_neg q, show min (h0 - P + Y 2 0 0 (3014 + 60 * c) * st) start = h0 - P + Y 2 0 0 (3014 + 60 * c) * st by omega]
        rw [ee]
        exact ⟨ih.1, ih.2.1, zFc_t g3 ih.2.2.1 (by decide), yFr_t g4 ih.2.2.2 (by decide)⟩
    · rw [if_neg fm, show min mo f = mo by omega, cm mo]
      have g1 : (mo + 1) * st ≤ f * st := Int.mul_le_mul_of_nonneg_right (by omega) (by omega)
      rw [Int.add_mul, Int.one_mul] at g1
      have g3 : 0 ≤ mo * st := Int.mul_nonneg mo0 (by omega)
      have nf : n = (n - mo.toNat - 1 + 1) + mo.toNat := by omega
      have st_ := zl309_f (c := c) (p := p) (start := start) (res := res) (st := st) (Y := Y) mo.toNat (n - mo.toNat - 1 + 1) h0 (fun j j0 j1 => none mo (by omega) (by omega) j j0 (by omega))
      rw [← nf, show ((mo.toNat : Nat) : Int) = mo by omega] at st_
      rw [st_]
      generalize mo * st = P at m1 g1 g3 ⊢
      have t := (hi (h0 - P) (by omega)).2 (by omega)
      rw [zl309_s, t, if_neg (show ¬ (-1 : Int) ≠ -1 by omega), if_neg (show ¬ res ≤ h0 - P - st by omega), zl309_1, Int.sub_zero]
      exact ⟨h, rfl, zFc_r, yFr_r⟩
