/-! A day closed: pieces. -/
theorem zuc {Y : qz_Z} {a k v w : Int} (h : k ≠ a) : zu (zu Y 2 0 0 a v) 2 0 0 k w = zu (zu Y 2 0 0 k w) 2 0 0 a v := by
  funext k' b' i' j'
  rw [zuq, zuq, zuq, zuq]
  by_cases c1 : k' = 2 ∧ b' = 0 ∧ i' = 0 ∧ j' = k
  · rw [if_pos c1, if_neg (fun q => h (c1.2.2.2.symm.trans q.2.2.2)), if_pos c1]
  · rw [if_neg c1]
    by_cases c2 : k' = 2 ∧ b' = 0 ∧ i' = 0 ∧ j' = a
    · rw [if_pos c2, if_pos c2]
    · rw [if_neg c2, if_neg c2, if_neg c1]
theorem zl_cm {v1 v2 : qz_Z} {k : qz_Z → qz_Z} {a w : Int} (hv : v1 = zu v2 2 0 0 a w) (h : ∀ z : qz_Z, k (zu z 2 0 0 a w) = zu (k z) 2 0 0 a w) : zlet v1 k = zu (zlet v2 k) 2 0 0 a w := by
  rw [hv]
  exact h v2
/-- an entry doesn't look at what lies elsewhere -/
theorem z403_u {Y : qz_Z} {a v a1 a2 c d : Int} (h1 : 0 ≤ a1) (h2 : 0 ≤ a2) (ha : a < 3800) (h0 : a ≠ 0) : zf_403 (zu Y 2 0 0 a v) a1 a2 c d = zu (zf_403 Y a1 a2 c d) 2 0 0 a v := by
  unfold zf_403
  by_cases hc : c ≠ 0
  · rw [if_pos hc, if_pos hc]
    refine zl_cm (by rw [show zu Y 2 0 0 a v 2 0 0 (3800 + a1) = Y 2 0 0 (3800 + a1) from zun (by omega)]; exact zuc (by omega)) (fun z4 => ?_)
    refine zl_cm (by rw [show zu z4 2 0 0 a v 2 0 0 (3800 + a2) = z4 2 0 0 (3800 + a2) from zun (by omega)]; exact zuc (by omega)) (fun z7 => ?_)
    rw [show zu z7 2 0 0 a v 2 0 0 3814 = z7 2 0 0 3814 from zun (by omega)]
    refine zl_cm (zuc (by omega)) (fun z9 => ?_)
    refine zl_cm (zuc (by omega)) (fun z10 => ?_)
    refine zl_cm (zuc (by omega)) (fun z11 => ?_)
    refine zl_cm (zuc (by omega)) (fun z12 => ?_)
    refine zl_cm (by rw [show zu z12 2 0 0 a v 2 0 0 0 = z12 2 0 0 0 from zun (fun e => h0 e.symm)]; exact zuc (by omega)) (fun z14 => ?_)
    refine zl_cm (by rw [show zu z14 2 0 0 a v 2 0 0 3814 = z14 2 0 0 3814 from zun (by omega)]; exact zuc (by omega)) (fun z17 => ?_)
    rfl
  · rw [if_neg hc, if_neg hc]
theorem z403_lo {Y : qz_Z} {a1 a2 c d j : Int} (h1 : 0 ≤ a1) (h2 : 0 ≤ a2) (hj : j < 3800) : zf_403 Y a1 a2 c d 2 0 0 j = Y 2 0 0 j := by
  unfold zf_403
  split
  · simp only [zlet]
    rw [zun (by omega), zun (by omega), zun (by omega), zun (by omega), zun (by omega), zun (by omega), zun (by omega), zun (by omega)]
  · rfl
theorem z463_403 {c : Int} : ∀ (m : Nat) (Y : qz_Z) (x : Int), 0 ≤ x → x ≤ 6 → Y 2 0 0 1200 ≤ 6 → (zl_463_1 m (zf_403 Y 0 4 c (-1)) x).1 = zf_403 (zl_463_1 m Y x).1 0 4 c (-1)
  | 0, Y, x, _, _, _ => rfl
  | m + 1, Y, x, x0, x6, hr => by
    unfold zl_463_1
    rw [z403_lo (j := 1200) (by omega) (by omega) (by omega)]
    by_cases q : Y 2 0 0 1200 ≤ x
    · rw [if_pos q, if_pos q]
    · rw [if_neg q, if_neg q]
      show (zl_463_1 m (zu (zf_403 Y 0 4 c (-1)) 2 0 0 (1218 + 12 * x) 0) (x + 1)).1 = zf_403 (zl_463_1 m (zu Y 2 0 0 (1218 + 12 * x) 0) (x + 1)).1 0 4 c (-1)
      rw [← z403_u (by omega) (by omega) (by omega) (by omega)]
      exact z463_403 m (zu Y 2 0 0 (1218 + 12 * x) 0) (x + 1) (by omega) (by omega) (by rw [zun (by omega)]; exact hr)
/-- hours of power, counted and taken back -/
theorem rl_4_1 {b : Int} : ∀ (m : Nat) (Z Y Y0 : qz_Z) (x1 x2 : Int), 0 ≤ x2 → x2 ≤ 6 → 6 - x2 < (m : Int) → zR b Z Y → zV Y → (∀ x : Int, x2 ≤ x → Y 2 0 0 (1218 + 12 * x) = Y0 2 0 0 (1218 + 12 * x)) → Y0 2 0 0 1200 = Y 2 0 0 1200 → (zR b (zl_4_1 b m Z x1 x2).1 (zl_463_1 m Y x2).1 ∧ zV (zl_463_1 m Y x2).1 ∧ zFc [4309] b Z (zl_4_1 b m Z x1 x2).1 ∧ yFr [4309] Y (zl_463_1 m Y x2).1) ∧ (zl_4_1 b m Z x1 x2).2.1 = (zl_492_1 m Y0 x1 x2).1
  | 0, _, _, _, _, _, _, _, hm, _, _, _, _ => by omega
  | m + 1, Z, Y, Y0, x1, x2, x0, x6, hm, hRa, hV, h, hr => by
    unfold zl_4_1 zl_463_1 zl_492_1
    have r := zVr_11_2 (a := 1200) hV rfl
    rw [zRl_11_2 (a := 1200) hRa rfl, hr]
    by_cases c : Y 2 0 0 1200 ≤ x2
    · rw [if_pos c, if_pos c, if_pos c]
      exact ⟨⟨hRa, hV, zFc_r, yFr_r⟩, rfl⟩
    · rw [if_neg c, if_neg c, if_neg c]
      have e : Z 43 b x2 9 = Y0 2 0 0 (1218 + 12 * x2) := (zRl_43_9 (x := x2) (a := 1218 + 12 * x2) hRa x0 (by omega) rfl).trans (h x2 (by omega))
      have w : zW [] [4309] [4309] b Z Y _ _ := zW_n (v' := 0) (v := 0) (zW_0 (zRx_0 hRa) hV) (ac_43_9 x0 (show x2 < 6 by omega) rfl) (zvn_43_9 x0 (show x2 < 6 by omega) rfl) rfl rfl rfl rfl
      obtain ⟨r1, r2, r3, r4⟩ := zW_1 w
      obtain ⟨⟨i1, i2, i3, i4⟩, i5⟩ := rl_4_1 m _ _ Y0 (w3 (x1 + Y0 2 0 0 (1218 + 12 * x2))) (x2 + 1) (by omega) (by omega) (by omega) r1 r2 (fun x hx => (zun (by omega)).trans (h x (by omega))) (hr.trans (zun (by omega)).symm)
      rw [e]
      exact ⟨⟨i1, i2, zFc_t r3 i3 (by decide), yFr_t r4 i4 (by decide)⟩, i5⟩
/-- as far as the quarrels -/
theorem rr_4a {b : Int} {Z Y : qz_Z} (hRa : zR b Z Y) (hV : zV Y) : zR b (zf_9405 (zl_4_1 b 7 Z 0 0).1 b (w3 ((zl_4_1 b 7 Z 0 0).2.1 * (zl_4_1 b 7 Z 0 0).1 13 b 0 1))) (zf_463 (zf_403 Y 0 4 (w3 (Y 2 0 0 3811 * zf_492 Y)) (-1))) ∧ zV (zf_463 (zf_403 Y 0 4 (w3 (Y 2 0 0 3811 * zf_492 Y)) (-1))) ∧ zFc [1112, 1400, 4309, 5300, 5301, 5302, 5303, 5304] b Z (zf_9405 (zl_4_1 b 7 Z 0 0).1 b (w3 ((zl_4_1 b 7 Z 0 0).2.1 * (zl_4_1 b 7 Z 0 0).1 13 b 0 1))) ∧ yFr [1112, 1400, 4309, 5300, 5301, 5302, 5303, 5304] Y (zf_463 (zf_403 Y 0 4 (w3 (Y 2 0 0 3811 * zf_492 Y)) (-1))) := by
  have r := zVr_11_2 (a := 1200) hV rfl
  obtain ⟨⟨i1, i2, i3, i4⟩, i5⟩ := rl_4_1 7 Z Y Y 0 0 (by omega) (by omega) (by omega) hRa hV (fun _ _ => rfl) rfl
  have e5 : (zl_4_1 b 7 Z 0 0).2.1 = zf_492 Y := i5
  have e3 : (zl_4_1 b 7 Z 0 0).1 13 b 0 1 = Y 2 0 0 3811 := (zRl_13_s (x := 1) (a := 3811) i1 (by omega) (by omega) rfl).trans (yFr_at 1300 i4.1 rfl (zcm_s (ac_13_s (x := 1) (by omega) (by omega) rfl)))
  have e4 : zf_463 (zf_403 Y 0 4 (w3 (Y 2 0 0 3811 * zf_492 Y)) (-1)) = zf_9406 (zl_463_1 7 Y 0).1 (w3 (Y 2 0 0 3811 * zf_492 Y)) := z463_403 7 Y 0 (by omega) (by omega) (by omega)
  rw [e5, e3, e4, Int.mul_comm (zf_492 Y)]
  obtain ⟨j1, j2, j3, j4⟩ := rr_9405 (c := w3 (Y 2 0 0 3811 * zf_492 Y)) i1 i2 rfl rfl
  exact ⟨j1, j2, zFc_t (zFc_w i3 (by decide)) j3 (by decide), yFr_t (yFr_w i4 (by decide)) j4 (by decide)⟩
/-! the accounts -/
theorem zif_l {α β : Type} {c : Prop} [Decidable c] {A B : α} {F : α → β} : (if c then zlet A F else zlet B F) = zlet (if c then A else B) F := by
  split <;> rfl
def zc8 (Y : qz_Z) : qz_Z := zf_9404 (zf_9404 (zf_9404 (zf_9404 (zf_9404 (zf_9404 Y 3) 4) 5) 6) 7) 8
theorem zl43_e {b : Int} {Z : qz_Z} : (zl_4_3 b 7 Z 3).1 = zf_9403 (zf_9403 (zf_9403 (zf_9403 (zf_9403 (zf_9403 Z b 3) b 4) b 5) b 6) b 7) b 8 := by
  have st : ∀ (m : Nat) (Z : qz_Z) (x : Int), x ≤ 8 → zl_4_3 b (m + 1) Z x = zl_4_3 b m (zf_9403 Z b x) (x + 1) := fun m Z x hx => by
    unfold zf_9403
    rw [show zl_4_3 b (m + 1) Z x = _ from by unfold zl_4_3; rw [if_neg (show ¬ 8 < x by omega)]]
    by_cases c : Z 14 b 0 x ≤ 0
    · rw [if_pos c, if_pos c]
      by_cases d : w3 (-(Z 14 b 0 x)) ≠ 0
      · rw [if_pos d, if_pos d]
        rfl
      · rw [if_neg d, if_neg d]
    · rw [if_neg c, if_neg c]
      rfl
  have en : ∀ (m : Nat) (Z : qz_Z), zl_4_3 b (m + 1) Z 9 = (Z, 9) := fun m Z => by
    unfold zl_4_3
    rw [if_pos (by omega)]
  rw [show (7 : Nat) = 6 + 1 from rfl, st 6 _ 3 (by omega), show (3 : Int) + 1 = 4 from rfl, show (6 : Nat) = 5 + 1 from rfl, st 5 _ 4 (by omega), show (4 : Int) + 1 = 5 from rfl, show (5 : Nat) = 4 + 1 from rfl, st 4 _ 5 (by omega), show (5 : Int) + 1 = 6 from rfl, show (4 : Nat) = 3 + 1 from rfl, st 3 _ 6 (by omega), show (6 : Int) + 1 = 7 from rfl, show (3 : Nat) = 2 + 1 from rfl, st 2 _ 7 (by omega), show (7 : Int) + 1 = 8 from rfl, show (2 : Nat) = 1 + 1 from rfl, st 1 _ 8 (by omega), show (8 : Int) + 1 = 9 from rfl, show (1 : Nat) = 0 + 1 from rfl, en]
theorem rr_4c {b : Int} {Z Y : qz_Z} (hRa : zR b Z Y) (hV : zV Y) : zR b (zl_4_3 b 7 Z 3).1 (zc8 Y) ∧ zV (zc8 Y) ∧ zFc [1112, 1400, 5300, 5301, 5302, 5303, 5304] b Z (zl_4_3 b 7 Z 3).1 ∧ yFr [1112, 1400, 5300, 5301, 5302, 5303, 5304] Y (zc8 Y) := by
  rw [zl43_e]
  unfold zc8
  obtain ⟨a1, a2, a3, a4⟩ := rr_9403 (x := 3) hRa hV (by omega) (by omega) rfl rfl
  obtain ⟨b1, b2, b3, b4⟩ := rr_9403 (x := 4) a1 a2 (by omega) (by omega) rfl rfl
  obtain ⟨c1, c2, c3, c4⟩ := rr_9403 (x := 5) b1 b2 (by omega) (by omega) rfl rfl
  obtain ⟨d1, d2, d3, d4⟩ := rr_9403 (x := 6) c1 c2 (by omega) (by omega) rfl rfl
  obtain ⟨e1, e2, e3, e4⟩ := rr_9403 (x := 7) d1 d2 (by omega) (by omega) rfl rfl
  obtain ⟨f1, f2, f3, f4⟩ := rr_9403 (x := 8) e1 e2 (by omega) (by omega) rfl rfl
  exact ⟨f1, f2, zFc_t (zFc_t (zFc_t (zFc_t (zFc_t a3 b3 (by decide)) c3 (by decide)) d3 (by decide)) e3 (by decide)) f3 (by decide), yFr_t (yFr_t (yFr_t (yFr_t (yFr_t a4 b4 (by decide)) c4 (by decide)) d4 (by decide)) e4 (by decide)) f4 (by decide)⟩
def zn8 (Y : qz_Z) : qz_Z := (if (Y 2 0 0 3808) ≤ 0 then (zlet (zf_403 Y 9 8 (w3 (-(Y 2 0 0 3808))) (-1)) (fun Z => Z)) else (zlet (zf_403 Y 8 9 (Y 2 0 0 3808) (-1)) (fun Z => Z)))
def zn7 (Y : qz_Z) : qz_Z := (if (Y 2 0 0 3807) ≤ 0 then (zlet (zf_403 Y 9 7 (w3 (-(Y 2 0 0 3807))) (-1)) (fun Z => zn8 Z)) else (zlet (zf_403 Y 7 9 (Y 2 0 0 3807) (-1)) (fun Z => zn8 Z)))
def zn6 (Y : qz_Z) : qz_Z := (if (Y 2 0 0 3806) ≤ 0 then (zlet (zf_403 Y 9 6 (w3 (-(Y 2 0 0 3806))) (-1)) (fun Z => zn7 Z)) else (zlet (zf_403 Y 6 9 (Y 2 0 0 3806) (-1)) (fun Z => zn7 Z)))
def zn5 (Y : qz_Z) : qz_Z := (if (Y 2 0 0 3805) ≤ 0 then (zlet (zf_403 Y 9 5 (w3 (-(Y 2 0 0 3805))) (-1)) (fun Z => zn6 Z)) else (zlet (zf_403 Y 5 9 (Y 2 0 0 3805) (-1)) (fun Z => zn6 Z)))
def zn4 (Y : qz_Z) : qz_Z := (if (Y 2 0 0 3804) ≤ 0 then (zlet (zf_403 Y 9 4 (w3 (-(Y 2 0 0 3804))) (-1)) (fun Z => zn5 Z)) else (zlet (zf_403 Y 4 9 (Y 2 0 0 3804) (-1)) (fun Z => zn5 Z)))
def zn3 (Y : qz_Z) : qz_Z := (if (Y 2 0 0 3803) ≤ 0 then (zlet (zf_403 Y 9 3 (w3 (-(Y 2 0 0 3803))) (-1)) (fun Z => zn4 Z)) else (zlet (zf_403 Y 3 9 (Y 2 0 0 3803) (-1)) (fun Z => zn4 Z)))
theorem zn8_e {Y : qz_Z} : zn8 Y = zf_9404 Y 8 := by
  unfold zn8 zf_9404
  rw [show (3800 : Int) + 8 = 3808 from rfl]
theorem zn7_e {Y : qz_Z} : zn7 Y = zn8 (zf_9404 Y 7) := by
  unfold zn7 zf_9404
  rw [show (3800 : Int) + 7 = 3807 from rfl]
  split <;> rfl
theorem zn6_e {Y : qz_Z} : zn6 Y = zn7 (zf_9404 Y 6) := by
  unfold zn6 zf_9404
  rw [show (3800 : Int) + 6 = 3806 from rfl]
  split <;> rfl
theorem zn5_e {Y : qz_Z} : zn5 Y = zn6 (zf_9404 Y 5) := by
  unfold zn5 zf_9404
  rw [show (3800 : Int) + 5 = 3805 from rfl]
  split <;> rfl
theorem zn4_e {Y : qz_Z} : zn4 Y = zn5 (zf_9404 Y 4) := by
  unfold zn4 zf_9404
  rw [show (3800 : Int) + 4 = 3804 from rfl]
  split <;> rfl
theorem zn3_e {Y : qz_Z} : zn3 Y = zn4 (zf_9404 Y 3) := by
  unfold zn3 zf_9404
  rw [show (3800 : Int) + 3 = 3803 from rfl]
  split <;> rfl
theorem zc8_e {Y : qz_Z} : zn3 Y = zc8 Y := by
  rw [zn3_e, zn4_e, zn5_e, zn6_e, zn7_e, zn8_e]
  rfl
set_option maxRecDepth 16000 in
set_option maxHeartbeats 8000000 in
/-- the reference's day, as it is read -/
theorem zf402_n {Y : qz_Z} {a : Int} : zf_402 Y a = if a % 7 ≠ 6 then zn3 (zl_402_1 a 13 (zf_463 (zf_403 Y 0 4 (w3 (Y 2 0 0 3811 * zf_492 Y)) (-1))) 0).1 else zn3 (zf_413 (zl_402_1 a 13 (zf_463 (zf_403 Y 0 4 (w3 (Y 2 0 0 3811 * zf_492 Y)) (-1))) 0).1) := rfl
theorem zf402_e {Y : qz_Z} {a : Int} : zf_402 Y a = if a % 7 ≠ 6 then zc8 (zl_402_1 a 13 (zf_463 (zf_403 Y 0 4 (w3 (Y 2 0 0 3811 * zf_492 Y)) (-1))) 0).1 else zc8 (zf_413 (zl_402_1 a 13 (zf_463 (zf_403 Y 0 4 (w3 (Y 2 0 0 3811 * zf_492 Y)) (-1))) 0).1) := by
  rw [zf402_n, zc8_e, zc8_e]
