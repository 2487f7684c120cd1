/-! a look as a whole -/
theorem rl_136 {b k fig x4 : Int} (k0 : 0 ≤ k) (k1 : k < 2) (f0 : 0 ≤ x4) (f1 : x4 ≤ 6) : ∀ (m n : Nat) {Z Y : qz_Z} {x5 x6 : Int}, zLk b Z Y → 0 ≤ x6 → x6 ≤ 48 → 48 - x6 < (m : Int) → 48 - x6 < (n : Int) → zLk b (zl_9136 b k fig x4 m Z x5 x6).1 (zl_365_1 k fig x4 n Y x5 x6).1 ∧ zFc [1111, 1112, 1400, 4307, 4404, 4405, 4406, 4409, 4410, 4412, 4503, 4504, 4511, 4606, 4709, 4711, 4712, 4717, 4719, 4805, 4900, 5105, 5106, 5200, 5300, 5301, 5302, 5303, 5304] b Z (zl_9136 b k fig x4 m Z x5 x6).1 ∧ yFr [1112, 1400, 4307, 4404, 4405, 4406, 4409, 4410, 4412, 4503, 4606, 4709, 4717, 4719, 4805, 5105, 5106, 5300, 5301, 5302, 5303, 5304, 10001, 10002, 10015, 10050, 10051, 10052, 10060] Y (zl_365_1 k fig x4 n Y x5 x6).1 ∧ (zl_9136 b k fig x4 m Z x5 x6).2.1 = (zl_365_1 k fig x4 n Y x5 x6).2.1 ∧ ((zl_365_1 k fig x4 n Y x5 x6).2.1 = x5 ∨ x4 < Y 2 0 0 1200 ∨ x4 = 6)
  | 0, _, _, _, _, _, _, _, _, _, _ => by omega
  | m + 1, 0, _, _, _, _, _, _, _, _, _ => by omega
  | m + 1, n + 1, Z, Y, x5, x6, h, h0, h1, h2, h3 => by
    have hh := h
    obtain ⟨hRa, hV, hD1, hD4, hN4, hN1, hN8, hNL, hDl, hNr, hFn⟩ := hh
    unfold zl_9136 zl_365_1
    have v3 := zVr_11_3 (a := 102) hV rfl
    rw [zRl_11_3 (a := 102) hRa rfl]
    by_cases c : Y 2 0 0 102 ≤ x6
    · rw [if_pos c, if_pos c]
      exact ⟨h, zFc_r, yFr_r, rfl, .inl rfl⟩
    have x48 : x6 < 48 := by omega
    rw [if_neg c, if_neg c, zRl_44_12 (x := x6) (a := 211 + 20 * x6) hRa h0 x48 rfl]
    have n1 := (hN1 x6 h0 x48).1
    have n8 := hN8 x6 h0 x48 (by omega)
    have ih := rl_136 (fig := fig) k0 k1 f0 f1 m n (x5 := x5) (x6 := x6 + 1) h (by omega) (by omega) (by omega) (by omega)
    by_cases s : 1 < Y 2 0 0 (210 + 20 * x6)
    · rw [if_pos s, if_pos (show Y 2 0 0 (211 + 20 * x6) ≠ x4 by have := n1 s; omega)]
      exact ih
    rw [if_neg s]
    by_cases w : Y 2 0 0 (211 + 20 * x6) ≠ x4
    · rw [if_pos w, if_pos w]
      exact ih
    have w' := Classical.not_not.mp w
    rw [if_neg w, if_neg w, rr_135 hRa hV k0 k1 h0 x48]
    simp only [zlet]
    have kd := rr_135s (Y := Y) (k := k) (p := x6)
    generalize zf_364 Y k x6 = v at kd ⊢
    by_cases e : v = -1
    · rw [if_pos e, if_pos e]
      exact ih
    · rw [if_neg e, if_neg e]
      obtain ⟨g1, g2, g3⟩ := rr_9136 (fig := fig) (v := v) h k0 k1 h0 x48 (by omega) (by omega)
      obtain ⟨i1, i2, i3, i4, i5⟩ := rl_136 (fig := fig) k0 k1 f0 f1 m n (x5 := x5 + 1) (x6 := x6 + 1) g1 (by omega) (by omega) (by omega) (by omega)
      exact ⟨i1, zFc_t g2 i2 (by decide), yFr_t g3 i3 (by decide), i4, .inr (by omega)⟩
theorem rr_136 {b k fig : Int} {Z Y : qz_Z} (h : zLk b Z Y) (hDs : zDs b Z Y) (k0 : 0 ≤ k) (k1 : k < 2) (g0 : 1 ≤ fig) (g1 : fig ≤ 7) (hst : Y 2 0 0 (3521 + 10 * k) ≤ 3) (hc : -2147483648 ≤ Z 51 b k 5 ∧ Z 51 b k 5 ≤ 2147483647) : zLk b (zf_136 Z b k fig).1 (zf_365 Y k fig).1 ∧ zDs b (zf_136 Z b k fig).1 (zf_365 Y k fig).1 ∧ zFc [1111, 1112, 1400, 4307, 4310, 4404, 4405, 4406, 4409, 4410, 4412, 4503, 4504, 4511, 4606, 4709, 4711, 4712, 4717, 4719, 4805, 4900, 5104, 5105, 5106, 5107, 5200, 5300, 5301, 5302, 5303, 5304] b Z (zf_136 Z b k fig).1 ∧ yFr [1112, 1400, 4307, 4404, 4405, 4406, 4409, 4410, 4412, 4503, 4606, 4709, 4717, 4719, 4805, 5104, 5105, 5106, 5107, 5300, 5301, 5302, 5303, 5304, 10001, 10002, 10015, 10016, 10050, 10051, 10052, 10060] Y (zf_365 Y k fig).1 ∧ (zf_136 Z b k fig).2 = (zf_365 Y k fig).2 := by
  have e3 : ∀ {α : Type} (q : qz_Z × Int × Int) (kk : qz_Z → Int → Int → α), zlet3 q kk = kk q.1 q.2.1 q.2.2 := fun _ _ => rfl
  have st0 : zu Z 51 b k 5 (w3 (Z 51 b k 5 + 0)) = Z := by
    rw [Int.add_zero, w3_id hc.1 hc.2]
    exact zu_id rfl
  -- the three writes behind the loop
  have three : ∀ {R : qz_Z} {S : qz_Z}, zLk b R S → zFc [1111, 1112, 1400, 4307, 4404, 4405, 4406, 4409, 4410, 4412, 4503, 4504, 4511, 4606, 4709, 4711, 4712, 4717, 4719, 4805, 4900, 5105, 5106, 5200, 5300, 5301, 5302, 5303, 5304] b Z R → yFr [1112, 1400, 4307, 4404, 4405, 4406, 4409, 4410, 4412, 4503, 4606, 4709, 4717, 4719, 4805, 5105, 5106, 5300, 5301, 5302, 5303, 5304, 10001, 10002, 10015, 10050, 10051, 10052, 10060] Y S → zLk b (zu (zu R 51 b k 4 (w3 (R 51 b k 4 + 1))) 51 b k 7 (zu R 51 b k 4 (w3 (R 51 b k 4 + 1)) 11 b 0 13)) (zu (zu S 2 0 0 (3524 + 10 * k) (w3 (S 2 0 0 (3524 + 10 * k) + 1))) 2 0 0 (3527 + 10 * k) (zu S 2 0 0 (3524 + 10 * k) (w3 (S 2 0 0 (3524 + 10 * k) + 1)) 2 0 0 0)) ∧ zFc [1111, 1112, 1400, 4307, 4404, 4405, 4406, 4409, 4410, 4412, 4503, 4504, 4511, 4606, 4709, 4711, 4712, 4717, 4719, 4805, 4900, 5104, 5105, 5106, 5107, 5200, 5300, 5301, 5302, 5303, 5304] b Z (zu (zu R 51 b k 4 (w3 (R 51 b k 4 + 1))) 51 b k 7 (zu R 51 b k 4 (w3 (R 51 b k 4 + 1)) 11 b 0 13)) ∧ yFr [1112, 1400, 4307, 4404, 4405, 4406, 4409, 4410, 4412, 4503, 4606, 4709, 4717, 4719, 4805, 5104, 5105, 5106, 5107, 5300, 5301, 5302, 5303, 5304, 10001, 10002, 10015, 10050, 10051, 10052, 10060] Y (zu (zu S 2 0 0 (3524 + 10 * k) (w3 (S 2 0 0 (3524 + 10 * k) + 1))) 2 0 0 (3527 + 10 * k) (zu S 2 0 0 (3524 + 10 * k) (w3 (S 2 0 0 (3524 + 10 * k) + 1)) 2 0 0 0)) := by
    intro R S hh F G
    obtain ⟨hRa, hV, hD1, hD4, hN4, hN1, hN8, hNL, hDl, hNr, hFn⟩ := hh
    have w1 : zW [] [5104, 5107] [5104, 5107] b R S _ _ := zW_n (v' := w3 (R 51 b k 4 + 1)) (v := w3 (S 2 0 0 (3524 + 10 * k) + 1)) (zW_0 (zRx_0 hRa) hV) (ac_51_4 k0 k1 rfl) (zvn_51_4 k0 k1 rfl) (by rw [zRl_51_4 (x := k) (a := 3524 + 10 * k) hRa k0 k1 rfl]) rfl rfl rfl
    generalize zu R 51 b k 4 (w3 (R 51 b k 4 + 1)) = R1 at w1 ⊢
    generalize zu S 2 0 0 (3524 + 10 * k) (w3 (S 2 0 0 (3524 + 10 * k) + 1)) = S1 at w1 ⊢
    have w2 := zW_n (v' := R1 11 b 0 13) (v := S1 2 0 0 0) w1 (ac_51_7 k0 k1 rfl) (zvn_51_7 k0 k1 rfl) (zRl_11_13 (zRx_1 w1.1) rfl) rfl rfl rfl
    generalize zu R1 51 b k 7 (R1 11 b 0 13) = R2 at w2 ⊢
    generalize zu S1 2 0 0 (3527 + 10 * k) (S1 2 0 0 0) = S2 at w2 ⊢
    obtain ⟨r1, r2, r3, r4⟩ := zW_1 w2
    exact ⟨⟨r1, r2, zD1_f hD1 r3.1 r4.1 ⟨rfl, rfl, rfl⟩, zD4_f hD4 r3.1 r4.1 ⟨⟨rfl, rfl⟩, rfl, rfl, rfl⟩, zN4_f hN4 r4.1 ⟨rfl, rfl, rfl⟩, zN1_f hN1 r4.1 ⟨rfl, rfl, rfl, rfl⟩, zN8_f hN8 r4.1 ⟨rfl, rfl, rfl⟩, zNL_f hNL hV r4.1 ⟨rfl, rfl, rfl, rfl, rfl⟩, zDl_f hDl r3.1 r4.1 ⟨rfl, rfl, rfl, rfl, rfl⟩, zNr_f hNr hV r4.1 ⟨rfl, rfl, rfl⟩, zFn_f hFn r3.1 r4.1 ⟨rfl, rfl, rfl, rfl⟩⟩, zFc_t (zFc_w F (by decide)) r3 (by decide), yFr_t (yFr_w G (by decide)) r4 (by decide)⟩
  unfold zf_136 zf_365
  by_cases h7 : fig ≠ 7
  · rw [if_pos h7, if_pos h7, e3, e3]
    simp only [zlet]
    rw [if_neg (show ¬ fig - 1 < 0 by omega), if_neg (show ¬ 6 ≤ fig - 1 by omega)]
    obtain ⟨lc1, lc2⟩ := loc136 (b := b) (k := k) (fig := fig) (x4 := fig - 1) (c := Z 51 b k 5) 49 Z 0 0 rfl
    rw [st0] at lc1
    obtain ⟨i1, i2, i3, i4, i5⟩ := rl_136 (fig := fig) (x4 := fig - 1) k0 k1 (by omega) (by omega) 49 49 (x5 := 0) (x6 := 0) h (by omega) (by omega) (by omega) (by omega)
    rw [lc1] at i1 i2 i4
    rw [lc2]
    generalize zl_136_1 b k k fig (fig - 1) 49 Z 0 0 = r at i1 i2 i4 ⊢
    generalize zl_365_1 k fig (fig - 1) 49 Y 0 0 = q at i1 i3 i4 i5 ⊢
    obtain ⟨t1, t2, t3⟩ := three i1 i2 i3
    have i4' : r.2.1 = q.2.1 := i4
    rw [i4'] at t1 t2 ⊢
    generalize zu (zu (zu r.1 51 b k 5 (w3 (Z 51 b k 5 + q.2.1))) 51 b k 4 (w3 (zu r.1 51 b k 5 (w3 (Z 51 b k 5 + q.2.1)) 51 b k 4 + 1))) 51 b k 7 (zu (zu r.1 51 b k 5 (w3 (Z 51 b k 5 + q.2.1))) 51 b k 4 (w3 (zu r.1 51 b k 5 (w3 (Z 51 b k 5 + q.2.1)) 51 b k 4 + 1)) 11 b 0 13) = A at t1 t2 ⊢
    generalize zu (zu q.1 2 0 0 (3524 + 10 * k) (w3 (q.1 2 0 0 (3524 + 10 * k) + 1))) 2 0 0 (3527 + 10 * k) (zu q.1 2 0 0 (3524 + 10 * k) (w3 (q.1 2 0 0 (3524 + 10 * k) + 1)) 2 0 0 0) = B at t1 t3 ⊢
    have tt := t1
    obtain ⟨hRa, hV, hD1, hD4, hN4, hN1, hN8, hNL, hDl, hNr, hFn⟩ := tt
    have ds := zDs_f hDs t2.1 t3.1 ⟨rfl, rfl⟩
    have st : B 2 0 0 (3521 + 10 * k) ≤ 3 := by rw [yFr_at 5101 t3.1 rfl (zcm_s (ac_51_1 k0 k1 rfl))]; exact hst
    rw [zRl_51_1 (x := k) (a := 3521 + 10 * k) hRa k0 k1 rfl, if_neg (show ¬ fig - 1 = 6 by omega)]
    by_cases y : q.2.1 < 4 - B 2 0 0 (3521 + 10 * k)
    · rw [if_pos y, if_pos y]
      exact ⟨t1, ds, zFc_w t2 (by decide), yFr_w t3 (by decide), rfl⟩
    · rw [if_neg y, if_neg y]
      have ro : B 2 0 0 1200 = Y 2 0 0 1200 := yFr_at 1102 t3.1 rfl (zcm_s (ac_11_2 rfl))
      have rm : fig - 1 < B 2 0 0 1200 := by omega
      have e13 : A 11 b 0 13 = B 2 0 0 0 := zRl_11_13 hRa rfl
      have w1 := zW_m (v := B 2 0 0 0 + 24) (zW_c (L := [4310]) (K := [10016]) (i := -1 + fig) (v := A 11 b 0 13 + 24) (zW_0 (zRx_0 hRa) hV) adn_43_10 rfl rfl) (adm_shut (x := fig - 1) (a := 3509 + fig) (by omega) (by omega) (by omega)) (zvn_shut (x := fig - 1) (by omega) (by omega) (by omega)) (zcm_shut (x := fig - 1) (by omega) (by omega) (by omega)) rfl
      obtain ⟨r1, r2, r3, r4⟩ := zW_1 w1
      have nr : zNr (zu B 2 0 0 (3509 + fig) (B 2 0 0 0 + 24)) := by
        have v2 := zVr_11_2 (a := 1200) hV rfl
        unfold zNr
        rw [zun (by omega)]
        refine ⟨fun a a0 a1 => ?_, fun r a0 a1 => ?_⟩
        · rw [zun (by omega)]
          exact hNr.1 a a0 a1
        · rw [zun (by omega)]
          exact hNr.2 r a0 a1
      refine ⟨⟨r1, r2, zD1_f hD1 r3.1 r4.1 ⟨rfl, rfl, rfl⟩, zD4_f hD4 r3.1 r4.1 ⟨⟨rfl, rfl⟩, rfl, rfl, rfl⟩, zN4_f hN4 r4.1 ⟨rfl, rfl, rfl⟩, zN1_f hN1 r4.1 ⟨rfl, rfl, rfl, rfl⟩, zN8_f hN8 r4.1 ⟨rfl, rfl, rfl⟩, zNL_f hNL hV r4.1 ⟨rfl, rfl, rfl, rfl, rfl⟩, zDl_f hDl r3.1 r4.1 ⟨rfl, rfl, rfl, rfl, rfl⟩, nr, zFn_f hFn r3.1 r4.1 ⟨rfl, rfl, rfl, rfl⟩⟩, fun r a0 a1 => ?_, zFc_t (zFc_w t2 (by decide)) r3 (by decide), yFr_t (yFr_w t3 (by decide)) r4 (by decide), rfl⟩
      by_cases e : r = fig - 1
      · left
        show zu A 43 b (-1 + fig) 10 (A 11 b 0 13 + 24) 43 b r 10 = zu B 2 0 0 (3509 + fig) (B 2 0 0 0 + 24) 2 0 0 (3510 + r)
        rw [show r = -1 + fig by omega, zu_at rfl, show 3510 + (-1 + fig) = 3509 + fig by omega, zua, e13]
      · show zu A 43 b (-1 + fig) 10 (A 11 b 0 13 + 24) 43 b r 10 = zu B 2 0 0 (3509 + fig) (B 2 0 0 0 + 24) 2 0 0 (3510 + r) ∨ zu A 43 b (-1 + fig) 10 (A 11 b 0 13 + 24) 43 b r 10 = -1 ∧ zu B 2 0 0 (3509 + fig) (B 2 0 0 0 + 24) 2 0 0 (3510 + r) = 0
        rw [zu_ne rfl (fun q => e (by have := q.2.2.1; omega)), zun (by omega)]
        exact ds r a0 a1
  · rw [if_neg h7, if_neg h7, e3, e3]
    simp only [zlet]
    obtain ⟨lc1, lc2⟩ := loc136 (b := b) (k := k) (fig := fig) (x4 := 6) (c := Z 51 b k 5) 49 Z 0 0 rfl
    rw [st0] at lc1
    obtain ⟨i1, i2, i3, i4, i5⟩ := rl_136 (fig := fig) (x4 := 6) k0 k1 (by omega) (by omega) 49 49 (x5 := 0) (x6 := 0) h (by omega) (by omega) (by omega) (by omega)
    rw [lc1] at i1 i2 i4
    rw [lc2]
    generalize zl_136_1 b k k fig 6 49 Z 0 0 = r at i1 i2 i4 ⊢
    generalize zl_365_1 k fig 6 49 Y 0 0 = q at i1 i3 i4 i5 ⊢
    obtain ⟨t1, t2, t3⟩ := three i1 i2 i3
    have i4' : r.2.1 = q.2.1 := i4
    rw [i4'] at t1 t2 ⊢
    exact ⟨t1, zDs_f hDs t2.1 t3.1 ⟨rfl, rfl⟩, zFc_w t2 (by decide), yFr_w t3 (by decide), rfl⟩
