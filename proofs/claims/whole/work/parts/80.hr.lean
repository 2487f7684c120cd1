/-! an entry -/
def zf_9005 (Z : qz_Z) (b : Int) (f : Int) (t : Int) (c : Int) (p : Int) : qz_Z := (if c ≠ 0 then (zlet (zu Z 14 b 0 f (w3 ((Z 14 b 0 f) - c))) (fun Z4 => (zlet (zu Z4 14 b 0 t (w3 ((Z4 14 b 0 t) + c))) (fun Z7 => (zlet (zu Z7 53 b ((Z7 11 b 0 12) % 60) 0 f) (fun Z9 => (zlet (zu Z9 53 b ((Z7 11 b 0 12) % 60) 1 t) (fun Z10 => (zlet (zu Z10 53 b ((Z7 11 b 0 12) % 60) 2 c) (fun Z11 => (zlet (zu Z11 53 b ((Z7 11 b 0 12) % 60) 3 p) (fun Z12 => (zlet (zu Z12 53 b ((Z7 11 b 0 12) % 60) 4 (Z12 11 b 0 13)) (fun Z14 => (zu Z14 11 b 0 12 ((Z14 11 b 0 12) + 1)))))))))))))))) else Z)
theorem rr_9005 {b f t c p : Int} {Z Y : qz_Z} (hRa : zR b Z Y) (hV : zV Y) (f0 : 0 ≤ f) (f1 : f < 10) (t0 : 0 ≤ t) (t1 : t < 10) : zR b (zf_9005 Z b f t c p) (zf_403 Y f t c p) ∧ zV (zf_403 Y f t c p) ∧ zFc [1112, 1400, 5300, 5301, 5302, 5303, 5304] b Z (zf_9005 Z b f t c p) ∧ yFr [1112, 1400, 5300, 5301, 5302, 5303, 5304] Y (zf_403 Y f t c p) := by
  unfold zf_9005 zf_403
  by_cases h : c ≠ 0
  · rw [if_pos h, if_pos h]
    simp only [zlet]
    have w1 : zW [] [1112, 1400, 5300, 5301, 5302, 5303, 5304] [1112, 1400, 5300, 5301, 5302, 5303, 5304] b Z Y _ _ := zW_n (v' := w3 (Z 14 b 0 f - c)) (v := w3 (Y 2 0 0 (3800 + f) - c)) (zW_0 (zRx_0 hRa) hV) (ac_14_s f0 f1 rfl) (zvn_14_s f0 f1 rfl) (by rw [zRl_14_s (x := f) (a := 3800 + f) hRa f0 f1 rfl]) rfl rfl rfl
    generalize zu Z 14 b 0 f (w3 (Z 14 b 0 f - c)) = Z1 at w1 ⊢
    generalize zu Y 2 0 0 (3800 + f) (w3 (Y 2 0 0 (3800 + f) - c)) = Y1 at w1 ⊢
    have w2 := zW_n (v' := w3 (Z1 14 b 0 t + c)) (v := w3 (Y1 2 0 0 (3800 + t) + c)) w1 (ac_14_s t0 t1 rfl) (zvn_14_s t0 t1 rfl) (by rw [zRl_14_s (x := t) (a := 3800 + t) (zRx_1 w1.1) t0 t1 rfl]) rfl rfl rfl
    generalize zu Z1 14 b 0 t (w3 (Z1 14 b 0 t + c)) = Z2 at w2 ⊢
    generalize zu Y1 2 0 0 (3800 + t) (w3 (Y1 2 0 0 (3800 + t) + c)) = Y2 at w2 ⊢
    rw [zRl_11_12 (a := 3814) (zRx_1 w2.1) rfl]
    have i0 : 0 ≤ Y2 2 0 0 3814 % 60 := by omega
    have i1 : Y2 2 0 0 3814 % 60 < 60 := by omega
    generalize Y2 2 0 0 3814 % 60 = n at i0 i1 ⊢
    have w3_ := zW_n (v' := f) (v := f) w2 (ac_53_0 i0 i1 rfl) (zvn_53_0 i0 i1 rfl) rfl rfl rfl rfl
    have w4 := zW_n (v' := t) (v := t) w3_ (ac_53_1 i0 i1 rfl) (zvn_53_1 i0 i1 rfl) rfl rfl rfl rfl
    have w5 := zW_n (v' := c) (v := c) w4 (ac_53_2 i0 i1 rfl) (zvn_53_2 i0 i1 rfl) rfl rfl rfl rfl
    have w6 := zW_n (v' := p) (v := p) w5 (ac_53_3 i0 i1 rfl) (zvn_53_3 i0 i1 rfl) rfl rfl rfl rfl
    generalize zu (zu (zu (zu Z2 53 b n 0 f) 53 b n 1 t) 53 b n 2 c) 53 b n 3 p = Z6 at w6 ⊢
    generalize zu (zu (zu (zu Y2 2 0 0 (3950 + 5 * n) f) 2 0 0 (3951 + 5 * n) t) 2 0 0 (3952 + 5 * n) c) 2 0 0 (3953 + 5 * n) p = Y6 at w6 ⊢
    have w7 := zW_n (v' := Z6 11 b 0 13) (v := Y6 2 0 0 0) w6 (ac_53_4 i0 i1 rfl) (zvn_53_4 i0 i1 rfl) (zRl_11_13 (zRx_1 w6.1) rfl) rfl rfl rfl
    generalize zu Z6 53 b n 4 (Z6 11 b 0 13) = Z7 at w7 ⊢
    generalize zu Y6 2 0 0 (3954 + 5 * n) (Y6 2 0 0 0) = Y7 at w7 ⊢
    have w8 := zW_n (v' := Z7 11 b 0 12 + 1) (v := Y7 2 0 0 3814 + 1) w7 (ac_11_12 rfl) (zvn_11_12 rfl) (by rw [zRl_11_12 (a := 3814) (zRx_1 w7.1) rfl]) rfl rfl rfl
    exact zW_1 w8
  · rw [if_neg h, if_neg h]
    exact ⟨hRa, hV, zFc_r, yFr_r⟩
/-! trucks that are out -/
def zDt (b : Int) (Z Y : qz_Z) : Prop := ∀ t : Int, 0 ≤ t → t < 4 → t < Y 2 0 0 3200 → (Y 2 0 0 (3252 + 24 * t) = 1 → Z 50 b t 8 = Y 2 0 0 (3269 + 24 * t) ∧ (0 ≤ Y 2 0 0 (3258 + 24 * t) ∧ Y 2 0 0 (3258 + 24 * t) ≤ 5) ∧ ∀ k : Int, 0 ≤ k → k < 5 → (k < Y 2 0 0 (3258 + 24 * t) → Z 50 b t (12 + k) = Y 2 0 0 (3259 + 24 * t + k) ∧ Z 50 b t (17 + k) = Y 2 0 0 (3264 + 24 * t + k)) ∧ (Y 2 0 0 (3258 + 24 * t) ≤ k → Z 50 b t (12 + k) = -1 ∧ Z 50 b t (17 + k) = -1)) ∧ (Y 2 0 0 (3252 + 24 * t) ≠ 1 → Z 50 b t 8 = -1)
theorem zDt_f {L K : List Nat} {b : Int} {Z Y C M : qz_Z} (h : zDt b Z Y) (f : zFa L b Z C) (g : yFa K Y M) (e : L.any (fun n => Nat.beq n 5008 || (Nat.ble 5012 n && Nat.ble n 5021)) = false) (e2 : K.any (fun n => Nat.beq n 5002 || Nat.beq n 1108 || (Nat.ble 10003 n && Nat.ble n 10014)) = false) : zDt b C M := by
  have hL : ∀ n : Nat, (Nat.beq n 5008 || (Nat.ble 5012 n && Nat.ble n 5021)) = true → L.contains n = false := fun n hc => by
    cases q : L.contains n with
    | false => rfl
    | true =>
      have := List.any_eq_false.mp e n (List.contains_iff_mem.mp q)
      rw [hc] at this
      exact absurd rfl this
  have hK : ∀ n : Nat, (Nat.beq n 5002 || Nat.beq n 1108 || (Nat.ble 10003 n && Nat.ble n 10014)) = true → K.contains n = false := fun n hc => by
    cases q : K.contains n with
    | false => rfl
    | true =>
      have := List.any_eq_false.mp e2 n (List.contains_iff_mem.mp q)
      rw [hc] at this
      exact absurd rfl this
  intro t t0 t1 t2
  rw [yFr_at 1108 g (hK _ rfl) (zcm_s (ac_11_8 rfl))] at t2
  rw [yFr_at 5002 g (hK _ rfl) (zcm_s (ac_50_2 t0 t1 rfl)), yFr_at 10014 g (hK _ rfl) (zcm_home t0 t1 rfl), yFr_at 10003 g (hK _ rfl) (zcm_towns t0 t1 rfl), zFc_at 5008 f (hL _ rfl) rfl rfl]
  obtain ⟨h1, h2⟩ := h t t0 t1 t2
  refine ⟨fun o => ?_, h2⟩
  obtain ⟨a1, a2, a3⟩ := h1 o
  refine ⟨a1, a2, fun k k0 k1 => ?_⟩
  have c : k = 0 ∨ k = 1 ∨ k = 2 ∨ k = 3 ∨ k = 4 := by omega
  have a := a3 k k0 k1
  rcases c with rfl | rfl | rfl | rfl | rfl
  · rw [zFc_at (j := 12 + 0) 5012 f (hL _ rfl) rfl rfl, zFc_at (j := 17 + 0) 5017 f (hL _ rfl) rfl rfl, yFr_at 10004 g (hK _ rfl) (zcm_town0 t0 t1 (by omega)), yFr_at 10009 g (hK _ rfl) (zcm_due0 t0 t1 (by omega))]
    exact a
  · rw [zFc_at (j := 12 + 1) 5013 f (hL _ rfl) rfl rfl, zFc_at (j := 17 + 1) 5018 f (hL _ rfl) rfl rfl, yFr_at 10005 g (hK _ rfl) (zcm_town1 t0 t1 (by omega)), yFr_at 10010 g (hK _ rfl) (zcm_due1 t0 t1 (by omega))]
    exact a
  · rw [zFc_at (j := 12 + 2) 5014 f (hL _ rfl) rfl rfl, zFc_at (j := 17 + 2) 5019 f (hL _ rfl) rfl rfl, yFr_at 10006 g (hK _ rfl) (zcm_town2 t0 t1 (by omega)), yFr_at 10011 g (hK _ rfl) (zcm_due2 t0 t1 (by omega))]
    exact a
  · rw [zFc_at (j := 12 + 3) 5015 f (hL _ rfl) rfl rfl, zFc_at (j := 17 + 3) 5020 f (hL _ rfl) rfl rfl, yFr_at 10007 g (hK _ rfl) (zcm_town3 t0 t1 (by omega)), yFr_at 10012 g (hK _ rfl) (zcm_due3 t0 t1 (by omega))]
    exact a
  · rw [zFc_at (j := 12 + 4) 5016 f (hL _ rfl) rfl rfl, zFc_at (j := 17 + 4) 5021 f (hL _ rfl) rfl rfl, yFr_at 10008 g (hK _ rfl) (zcm_town4 t0 t1 (by omega)), yFr_at 10013 g (hK _ rfl) (zcm_due4 t0 t1 (by omega))]
    exact a
/-- a truck is in the towns in which it is due -/
theorem rl_39 {b t : Int} (t0 : 0 ≤ t) (t1 : t < 4) : ∀ (m n : Nat) {Z Y : qz_Z} {x : Int}, zR b Z Y → zV Y → zN4 Y → zDt b Z Y → t < Y 2 0 0 3200 → Y 2 0 0 (3252 + 24 * t) = 1 → 0 ≤ x → x ≤ 5 → 5 - x < (m : Int) → 5 - x < (n : Int) → zR b (zl_39_1 b t t m Z x).1 (zl_506_1 t n Y x).1 ∧ zV (zl_506_1 t n Y x).1 ∧ zFc [4510, 4709, 4710, 4717] b Z (zl_39_1 b t t m Z x).1 ∧ yFr [4709, 4710, 4717] Y (zl_506_1 t n Y x).1 ∧ zN4 (zl_506_1 t n Y x).1
  | 0, _, _, _, _, _, _, _, _, _, _, _, _, _, _ => by omega
  | m + 1, 0, _, _, _, _, _, _, _, _, _, _, _, _, _ => by omega
  | m + 1, n + 1, Z, Y, x, hRa, hV, hN4, hDt, ht, ho, x0, x1, h1, h2 => by
    unfold zl_39_1 zl_506_1
    obtain ⟨a1, a2, a3⟩ := (hDt t t0 t1 ht).1 ho
    by_cases c : 5 ≤ x
    · rw [if_pos c, if_pos (by omega)]
      exact ⟨hRa, hV, zFc_r, yFr_r, hN4⟩
    rw [if_neg c, zRl_11_13 (a := 0) hRa rfl]
    obtain ⟨g1, g2⟩ := a3 x x0 (by omega)
    have v := zVr_11_13 (a := 0) hV rfl
    by_cases d : Y 2 0 0 (3258 + 24 * t) ≤ x
    · obtain ⟨_, k⟩ := g2 d
      have ih := rl_39 t0 t1 m n (x := x + 1) hRa hV hN4 hDt ht ho (by omega) (by omega) (by omega) (by omega)
      rw [if_pos d, k, if_pos (by omega)]
      have e : (zl_506_1 t n Y (x + 1)).1 = Y := by
        cases n with
        | zero => rfl
        | succ n =>
          unfold zl_506_1
          rw [if_pos (by omega)]
      rw [e] at ih
      exact ih
    · obtain ⟨k1, k2⟩ := g1 (by omega)
      rw [if_neg d, k1, k2]
      by_cases z : Y 2 0 0 (3264 + 24 * t + x) ≠ Y 2 0 0 0
      · rw [if_pos z, if_pos z]
        exact rl_39 t0 t1 m n (x := x + 1) hRa hV hN4 hDt ht ho (by omega) (by omega) (by omega) (by omega)
      · rw [if_neg z, if_neg z]
        simp only [zlet]
        obtain ⟨p1, p2, p3, p4, p5⟩ := rr_41 (w := Y 2 0 0 (3259 + 24 * t + x)) hRa hV hN4 t0 rfl rfl
        have ih := rl_39 t0 t1 m n (x := x + 1) p1 p2 p5 (zDt_f hDt p3.1 p4.1 rfl rfl) (by rw [yFr_at 1108 p4.1 rfl (zcm_s (ac_11_8 rfl))]; exact ht) (by rw [yFr_at 5002 p4.1 rfl (zcm_s (ac_50_2 t0 t1 rfl))]; exact ho) (by omega) (by omega) (by omega) (by omega)
        exact ⟨ih.1, ih.2.1, zFc_t p3 ih.2.2.1 (by decide), yFr_t p4 ih.2.2.2.1 (by decide), ih.2.2.2.2⟩
theorem rl_39o {b : Int} : ∀ (m n : Nat) {Z Y : qz_Z} {x : Int}, zR b Z Y → zV Y → zN4 Y → zDt b Z Y → 0 ≤ x → x ≤ 4 → 4 - x < (m : Int) → 4 - x < (n : Int) → zR b (zl_39_4 b m Z x).1 (zl_505_1 n Y x).1 ∧ zV (zl_505_1 n Y x).1 ∧ zFc [1112, 1400, 4510, 4709, 4710, 4717, 5002, 5008, 5010, 5300, 5301, 5302, 5303, 5304] b Z (zl_39_4 b m Z x).1 ∧ yFr [1112, 1400, 4709, 4710, 4717, 5002, 5010, 5300, 5301, 5302, 5303, 5304] Y (zl_505_1 n Y x).1 ∧ zN4 (zl_505_1 n Y x).1 ∧ zDt b (zl_39_4 b m Z x).1 (zl_505_1 n Y x).1
  | 0, _, _, _, _, _, _, _, _, _, _, _, _ => by omega
  | m + 1, 0, _, _, _, _, _, _, _, _, _, _, _ => by omega
  | m + 1, n + 1, Z, Y, x, hRa, hV, hN4, hDt, x0, x1, h1, h2 => by
    unfold zl_39_4 zl_505_1
    rw [zRl_11_8 (a := 3200) hRa rfl]
    have v8 := zVr_11_8 (a := 3200) hV rfl
    by_cases c : Y 2 0 0 3200 ≤ x
    · rw [if_pos c, if_pos c]
      exact ⟨hRa, hV, zFc_r, yFr_r, hN4, hDt⟩
    have x4 : x < 4 := by omega
    rw [if_neg c, if_neg c, zRl_50_2 (x := x) (a := 3252 + 24 * x) hRa x0 x4 rfl]
    by_cases o : Y 2 0 0 (3252 + 24 * x) ≠ 1
    · rw [if_pos o, if_pos o]
      exact rl_39o m n (x := x + 1) hRa hV hN4 hDt (by omega) (by omega) (by omega) (by omega)
    have o' := Classical.not_not.mp o
    rw [if_neg o, if_neg o]
    obtain ⟨p1, p2, p3, p4, p5⟩ := rl_39 x0 x4 6 6 (x := 0) hRa hV hN4 hDt (by omega) o' (by omega) (by omega) (by omega) (by omega)
    unfold zf_506
    have e1 : ∀ (q : qz_Z × Int) (k : qz_Z → Int → qz_Z × Int), zlet2 q k = k q.1 q.2 := fun _ _ => rfl
    have e2 : ∀ (q : qz_Z × Int) (k : qz_Z → Int → qz_Z), zlet2 q k = k q.1 q.2 := fun _ _ => rfl
    rw [e1, e2]
    generalize (zl_39_1 b x x 6 Z 0).1 = Z1 at p1 p3 ⊢
    generalize (zl_506_1 x 6 Y 0).1 = Y1 at p1 p2 p4 p5 ⊢
    have D1 := zDt_f hDt p3.1 p4.1 rfl rfl
    have c1 : Y1 2 0 0 3200 = Y 2 0 0 3200 := yFr_at 1108 p4.1 rfl (zcm_s (ac_11_8 rfl))
    have o1 : Y1 2 0 0 (3252 + 24 * x) = 1 := by rw [yFr_at 5002 p4.1 rfl (zcm_s (ac_50_2 x0 x4 rfl))]; exact o'
    obtain ⟨a1, a2, a3⟩ := (D1 x x0 x4 (by omega)).1 o1
    rw [a1, zRl_11_13 (a := 0) p1 rfl]
    by_cases z : Y1 2 0 0 (3269 + 24 * x) ≠ Y1 2 0 0 0
    · rw [if_pos z, if_pos z]
      simp only [zlet]
      have ih := rl_39o m n (x := x + 1) p1 p2 p5 D1 (by omega) (by omega) (by omega) (by omega)
      exact ⟨ih.1, ih.2.1, zFc_t (zFc_w p3 (by decide)) ih.2.2.1 (by decide), yFr_t (yFr_w p4 (by decide)) ih.2.2.2.1 (by decide), ih.2.2.2.2⟩
    rw [if_neg z, if_neg z]
    simp only [zlet]
    have w1 : zW [] [5002, 5008, 5010] [5002, 5010] b Z1 Y1 (zu Z1 50 b x 2 0) (zu Y1 2 0 0 (3252 + 24 * x) 0) := zW_i (zW_0 (zRx_0 p1) p2) (ac_50_2 x0 x4 rfl) (zvi_50_2 x0 x4 rfl) (by omega) rfl rfl rfl rfl
    have w2 := zW_c (i := x) (v := -1) w1 adn_50_8 rfl rfl
    have g8 : ∀ t : Int, zu (zu Z1 50 b x 2 0) 50 b x 8 (-1) 50 b t 8 = if t = x then -1 else Z1 50 b t 8 := fun t => by
      simp [zuq]
    generalize hZ2 : zu (zu Z1 50 b x 2 0) 50 b x 8 (-1) = Z2 at w2 g8 ⊢
    generalize hY2 : zu Y1 2 0 0 (3252 + 24 * x) 0 = Y2 at w2 ⊢
    have w3_ := zW_n (v' := w3 (Z2 50 b x 10 + Z2 50 b x 6)) (v := w3 (Y2 2 0 0 (3256 + 24 * x) + Y2 2 0 0 (3255 + 24 * x))) w2 (ac_50_10 x0 x4 rfl) (zvn_50_10 x0 x4 rfl) (by rw [zRl_50_10 (x := x) (a := 3256 + 24 * x) (zRx_1 w2.1) x0 x4 rfl, zRl_50_6 (x := x) (a := 3255 + 24 * x) (zRx_1 w2.1) x0 x4 rfl]) rfl rfl rfl
    generalize hZ3 : zu Z2 50 b x 10 (w3 (Z2 50 b x 10 + Z2 50 b x 6)) = Z3 at w3_ ⊢
    generalize hY3 : zu Y2 2 0 0 (3256 + 24 * x) (w3 (Y2 2 0 0 (3256 + 24 * x) + Y2 2 0 0 (3255 + 24 * x))) = Y3 at w3_ ⊢
    have D3 : zDt b Z3 Y3 := by
      intro t h0 h1 h2
      have n : ∀ a : Int, a ≠ 3252 + 24 * x → a ≠ 3256 + 24 * x → Y3 2 0 0 a = Y1 2 0 0 a := fun a n1 n2 => by rw [← hY3, zun n2, ← hY2, zun n1]
      have nc : ∀ j : Int, j ≠ 2 → j ≠ 8 → j ≠ 10 → Z3 50 b t j = Z1 50 b t j := fun j n1 n2 n3 => by
        rw [← hZ3, zu_ne rfl (fun q => n3 q.2.2.2), ← hZ2, zu_ne rfl (fun q => n2 q.2.2.2), zu_ne rfl (fun q => n1 q.2.2.2)]
      have n8 : Z3 50 b t 8 = if t = x then -1 else Z1 50 b t 8 := by
        rw [← hZ3, zu_ne rfl (fun q => absurd q.2.2.2 (by decide)), g8]
      rw [n _ (by omega) (by omega)] at h2
      have g := D1 t h0 h1 h2
      rw [n (3258 + 24 * t) (by omega) (by omega), n (3269 + 24 * t) (by omega) (by omega), n8]
      by_cases e : t = x
      · have oz : Y3 2 0 0 (3252 + 24 * t) = 0 := by rw [e, ← hY3, zun (by omega), ← hY2, zua]
        rw [oz]
        exact ⟨fun q => absurd q (by decide), fun _ => by rw [if_pos e]⟩
      · rw [if_neg e, n (3252 + 24 * t) (by omega) (by omega)]
        refine ⟨fun q => ?_, g.2⟩
        obtain ⟨b1, b2, b3⟩ := g.1 q
        refine ⟨b1, b2, fun k k0 k1 => ?_⟩
        rw [nc (12 + k) (by omega) (by omega) (by omega), nc (17 + k) (by omega) (by omega) (by omega), n (3259 + 24 * t + k) (by omega) (by omega), n (3264 + 24 * t + k) (by omega) (by omega)]
        exact b3 k k0 k1
    have N3 : zN4 Y3 := zN4_f p5 w3_.2.2.2.1 ⟨rfl, rfl, rfl⟩
    have ce : w3 (Z3 13 b 0 2 * Z3 50 b x 6) = w3 (Y3 2 0 0 3812 * Y3 2 0 0 (3255 + 24 * x)) := by
      rw [zRl_13_s (x := 2) (a := 3812) (zRx_1 w3_.1) (by omega) (by omega) (by omega), zRl_50_6 (x := x) (a := 3255 + 24 * x) (zRx_1 w3_.1) x0 x4 rfl]
    have q := rr_9005 (f := 0) (t := 5) (c := w3 (Y3 2 0 0 3812 * Y3 2 0 0 (3255 + 24 * x))) (p := -1) (zRx_1 w3_.1) w3_.2.1 (by omega) (by omega) (by omega) (by omega)
    obtain ⟨q1, q2, q3, q4⟩ := q
    have step : ∀ G : qz_Z × Int, G = zl_39_4 b m (zf_9005 Z3 b 0 5 (w3 (Z3 13 b 0 2 * Z3 50 b x 6)) (-1)) (x + 1) → zR b G.1 (zl_505_1 n (zf_403 Y3 0 5 (w3 (Y3 2 0 0 3812 * Y3 2 0 0 (3255 + 24 * x))) (-1)) (x + 1)).1 ∧ zV (zl_505_1 n (zf_403 Y3 0 5 (w3 (Y3 2 0 0 3812 * Y3 2 0 0 (3255 + 24 * x))) (-1)) (x + 1)).1 ∧ zFc [1112, 1400, 4510, 4709, 4710, 4717, 5002, 5008, 5010, 5300, 5301, 5302, 5303, 5304] b Z G.1 ∧ yFr [1112, 1400, 4709, 4710, 4717, 5002, 5010, 5300, 5301, 5302, 5303, 5304] Y (zl_505_1 n (zf_403 Y3 0 5 (w3 (Y3 2 0 0 3812 * Y3 2 0 0 (3255 + 24 * x))) (-1)) (x + 1)).1 ∧ zN4 (zl_505_1 n (zf_403 Y3 0 5 (w3 (Y3 2 0 0 3812 * Y3 2 0 0 (3255 + 24 * x))) (-1)) (x + 1)).1 ∧ zDt b G.1 (zl_505_1 n (zf_403 Y3 0 5 (w3 (Y3 2 0 0 3812 * Y3 2 0 0 (3255 + 24 * x))) (-1)) (x + 1)).1 := by
      rintro G rfl
      rw [ce]
      have ih := rl_39o m n (x := x + 1) q1 q2 (zN4_f N3 q4.1 ⟨rfl, rfl, rfl⟩) (zDt_f D3 q3.1 q4.1 rfl rfl) (by omega) (by omega) (by omega) (by omega)
      refine ⟨ih.1, ih.2.1, ?_, ?_, ih.2.2.2.2⟩
      · exact zFc_t (zFc_t (zFc_t (zFc_w p3 (by decide)) w3_.2.2.1 (by decide)) q3 (by decide)) ih.2.2.1 (by decide)
      · exact yFr_t (yFr_t (yFr_t (yFr_w p4 (by decide)) w3_.2.2.2 (by decide)) q4 (by decide)) ih.2.2.2.1 (by decide)
    refine step _ ?_
    unfold zf_9005
    split <;> rfl
theorem rr_39 {b : Int} {Z Y : qz_Z} (hRa : zR b Z Y) (hV : zV Y) (hN4 : zN4 Y) (hDt : zDt b Z Y) {C M : qz_Z} (hC : zE C (zf_39 Z b)) (hM : zE M (zf_505 Y)) : zR b C M ∧ zV M ∧ zFc [1112, 1400, 4510, 4709, 4710, 4717, 5002, 5008, 5010, 5300, 5301, 5302, 5303, 5304] b Z C ∧ yFr [1112, 1400, 4709, 4710, 4717, 5002, 5010, 5300, 5301, 5302, 5303, 5304] Y M ∧ zN4 M ∧ zDt b C M := by
  have hc : C = _ := hC
  have hm : M = _ := hM
  rw [hc, hm]
  exact rl_39o 5 5 (x := 0) hRa hV hN4 hDt (by omega) (by omega) (by omega) (by omega)
