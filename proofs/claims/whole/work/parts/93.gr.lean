/-! a pallet is graded -/
def zf_9095 (Z : qz_Z) (b p s v bad : Int) : qz_Z := (zlet (zu Z 44 b p 9 v) (fun Z1 => (zlet (zu Z1 44 b p 14 (w3 ((Z1 44 b p 14) + 1))) (fun Z2 => (zlet (zu Z2 44 b p 15 bad) (fun Z3 => zf_9005 Z3 b 0 6 (s * (Z3 13 b 0 0)) p))))))
def zf_9345 (Z : qz_Z) (p s v bad : Int) : qz_Z := (zlet (zu Z 2 0 0 (209 + 20 * p) v) (fun Z1 => (zlet (zu Z1 2 0 0 (212 + 20 * p) (w3 ((Z1 2 0 0 (212 + 20 * p)) + 1))) (fun Z2 => (zlet (zu Z2 2 0 0 (213 + 20 * p) bad) (fun Z3 => zf_403 Z3 0 6 ((Z3 2 0 0 3810) * s) p))))))
theorem zf_9095f {Z3 : qz_Z} {b p s : Int} : (if (s * (Z3 13 b 0 0)) ≠ 0 then (zlet (zu Z3 14 b 0 0 (w3 ((Z3 14 b 0 0) - (s * (Z3 13 b 0 0))))) (fun Z110 => (zlet (zu Z110 14 b 0 6 (w3 ((Z110 14 b 0 6) + (s * (Z3 13 b 0 0))))) (fun Z113 => (zlet (zu Z113 53 b ((Z113 11 b 0 12) % 60) 0 0) (fun Z115 => (zlet (zu Z115 53 b ((Z113 11 b 0 12) % 60) 1 6) (fun Z116 => (zlet (zu Z116 53 b ((Z113 11 b 0 12) % 60) 2 (s * (Z3 13 b 0 0))) (fun Z117 => (zlet (zu Z117 53 b ((Z113 11 b 0 12) % 60) 3 p) (fun Z118 => (zlet (zu Z118 53 b ((Z113 11 b 0 12) % 60) 4 (Z118 11 b 0 13)) (fun Z120 => (zlet (zu Z120 11 b 0 12 ((Z120 11 b 0 12) + 1)) (fun Z123 => (Z123, (Z123 44 b p 9)))))))))))))))))) else (Z3, (Z3 44 b p 9))) = (zf_9005 Z3 b 0 6 (s * (Z3 13 b 0 0)) p, zf_9005 Z3 b 0 6 (s * (Z3 13 b 0 0)) p 44 b p 9) := by
  by_cases c : s * Z3 13 b 0 0 ≠ 0
  · rw [show zf_9005 Z3 b 0 6 (s * (Z3 13 b 0 0)) p = _ from if_pos c, if_pos c]
    rfl
  · rw [show zf_9005 Z3 b 0 6 (s * (Z3 13 b 0 0)) p = Z3 from if_neg c, if_neg c]
theorem zf_9095e {Z : qz_Z} {b p s v bad : Int} : (zlet (zu Z 44 b p 9 v) (fun Z100 => (zlet (zu Z100 44 b p 14 (w3 ((Z100 44 b p 14) + 1))) (fun Z103 => (zlet (zu Z103 44 b p 15 bad) (fun Z104 => (if (s * (Z104 13 b 0 0)) ≠ 0 then (zlet (zu Z104 14 b 0 0 (w3 ((Z104 14 b 0 0) - (s * (Z104 13 b 0 0))))) (fun Z110 => (zlet (zu Z110 14 b 0 6 (w3 ((Z110 14 b 0 6) + (s * (Z104 13 b 0 0))))) (fun Z113 => (zlet (zu Z113 53 b ((Z113 11 b 0 12) % 60) 0 0) (fun Z115 => (zlet (zu Z115 53 b ((Z113 11 b 0 12) % 60) 1 6) (fun Z116 => (zlet (zu Z116 53 b ((Z113 11 b 0 12) % 60) 2 (s * (Z104 13 b 0 0))) (fun Z117 => (zlet (zu Z117 53 b ((Z113 11 b 0 12) % 60) 3 p) (fun Z118 => (zlet (zu Z118 53 b ((Z113 11 b 0 12) % 60) 4 (Z118 11 b 0 13)) (fun Z120 => (zlet (zu Z120 11 b 0 12 ((Z120 11 b 0 12) + 1)) (fun Z123 => (Z123, (Z123 44 b p 9)))))))))))))))))) else (Z104, (Z104 44 b p 9))))))))) = (zf_9095 Z b p s v bad, zf_9095 Z b p s v bad 44 b p 9) := zf_9095f (Z3 := zu (zu (zu Z 44 b p 9 v) 44 b p 14 (w3 ((zu Z 44 b p 9 v) 44 b p 14 + 1))) 44 b p 15 bad)
/-- what is left when the sample is counted -/
theorem rr_95t {b p s v bad : Int} {Z Y : qz_Z} (hRa : zR b Z Y) (hV : zV Y) (p0 : 0 ≤ p) (p1 : p < 48) (v0 : 0 ≤ v) (v1 : v ≤ 3) : zR b (zf_9095 Z b p s v bad) (zf_9345 Y p s v bad) ∧ zV (zf_9345 Y p s v bad) ∧ zFc [1112, 1400, 4409, 4414, 4415, 5300, 5301, 5302, 5303, 5304] b Z (zf_9095 Z b p s v bad) ∧ yFr [1112, 1400, 4409, 4414, 4415, 5300, 5301, 5302, 5303, 5304] Y (zf_9345 Y p s v bad) := by
  unfold zf_9095 zf_9345
  simp only [zlet]
  have w1 : zW [] [1112, 1400, 4409, 4414, 4415, 5300, 5301, 5302, 5303, 5304] [1112, 1400, 4409, 4414, 4415, 5300, 5301, 5302, 5303, 5304] b Z Y _ _ := zW_i (v' := v) (v := v) (zW_0 (zRx_0 hRa) hV) (ac_44_9 p0 p1 rfl) (zvi_44_9 p0 p1 rfl) (by omega) rfl rfl rfl rfl
  generalize zu Z 44 b p 9 v = Z1 at w1 ⊢
  generalize zu Y 2 0 0 (209 + 20 * p) v = Y1 at w1 ⊢
  have w2 := zW_n (v' := w3 (Z1 44 b p 14 + 1)) (v := w3 (Y1 2 0 0 (212 + 20 * p) + 1)) w1 (ac_44_14 p0 p1 rfl) (zvn_44_14 p0 p1 rfl) (by rw [zRl_44_14 (x := p) (a := 212 + 20 * p) (zRx_1 w1.1) p0 p1 rfl]) rfl rfl rfl
  generalize zu Z1 44 b p 14 (w3 (Z1 44 b p 14 + 1)) = Z2 at w2 ⊢
  generalize zu Y1 2 0 0 (212 + 20 * p) (w3 (Y1 2 0 0 (212 + 20 * p) + 1)) = Y2 at w2 ⊢
  have w3_ := zW_n (v' := bad) (v := bad) w2 (ac_44_15 p0 p1 rfl) (zvn_44_15 p0 p1 rfl) rfl rfl rfl rfl
  generalize zu Z2 44 b p 15 bad = Z3 at w3_ ⊢
  generalize zu Y2 2 0 0 (213 + 20 * p) bad = Y3 at w3_ ⊢
  rw [zRl_13_s (x := 0) (a := 3810) (zRx_1 w3_.1) (by omega) (by omega) rfl, Int.mul_comm]
  exact zW_1 (zW_t w3_ (rr_9005 (zRx_1 w3_.1) w3_.2.1 (by omega) (by omega) (by omega) (by omega)) (by decide) (by decide))
theorem zf_95e {Z : qz_Z} {b p s a sd : Int} : zf_95 Z b p s a sd = zlet (zl_95_1 b p p s a 21 Z (Z 44 b p 4) (Z 44 b p 5) 0 sd 0).2.2.1 (fun bad => zlet (zf_9095 Z b p s (max (if bad ≠ 0 then (if a < bad then (if ((2 * a) + 1) < bad then 3 else 2) else 1) else 0) (zf_100 Z b b p)) bad) (fun W => (W, W 44 b p 9))) := by
  unfold zf_95
  simp only [zlet5]
  generalize (zl_95_1 b p p s a 21 Z (Z 44 b p 4) (Z 44 b p 5) 0 sd 0).2.2.1 = bad
  show _ = (zf_9095 Z b p s (max (if bad ≠ 0 then (if a < bad then (if ((2 * a) + 1) < bad then 3 else 2) else 1) else 0) (zf_100 Z b b p)) bad, zf_9095 Z b p s (max (if bad ≠ 0 then (if a < bad then (if ((2 * a) + 1) < bad then 3 else 2) else 1) else 0) (zf_100 Z b b p)) bad 44 b p 9)
  by_cases c1 : bad ≠ 0
  · rw [if_pos c1, if_pos c1]
    by_cases c2 : a < bad
    · rw [if_pos c2, if_pos c2]
      by_cases c3 : ((2 * a) + 1) < bad
      · rw [if_pos c3, if_pos c3]
        exact zf_9095e
      · rw [if_neg c3, if_neg c3]
        exact zf_9095e
    · rw [if_neg c2, if_neg c2]
      exact zf_9095e
  · rw [if_neg c1, if_neg c1]
    exact zf_9095e
theorem rf_grade {Z Y : qz_Z} {dm : qz_Z → Int → Int → Int → Int → Int → Int → Int → qz_Z} {a1 a2 a3 a4 : Int} (hRa : zR 0 Z Y) (hV : zV Y) (hI : zI none Z) (hd : zDf dm) (hcr : ∀ p : Int, 0 ≤ p → p < 48 → Y 2 0 0 (204 + 20 * p) ≤ 40) {C : qz_Z × Int × Int} {M : qz_Z × Int} (hC : zE C (zx_203 Z a1 a2 a3 a4)) (hM : zE M (zy_345 Y dm a1 a2 a3 a4)) : zR 0 C.1 M.1 ∧ zV M.1 ∧ zDd [1112, 1400, 4409, 4414, 4415, 5300, 5301, 5302, 5303, 5304] [1112, 1400, 4409, 4414, 4415, 5300, 5301, 5302, 5303, 5304, 99999] Z Y dm C.1 M.1 ∧ zThr [(24, 1), (13, 2), (15, 3)] C.2 (M.1 1 0 0 2) M.2 := by
  have E : ∀ {Y' : qz_Z} {v' E t : Int}, zqY Y Y' → (E, t) ∈ [((24 : Int), (1 : Int)), (13, 2), (15, 3)] → zR 0 Z (zu Y' 1 0 0 2 t) ∧ zV (zu Y' 1 0 0 2 t) ∧ zDd [1112, 1400, 4409, 4414, 4415, 5300, 5301, 5302, 5303, 5304] [1112, 1400, 4409, 4414, 4415, 5300, 5301, 5302, 5303, 5304, 99999] Z Y dm Z (zu Y' 1 0 0 2 t) ∧ zThr [(24, 1), (13, 2), (15, 3)] ((0 : Int), E) (zu Y' 1 0 0 2 t 1 0 0 2) v' := fun {Y' v' E t} h m => by
    have h2 := zqY_u (t := t) h
    exact ⟨zR_e hRa (fun _ _ _ _ => rfl) h2.1, zV_e hV h2.1, ⟨Z, _, .inl ⟨rfl, h2.2⟩, zFc_r, yFr_r⟩, zThr_e (zu_at rfl) m⟩
  have hc : C = _ := hC
  have hm : M = _ := hM
  unfold zx_203 at hc
  unfold zy_345 at hm
  have r3 := zRl_11_3 (a := 102) hRa rfl
  have v3 := zVr_11_3 (a := 102) hV rfl
  have q1 := zqY_u (t := 0) (zqY_0 (Y := Y))
  have q2 := zqY_u (t := 0) q1
  have q3 := zqY_u (t := 0) q2
  by_cases h1 : a1 < 0
  · rw [if_neg (by omega)] at hc
    rw [if_pos h1] at hm
    rw [hc, hm]
    exact E zqY_0 (by decide)
  rw [if_neg h1] at hm
  by_cases h2 : Y 2 0 0 102 - 1 < a1
  · rw [if_neg (by omega)] at hc
    rw [if_pos h2] at hm
    rw [hc, hm]
    exact E zqY_0 (by decide)
  rw [if_neg h2] at hm
  rw [if_pos (by omega)] at hc
  rw [zlet] at hm
  by_cases h3 : a2 < 1
  · rw [if_neg (by omega)] at hc
    rw [if_pos h3] at hm
    rw [hc, hm]
    exact E q1 (by decide)
  rw [if_neg h3] at hm
  by_cases h4 : 20 < a2
  · rw [if_neg (by omega)] at hc
    rw [if_pos h4] at hm
    rw [hc, hm]
    exact E q1 (by decide)
  rw [if_neg h4] at hm
  rw [if_pos (show 1 ≤ a2 ∧ a2 ≤ 20 by omega)] at hc
  by_cases h5 : a3 < 0
  · rw [if_neg (by omega)] at hc
    rw [if_pos h5] at hm
    rw [hc, hm]
    exact E q1 (by decide)
  rw [if_neg h5] at hm
  by_cases h6 : 9 < a3
  · rw [if_neg (by omega)] at hc
    rw [if_pos h6] at hm
    rw [hc, hm]
    exact E q1 (by decide)
  rw [if_neg h6] at hm
  rw [if_pos (show 0 ≤ a3 ∧ a3 ≤ 9 by omega)] at hc
  by_cases h7 : a4 < 0
  · rw [if_neg (by omega)] at hc
    rw [if_pos h7] at hm
    rw [hc, hm]
    exact E q1 (by decide)
  rw [if_neg h7] at hm
  by_cases h8 : 65535 < a4
  · rw [if_neg (by omega)] at hc
    rw [if_pos h8] at hm
    rw [hc, hm]
    exact E q1 (by decide)
  rw [if_neg h8] at hm
  rw [if_pos (show 0 ≤ a4 ∧ a4 ≤ 65535 by omega)] at hc
  rw [zlet, q2.1, q2.1] at hm
  rw [zRl_44_10 (x := a1) (a := 210 + 20 * a1) hRa (by omega) (by omega) rfl, zRl_44_4 (x := a1) (a := 204 + 20 * a1) hRa (by omega) (by omega) rfl] at hc
  by_cases h9 : Y 2 0 0 (210 + 20 * a1) ≠ 0
  · rw [if_pos h9] at hc hm
    rw [hc, hm]
    exact E q2 (by decide)
  rw [if_neg h9] at hc hm
  by_cases h10 : Y 2 0 0 (204 + 20 * a1) < a2
  · rw [if_pos h10] at hc hm
    rw [hc, hm]
    exact E q2 (by decide)
  rw [if_neg h10] at hc hm
  rw [zlet, zlet] at hm
  rw [zlet] at hc
  have y32 : zu (zu (zu Y 1 0 0 2 0) 1 0 0 2 0) 1 0 0 2 0 1 0 0 2 = 0 := zu_at rfl
  generalize zu (zu (zu Y 1 0 0 2 0) 1 0 0 2 0) 1 0 0 2 0 = Y3 at q3 y32 hm
  have hR3 : zR 0 Z Y3 := zR_e hRa (fun _ _ _ _ => rfl) q3.1
  have hV3 : zV Y3 := zV_e hV q3.1
  obtain ⟨Zd, hZd⟩ : ∃ Zd, Zd = zdd Z 3 a1 a2 a3 a4 0 0 := ⟨_, rfl⟩
  obtain ⟨Yd, hYd⟩ : ∃ Yd, Yd = dm Y3 4 a1 a2 a3 a4 0 0 := ⟨_, rfl⟩
  rw [← hZd] at hc
  rw [← hYd] at hm
  have hRd : zR 0 Zd Yd := zRx_1 (zRx_dd (zRx_0 hR3) hI hd hZd hYd)
  have hVd : zV Yd := zV_dm hV3 hd hYd
  have s0 : zSd Yd Yd := ⟨fun _ => rfl, yFr_r⟩
  have s1 := zSd_u (t := a4) s0
  rw [zlet] at hm
  have sd3 : zu Yd 1 0 0 3 a4 1 0 0 3 = a4 := zu_at rfl
  have cr : Y 2 0 0 (204 + 20 * a1) = Yd 2 0 0 (204 + 20 * a1) := ((yFa_dm hd hYd (204 + 20 * a1) rfl).trans (q3.1 _)).symm
  have c40 := hcr a1 (by omega) (by omega)
  rw [cr] at h10 c40
  rw [s1.1, s1.1] at hm
  generalize zu Yd 1 0 0 3 a4 = Y4 at s1 sd3 hm
  have k := rl_95 (b := 0) (p := a1) (n := a2) (ps := a3) (cr := Yd 2 0 0 (204 + 20 * a1)) (bd := Yd 2 0 0 (205 + 20 * a1)) (Z := Zd) (Y0 := Yd) (by omega) c40 21 21 Y4 0 a4 0 (by omega) (by omega) (by omega) (by omega) sd3 (by omega) (by omega) s1
  rw [Int.sub_zero, Int.sub_zero] at k
  rw [zf_95e, zRl_44_4 (x := a1) (a := 204 + 20 * a1) hRd (by omega) (by omega) rfl, zRl_44_5 (x := a1) (a := 205 + 20 * a1) hRd (by omega) (by omega) rfl, k.1] at hc
  unfold zf_322 at hm
  obtain ⟨k1, k2⟩ := k
  rw [zlet2, zlet3] at hm
  rw [zlet2] at hc
  generalize zl_322_1 (Yd 2 0 0 (204 + 20 * a1)) (Yd 2 0 0 (205 + 20 * a1)) a2 21 Y4 0 0 = q at k2 hc hm
  obtain ⟨Y5, bad, x⟩ := q
  have k3 : zSd Yd Y5 := k2
  have hR5 : zR 0 Zd Y5 := zR_e hRd (fun _ _ _ _ => rfl) k3.1
  have hV5 : zV Y5 := zV_e hVd k3.1
  obtain ⟨g1', g2, g3⟩ := rr_100 hR5 hV5 (p := a1) (by omega) (by omega)
  have F : ∀ {v : Int}, 0 ≤ v → v ≤ 3 → zR 0 (zf_9095 Zd 0 a1 a2 v bad) (zf_9345 Y5 a1 a2 v bad) ∧ zV (zf_9345 Y5 a1 a2 v bad) ∧ zDd [1112, 1400, 4409, 4414, 4415, 5300, 5301, 5302, 5303, 5304] [1112, 1400, 4409, 4414, 4415, 5300, 5301, 5302, 5303, 5304, 99999] Z Y dm (zf_9095 Zd 0 a1 a2 v bad) (zf_9345 Y5 a1 a2 v bad) ∧ zThr [(24, 1), (13, 2), (15, 3)] (zf_9095 Zd 0 a1 a2 v bad 44 0 a1 9, 0) (zf_9345 Y5 a1 a2 v bad 1 0 0 2) (zf_9345 Y5 a1 a2 v bad 2 0 0 (209 + 20 * a1)) := fun {v} v0 v1 => by
    obtain ⟨t1, t2, t3, t4⟩ := rr_95t (s := a2) (bad := bad) hR5 hV5 (p := a1) (by omega) (by omega) v0 v1
    refine ⟨t1, t2, ⟨Zd, Yd, .inr ⟨3, a1, a2, a3, a4, 0, 0, 4, Y3, hZd, q3.2, hYd, (by unfold zcode; omega)⟩, t3, yFr_t (yFr_w k3.2 (by decide)) t4 (by decide)⟩, zThr_a ?_ (zRl_44_9 (x := a1) t1 (by omega) (by omega) rfl)⟩
    rw [t4.2.1 rfl, k3.2.2.1 rfl, hYd, hd _ _ _ _ _ _ _ _ _ _ _ _ (by omega)]
    exact y32
  rw [hc, hm]
  simp only [zlet, zlet2]
  rw [g1']
  generalize zf_326 Y5 a1 = w at g2 g3 ⊢
  by_cases c1 : bad ≠ 0
  · rw [if_pos c1, if_pos c1]
    by_cases c2 : a3 < bad
    · rw [if_pos c2, if_pos c2]
      by_cases c3 : 2 * a3 + 1 < bad
      · rw [if_pos c3, if_pos c3, show max 3 w = 3 by omega]
        exact F (by omega) (by omega)
      · rw [if_neg c3, if_neg c3]
        by_cases c4 : w ≤ 2
        · rw [if_pos c4, show max 2 w = 2 by omega]
          exact F (by omega) (by omega)
        · rw [if_neg c4, show max 2 w = w by omega]
          exact F g2 g3
    · rw [if_neg c2, if_neg c2]
      by_cases c4 : w ≤ 1
      · rw [if_pos c4, show max 1 w = 1 by omega]
        exact F (by omega) (by omega)
      · rw [if_neg c4, show max 1 w = w by omega]
        exact F g2 g3
  · rw [if_neg c1, if_neg c1]
    by_cases c4 : w ≤ 0
    · rw [if_pos c4, show max 0 w = 0 by omega]
      exact F (by omega) (by omega)
    · rw [if_neg c4, show max 0 w = w by omega]
      exact F g2 g3
