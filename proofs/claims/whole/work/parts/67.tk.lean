/-! step by step, by hand -/
def zW (X : List (Nat × Int × Int)) (L K : List Nat) (b : Int) (Z Y C M : qz_Z) : Prop := zRx X b C M ∧ zV M ∧ zFc L b Z C ∧ yFr K Y M
section ZW
variable {X : List (Nat × Int × Int)} {L K : List Nat} {b : Int} {Z Y C M : qz_Z}
theorem zW_0 (h : zRx X b Z Y) (hV : zV Y) : zW X L K b Z Y Z Y := ⟨h, hV, zFc_r, yFr_r⟩
theorem zW_i (h : zW X L K b Z Y C M) {k : Nat} {i j a l u v v' : Int} (ea : adr k i j = some a) (ez : zvr a = some (l, u)) (hr : l ≤ v ∧ v ≤ u) (ev : v' = v) (eL : L.contains (zcc k j) = true) (hk : zkeep k = false) (eK : K.contains (zcc k j) = true) : zW X L K b Z Y (zu C k b i j v') (zu M 2 0 0 a v) :=
  ⟨zRx_w h.1 ea rfl rfl ev, zV_i h.2.1 rfl ez hr, zFc_u h.2.2.1 rfl eL hk, yFr_u h.2.2.2 rfl (zcm_s ea) eK⟩
theorem zW_n (h : zW X L K b Z Y C M) {k : Nat} {i j a v v' : Int} (ea : adr k i j = some a) (ez : zvr a = none) (ev : v' = v) (eL : L.contains (zcc k j) = true) (hk : zkeep k = false) (eK : K.contains (zcc k j) = true) : zW X L K b Z Y (zu C k b i j v') (zu M 2 0 0 a v) :=
  ⟨zRx_w h.1 ea rfl rfl ev, zV_n h.2.1 rfl ez, zFc_u h.2.2.1 rfl eL hk, yFr_u h.2.2.2 rfl (zcm_s ea) eK⟩
theorem zW_c (h : zW X L K b Z Y C M) {k : Nat} {i j v : Int} (ea : adr k i j = none) (eL : L.contains (zcc k j) = true) (hk : zkeep k = false) : zW X L K b Z Y (zu C k b i j v) M :=
  ⟨zRx_n h.1 rfl ea, h.2.1, zFc_u h.2.2.1 rfl eL hk, h.2.2.2⟩
theorem zW_m (h : zW X L K b Z Y C M) {a v : Int} {n : Nat} (ea : adi a = none) (ez : zvr a = none) (en : zcm a = n) (eK : K.contains n = true) : zW X L K b Z Y C (zu M 2 0 0 a v) :=
  ⟨zRx_m h.1 rfl ea, zV_n h.2.1 rfl ez, h.2.2.1, yFr_u h.2.2.2 rfl en eK⟩
theorem zW_d {k : Nat} {i j a : Int} (h : zW ((k, i, j) :: X) L K b Z Y C M) (e : adr k i j = some a) (hv : C k b i j = M 2 0 0 a) : zW X L K b Z Y C M := ⟨zRx_d h.1 e hv, h.2⟩
theorem zW_t (h : zW X L K b Z Y C M) {L2 K2 : List Nat} {C2 M2 : qz_Z} (g : zR b C2 M2 ∧ zV M2 ∧ zFc L2 b C C2 ∧ yFr K2 M M2) (e : ∀ x ∈ L2, L.contains x = true) (e2 : ∀ x ∈ K2, K.contains x = true) : zW [] L K b Z Y C2 M2 := ⟨zRx_0 g.1, g.2.1, zFc_t h.2.2.1 g.2.2.1 e, yFr_t h.2.2.2 g.2.2.2 e2⟩
theorem zW_1 (h : zW [] L K b Z Y C M) : zR b C M ∧ zV M ∧ zFc L b Z C ∧ yFr K Y M := ⟨zRx_1 h.1, h.2⟩
end ZW
/-- a reference's cell that isn't the one that was written -/
theorem zun {Y : qz_Z} {a a' v : Int} (h : a' ≠ a) : zu Y 2 0 0 a v 2 0 0 a' = Y 2 0 0 a' := zu_ne rfl (fun q => h q.2.2.2)
theorem zua {Y : qz_Z} {a v : Int} : zu Y 2 0 0 a v 2 0 0 a = v := zu_at rfl
theorem z478_e {Y : qz_Z} {p : Int} : zf_478 Y p = zf_472 Y p (-1) := by
  unfold zf_478 zf_472
  simp only [zlet]
  repeat' split
  all_goals first | rfl | (exfalso; omega)
/-- a pallet with nothing left and nothing that waits is cleared -/
def zf_9092 (Z : qz_Z) (a0b : Int) (a1 : Int) : qz_Z := (if (Z 44 a0b a1 10) ≠ 0 then Z else (if (Z 44 a0b a1 4) ≠ 0 then Z else (zlet (zf_109 Z a0b a1) (fun v7 => (if v7 ≠ 0 then Z else (zlet (zu Z 44 a0b a1 10 2) (fun Z27 => (zlet (zf_175 Z27 a0b a0b a1 (-1)) (fun Z28 => Z28)))))))))
def zf_9050 (Z : qz_Z) (a0b : Int) (a1 : Int) (a2 : Int) : qz_Z × Int := (zlet (zu Z 47 a0b a1 9 1) (fun Z2 => (zlet (zu Z2 47 a0b a1 10 a2) (fun Z3 => (zlet (zu Z3 47 a0b a1 11 (Z3 44 a0b (Z 47 a0b a1 0) 7)) (fun Z5 => (zlet (zu Z5 47 a0b a1 12 (Z5 44 a0b (Z 47 a0b a1 0) 8)) (fun Z7 => (zlet (zu Z7 47 a0b a1 14 (Z7 11 a0b 0 13)) (fun Z9 => (zlet (zu Z9 47 a0b a1 15 (Z9 44 a0b (Z 47 a0b a1 0) 7)) (fun Z12 => (zlet (zu Z12 47 a0b a1 16 (Z12 44 a0b (Z 47 a0b a1 0) 8)) (fun Z15 => (zlet (zf_9092 Z15 a0b (Z15 47 a0b a1 0)) (fun Z28 => (zlet (zf_43 Z28 a0b a2) (fun v29 => (Z28, v29)))))))))))))))))))
theorem zf_50e {Z : qz_Z} {b q t : Int} : zf_50 Z b q t = zf_9050 Z b q t := by
  unfold zf_50 zf_9050 zf_9092
  simp only [zlet]
  repeat' split
  all_goals rfl
theorem rr_9092 {b p : Int} {Z Y : qz_Z} (hRa : zR b Z Y) (hV : zV Y) (hN1 : zN1 Y) (hN8 : zN8 Y) (hNL : zNL Y) (hNr : zNr Y) (e0 : 0 ≤ p) (e1 : p < 48) (e2 : p < Y 2 0 0 102) {C M : qz_Z} (hC : zE C (zf_9092 Z b p)) (hM : zE M (zf_429 Y p)) : zR b C M ∧ zV M ∧ zFc [4307, 4410, 4412] b Z C ∧ yFr [4307, 4410, 4412] Y M ∧ zN1 M ∧ zN8 M ∧ zNL M ∧ zNr M := by
  have hc : C = _ := hC
  have hm : M = _ := hM
  unfold zf_9092 at hc
  unfold zf_429 at hm
  simp only [zlet] at hc hm
  have l1 := zRl_44_10 (x := p) (a := 210 + 20 * p) hRa e0 e1 rfl
  have l2 := zRl_44_4 (x := p) (a := 204 + 20 * p) hRa e0 e1 rfl
  have l3 : zf_109 Z b p = zf_435 Y p := rr_109 hRa hV rfl rfl
  rw [l1, l2, l3] at hc
  have same : C = Z → M = Y → zR b C M ∧ zV M ∧ zFc [4307, 4410, 4412] b Z C ∧ yFr [4307, 4410, 4412] Y M ∧ zN1 M ∧ zN8 M ∧ zNL M ∧ zNr M := by
    rintro rfl rfl
    exact ⟨hRa, hV, zFc_r, yFr_r, hN1, hN8, hNL, hNr⟩
  by_cases h1 : Y 2 0 0 (210 + 20 * p) ≠ 0
  · rw [if_pos h1] at hc hm
    exact same hc hm
  rw [if_neg h1] at hc hm
  by_cases h2 : Y 2 0 0 (204 + 20 * p) ≠ 0
  · rw [if_pos h2] at hc hm
    exact same hc hm
  rw [if_neg h2] at hc hm
  by_cases h3 : zf_435 Y p ≠ 0
  · rw [if_pos h3] at hc hm
    exact same hc hm
  rw [if_neg h3] at hc hm
  have w1 : zW [] [4410] [4410] b Z Y (zu Z 44 b p 10 2) (zu Y 2 0 0 (210 + 20 * p) 2) := zW_i (zW_0 (zRx_0 hRa) hV) (ac_44_10 e0 e1 rfl) (zvi_44_10 e0 e1 rfl) (by omega) rfl rfl rfl rfl
  rw [z478_e] at hm
  have g := rr_175 (zRx_1 w1.1) w1.2.1 e0 e1 (by omega) (by omega) hc hm
  have w2 := zW_1 (zW_t (L := [4307, 4410, 4412]) (K := [4307, 4410, 4412]) ⟨w1.1, w1.2.1, zFc_w w1.2.2.1 (by decide), yFr_w w1.2.2.2 (by decide)⟩ g (by decide) (by decide))
  have mo : ∀ a : Int, a ≠ 211 + 20 * p → a ≠ 210 + 20 * p → (a < 1210 ∨ 1282 ≤ a) → M 2 0 0 a = Y 2 0 0 a := fun a g1 g2 g3 => by rw [hm, z472_o g1 g3, zun g2]
  have m1 : M 2 0 0 (211 + 20 * p) = -1 := by rw [hm, z472_w]
  have m2 : M 2 0 0 (210 + 20 * p) = 2 := by rw [hm, z472_o (by omega) (by omega), zua]
  refine ⟨w2.1, w2.2.1, w2.2.2.1, w2.2.2.2, ?_, ?_, ?_, ?_⟩
  · refine zN1_1 (q := p) hN1 (fun r n r0 r1 => ⟨mo _ (by omega) (by omega) (by omega), mo _ (by omega) (by omega) (by omega), mo _ (by omega) (by omega) (by omega)⟩) (mo _ (by omega) (by omega) (by omega)) ?_
    rw [m1, m2, mo (204 + 20 * p) (by omega) (by omega) (by omega)]
    exact ⟨fun _ => ⟨rfl, by omega⟩, fun x => absurd x (by decide)⟩
  · refine zN8_1 (q := p) hN8 (fun r n r0 r1 => mo _ (by omega) (by omega) (by omega)) (mo _ (by omega) (by omega) (by omega)) (mo _ (by omega) (by omega) (by omega)) ?_
    have v := zVr_11_2 (a := 1200) w2.2.1 rfl
    rw [m1]
    omega
  · exact zNL_1 (q := p) hNL hV e0 e1 (by omega) (by omega) (fun a g => mo a (by omega) (by omega) (by omega))
  · have n8 := hN8 p e0 e1 e2
    have v := zVr_11_2 (a := 1200) hV rfl
    rw [hm]
    exact zNr_d (zNr_f hNr hV w1.2.2.2.1 ⟨rfl, rfl, rfl⟩) (by rw [zun (by omega)]; omega) e0 e1 (by rw [zun (by omega), zun (by omega)]; omega) (by rw [zun (by omega)]; omega)
/-- what goes -/
def zf_9105 (Z : qz_Z) (a0b : Int) (a1 : Int) (a2 : Int) : qz_Z := (zlet (zu Z 44 a0b a1 6 (w3 ((Z 44 a0b a1 6) + (Z 44 a0b a1 4)))) (fun Z6 => (zlet (zu Z6 44 a0b a1 4 0) (fun Z7 => (zlet (zu Z7 44 a0b a1 5 0) (fun Z8 => (zlet (zu Z8 44 a0b a1 10 a2) (fun Z9 => (zf_175 Z9 a0b a0b a1 (-1))))))))))
def zf_9431 (Z : qz_Z) (a1 : Int) (a2 : Int) : qz_Z := (zlet (zu Z 2 0 0 (206 + 20 * a1) (w3 ((Z 2 0 0 (206 + 20 * a1)) + (Z 2 0 0 (204 + 20 * a1))))) (fun Z8 => (zlet (zu Z8 2 0 0 (204 + 20 * a1) 0) (fun Z9 => (zlet (zu Z9 2 0 0 (205 + 20 * a1) 0) (fun Z10 => (zlet (zu Z10 2 0 0 (210 + 20 * a1) a2) (fun Z11 => (zf_478 Z11 a1)))))))))
theorem rr_9105 {b p st : Int} {Z Y : qz_Z} (hR : zRx [(44, p, 10)] b Z Y) (hV : zV Y) (e0 : 0 ≤ p) (e1 : p < 48) (s0 : 0 ≤ st) (s1 : st ≤ 4) : zR b (zf_9105 Z b p st) (zf_9431 Y p st) ∧ zV (zf_9431 Y p st) ∧ zFc [4307, 4404, 4405, 4406, 4410, 4412] b Z (zf_9105 Z b p st) ∧ yFr [4307, 4404, 4405, 4406, 4410, 4412] Y (zf_9431 Y p st) := by
  unfold zf_9105 zf_9431
  simp only [zlet]
  have l6 : Z 44 b p 6 = Y 2 0 0 (206 + 20 * p) := hR 44 p 6 _ (ac_44_6 e0 e1 rfl) (by simp)
  have l4 : Z 44 b p 4 = Y 2 0 0 (204 + 20 * p) := hR 44 p 4 _ (ac_44_4 e0 e1 rfl) (by simp)
  have w1 : zW [(44, p, 10)] [4307, 4404, 4405, 4406, 4410, 4412] [4307, 4404, 4405, 4406, 4410, 4412] b Z Y _ _ := zW_n (v' := w3 (Z 44 b p 6 + Z 44 b p 4)) (zW_0 hR hV) (ac_44_6 e0 e1 rfl) (zvn_44_6 e0 e1 rfl) (show _ = w3 (Y 2 0 0 (206 + 20 * p) + Y 2 0 0 (204 + 20 * p)) by rw [l6, l4]) rfl rfl rfl
  have w2 := zW_n (v := 0) (v' := 0) w1 (ac_44_4 e0 e1 rfl) (zvn_44_4 e0 e1 rfl) rfl rfl rfl rfl
  have w3_ := zW_n (v := 0) (v' := 0) w2 (ac_44_5 e0 e1 rfl) (zvn_44_5 e0 e1 rfl) rfl rfl rfl rfl
  have w4 := zW_i (v := st) (v' := st) w3_ (ac_44_10 e0 e1 rfl) (zvi_44_10 e0 e1 rfl) (by omega) rfl rfl rfl rfl
  have w5 := zW_d w4 (ac_44_10 e0 e1 rfl) (by rw [zu_at rfl, zua])
  rw [z478_e]
  have g := rr_175 (zRx_1 w5.1) w5.2.1 e0 e1 (w := -1) (by omega) (by omega) rfl rfl
  exact zW_1 (zW_t w5 g (by decide) (by decide))
theorem z9431_o {Y : qz_Z} {p st a : Int} (h : ¬ (204 + 20 * p ≤ a ∧ a ≤ 206 + 20 * p) ∧ a ≠ 210 + 20 * p ∧ a ≠ 211 + 20 * p) (g : a < 1210 ∨ 1282 ≤ a) : zf_9431 Y p st 2 0 0 a = Y 2 0 0 a := by
  unfold zf_9431
  simp only [zlet]
  rw [z478_e, z472_o h.2.2 g, zun h.2.1, zun (by omega), zun (by omega), zun (by omega)]
theorem z9431_v {Y : qz_Z} {p st : Int} (e0 : 0 ≤ p) (e1 : p < 48) : zf_9431 Y p st 2 0 0 (210 + 20 * p) = st ∧ zf_9431 Y p st 2 0 0 (211 + 20 * p) = -1 ∧ zf_9431 Y p st 2 0 0 (204 + 20 * p) = 0 := by
  unfold zf_9431
  simp only [zlet]
  rw [z478_e, z472_w, z472_o (by omega) (by omega), z472_o (by omega) (by omega), zua, zun (by omega), zun (by omega), zua]
  exact ⟨rfl, rfl, rfl⟩
/-- a pallet is seized or dumped -/
theorem rr_105 {b p st : Int} {Z Y : qz_Z} (hRa : zR b Z Y) (hV : zV Y) (hD1 : zD1 b Z Y) (hD4 : zD4 b Z Y) (hN4 : zN4 Y) (hN1 : zN1 Y) (hN8 : zN8 Y) (hNL : zNL Y) (hDl : zDl b Z Y) (hNr : zNr Y) (e0 : 0 ≤ p) (e1 : p < 48) (s0 : 2 ≤ st) (s1 : st ≤ 4) (e2 : p < Y 2 0 0 102) {C : qz_Z × Int} {M : qz_Z} (hC : zE C (zf_105 Z b p st)) (hM : zE M (zf_431 Y p st)) : zR b C.1 M ∧ zV M ∧ zFc [1112, 1400, 4307, 4404, 4405, 4406, 4410, 4412, 4503, 4504, 4511, 4606, 4709, 4711, 4712, 4717, 4719, 4805, 4900, 5300, 5301, 5302, 5303, 5304] b Z C.1 ∧ yFr [1112, 1400, 4307, 4404, 4405, 4406, 4410, 4412, 4503, 4606, 4709, 4717, 4719, 4805, 5300, 5301, 5302, 5303, 5304, 10001, 10002, 10050, 10051, 10052] Y M ∧ C.2 = Y 2 0 0 (204 + 20 * p) ∧ zD4 b C.1 M ∧ zN4 M ∧ zN1 M ∧ zN8 M ∧ zNL M ∧ zDl b C.1 M ∧ zNr M := by
  have hc : C = _ := hC
  have hm : M = _ := hM
  unfold zf_105 at hc
  unfold zf_431 at hm
  have l1 := zRl_44_10 (x := p) (a := 210 + 20 * p) hRa e0 e1 rfl
  have l4 := zRl_44_4 (x := p) (a := 204 + 20 * p) hRa e0 e1 rfl
  -- what comes last, for what comes in
  have last : ∀ {Z1 Y1 : qz_Z} {L K : List Nat} {v : Int}, zRx [(44, p, 10)] b Z1 Y1 → zV Y1 → zFc L b Z Z1 → yFr K Y Y1 → (∀ x ∈ L, [4410, 4805, 4900].contains x = true) → (∀ x ∈ K, [4805, 10050, 10051, 10052].contains x = true) → zDl b Z1 Y1 → zNL (zf_9431 Y1 p st) → v = Y 2 0 0 (204 + 20 * p) → C = zlet2 (zl_105_1 b p p v 61 (zf_9105 Z1 b p st) 0) (fun Z12 y11 => (Z12, v)) → M = zlet2 (zl_431_1 p 61 (zf_9431 Y1 p st) 0) (fun Z25 y24 => Z25) → zR b C.1 M ∧ zV M ∧ zFc [1112, 1400, 4307, 4404, 4405, 4406, 4410, 4412, 4503, 4504, 4511, 4606, 4709, 4711, 4712, 4717, 4719, 4805, 4900, 5300, 5301, 5302, 5303, 5304] b Z C.1 ∧ yFr [1112, 1400, 4307, 4404, 4405, 4406, 4410, 4412, 4503, 4606, 4709, 4717, 4719, 4805, 5300, 5301, 5302, 5303, 5304, 10001, 10002, 10050, 10051, 10052] Y M ∧ C.2 = Y 2 0 0 (204 + 20 * p) ∧ zD4 b C.1 M ∧ zN4 M ∧ zN1 M ∧ zN8 M ∧ zNL M ∧ zDl b C.1 M ∧ zNr M := by
    intro Z1 Y1 L K v r1 r2 f1 f2 hL hK d1 n1 ev ec em
    obtain ⟨g1, g2, g3, g4⟩ := rr_9105 r1 r2 e0 e1 (st := st) (by omega) s1
    obtain ⟨v1, v2, v3⟩ := z9431_v (Y := Y1) (st := st) e0 e1
    have F1 : zFc [4307, 4404, 4405, 4406, 4410, 4412, 4805, 4900] b Z (zf_9105 Z1 b p st) := zFc_t (zFc_w f1 (fun x hx => by have := hL x hx; revert this; simp; omega)) g3 (by decide)
    have F2 : yFr [4307, 4404, 4405, 4406, 4410, 4412, 4805, 10050, 10051, 10052] Y (zf_9431 Y1 p st) := yFr_t (yFr_w f2 (fun x hx => by have := hK x hx; revert this; simp; omega)) g4 (by decide)
    have D1 : zD1 b (zf_9105 Z1 b p st) (zf_9431 Y1 p st) := zD1_f hD1 F1.1 F2.1 ⟨rfl, rfl, rfl⟩
    have D4 : zD4 b (zf_9105 Z1 b p st) (zf_9431 Y1 p st) := zD4_f hD4 F1.1 F2.1 ⟨⟨rfl, rfl⟩, rfl, rfl, rfl⟩
    have N4 : zN4 (zf_9431 Y1 p st) := zN4_f hN4 F2.1 ⟨rfl, rfl, rfl⟩
    have Dl : zDl b (zf_9105 Z1 b p st) (zf_9431 Y1 p st) := zDl_f d1 g3.1 g4.1 ⟨rfl, rfl, rfl, rfl, rfl⟩
    have N8a : zN8 Y1 := zN8_f hN8 (yFr_w (L := [4805, 10050, 10051, 10052]) f2 hK).1 ⟨rfl, rfl, rfl⟩
    have N1a : zN1 Y1 := zN1_f hN1 (yFr_w (L := [4805, 10050, 10051, 10052]) f2 hK).1 ⟨rfl, rfl, rfl, rfl⟩
    have N1 : zN1 (zf_9431 Y1 p st) := by
      refine zN1_1 (q := p) N1a (fun r n r0 r1 => ⟨z9431_o (by omega) (by omega), z9431_o (by omega) (by omega), z9431_o (by omega) (by omega)⟩) (z9431_o (by omega) (by omega)) ?_
      rw [v1, v2, v3]
      exact ⟨fun _ => ⟨rfl, rfl⟩, fun x => by omega⟩
    have N8 : zN8 (zf_9431 Y1 p st) := by
      refine zN8_1 (q := p) N8a (fun r n r0 r1 => z9431_o (by omega) (by omega)) (z9431_o (by omega) (by omega)) (z9431_o (by omega) (by omega)) ?_
      have v := zVr_11_2 (a := 1200) g2 rfl
      rw [v2]
      omega
    have Nr : zNr (zf_9431 Y1 p st) := by
      have nra : zNr Y1 := zNr_f hNr hV (yFr_w (L := [4805, 10050, 10051, 10052]) f2 hK).1 ⟨rfl, rfl, rfl⟩
      have ct : Y1 2 0 0 102 = Y 2 0 0 102 := yFr_at 1103 (yFr_w (L := [4805, 10050, 10051, 10052]) f2 hK).1 rfl (zcm_s (ac_11_3 rfl))
      have n8 := N8a p e0 e1 (by omega)
      have v := zVr_11_2 (a := 1200) r2 rfl
      have nrb : ∀ v1 : Int, zNr (zu (zu (zu (zu Y1 2 0 0 (206 + 20 * p) v1) 2 0 0 (204 + 20 * p) 0) 2 0 0 (205 + 20 * p) 0) 2 0 0 (210 + 20 * p) st) := fun v1 => by
        unfold zNr at nra ⊢
        rw [zun (by omega), zun (by omega), zun (by omega), zun (by omega)]
        refine ⟨fun a h0 h1 => ?_, fun r h0 h1 => ?_⟩
        · rw [zun (by omega), zun (by omega), zun (by omega), zun (by omega)]
          exact nra.1 a h0 h1
        · rw [zun (by omega), zun (by omega), zun (by omega), zun (by omega)]
          exact nra.2 r h0 h1
      unfold zf_9431
      simp only [zlet]
      rw [z478_e]
      exact zNr_d (nrb _) (by rw [zun (by omega), zun (by omega), zun (by omega), zun (by omega)]; omega) e0 e1 (by rw [zun (by omega), zun (by omega), zun (by omega), zun (by omega), zun (by omega), zun (by omega), zun (by omega), zun (by omega)]; omega) (by rw [zun (by omega), zun (by omega), zun (by omega), zun (by omega)]; omega)
    obtain ⟨C9, hC9⟩ : ∃ C9, C9 = zl_105_1 b p p v 61 (zf_9105 Z1 b p st) 0 := ⟨_, rfl⟩
    obtain ⟨M9, hM9⟩ : ∃ M9, M9 = zl_431_1 p 61 (zf_9431 Y1 p st) 0 := ⟨_, rfl⟩
    rw [← hC9] at ec
    rw [← hM9] at em
    have g := rl_105_1 61 61 g1 g2 D1 D4 N4 (show zGp p (zf_9431 Y1 p st) from by unfold zGp; rw [v1]; exact s0) rfl rfl rfl (by omega) (by omega) e0 (by omega) (by decide) (by decide) hC9 hM9
    obtain ⟨k1, k2, k3, k4, k5, k6, k7⟩ := g
    have c1 : C.1 = C9.1 := by rw [ec]; rfl
    have m1 : M = M9.1 := by rw [em]; rfl
    rw [c1, m1]
    refine ⟨k1, k2, zFc_t (zFc_w F1 (by decide)) k3 (by decide), yFr_t (yFr_w F2 (by decide)) k4 (by decide), ?_, k6, k7, zN1_f N1 k4.1 ⟨rfl, rfl, rfl, rfl⟩, zN8_f N8 k4.1 ⟨rfl, rfl, rfl⟩, zNL_f n1 g2 k4.1 ⟨rfl, rfl, rfl, rfl, rfl⟩, zDl_f Dl k3.1 k4.1 ⟨rfl, rfl, rfl, rfl, rfl⟩, zNr_f Nr g2 k4.1 ⟨rfl, rfl, rfl⟩⟩
    rw [ec]
    exact ev
  have hx : zRx [(44, p, 10)] b Z Y := fun k i j a e _ => hRa k i j a e
  by_cases h1 : Y 2 0 0 (210 + 20 * p) ≠ 1
  · rw [l1, if_pos h1] at hc
    rw [if_pos h1] at hm
    refine last (L := []) (K := []) hx hV zFc_r yFr_r (by decide) (by decide) hDl ?_ l4 hc hm
    obtain ⟨v1, v2, v3⟩ := z9431_v (Y := Y) (st := st) e0 e1
    exact zNL_1 (q := p) hNL hV e0 e1 h1 (by rw [v1]; omega) (fun a g => z9431_o (by omega) (by omega))
  · rw [l1, if_neg h1] at hc
    rw [if_neg h1] at hm
    obtain ⟨c, t, hAt⟩ := hNL.2.2 p e0 e1 (by omega)
    obtain ⟨a1, a2, a3⟩ := zAt_m hV hNL.1 hAt
    simp only [zlet] at hm
    rw [a3, if_neg (by have := hAt.1; omega), a1] at hm
    obtain ⟨l1, l2, l3, l4', l5, l6, l7⟩ := rr_76 (b := b) (q := p) hRa hV hDl hNL.1 hAt e0 e1
    have f1 : zFc [4410, 4805, 4900] b Z (zf_76 Z b p).1 := by
      rw [l1]
      exact zFc_u (zFc_w l6 (by decide)) rfl rfl rfl
    have r1 : zRx [(44, p, 10)] b (zf_76 Z b p).1 (zf_312 Y c t) := by
      rw [l1]
      exact zRx_z (zRx_0 l3) rfl
    have d1 : zDl b (zf_76 Z b p).1 (zf_312 Y c t) := by
      rw [l1]
      exact zDl_f l5 (zFc_u (zFc_r : zFc [4410] b (zf_69 Z b c t) (zf_69 Z b c t)) rfl rfl rfl).1 (yFr_r : yFr [] (zf_312 Y c t) (zf_312 Y c t)).1 ⟨rfl, rfl, rfl, rfl, rfl⟩
    obtain ⟨v1, v2, v3⟩ := z9431_v (Y := zf_312 Y c t) (st := st) e0 e1
    have l44 : (zf_76 Z b p).1 44 b p 4 = Y 2 0 0 (204 + 20 * p) := by
      rw [f1.1 44 p 4 rfl rfl, l4]
    refine last r1 l4' f1 l7 (by decide) (by decide) d1 ?_ l44 hc hm
    have n1 := zNL_go (M := zu (zu (zu (zu (zf_312 Y c t) 2 0 0 (206 + 20 * p) (w3 (zf_312 Y c t 2 0 0 (206 + 20 * p) + zf_312 Y c t 2 0 0 (204 + 20 * p)))) 2 0 0 (204 + 20 * p) 0) 2 0 0 (205 + 20 * p) 0) 2 0 0 (210 + 20 * p) st) hNL hV hAt (fun a g => by rw [zun (by omega), zun (by omega), zun (by omega), zun (by omega)]) (by rw [zua]; omega) e0 e1
    have n2 := zV_i (v := st) (zV_n (v := 0) (zV_n (v := 0) (zV_n (v := w3 (zf_312 Y c t 2 0 0 (206 + 20 * p) + zf_312 Y c t 2 0 0 (204 + 20 * p))) l4' rfl (zvn_44_6 e0 e1 rfl)) rfl (zvn_44_4 e0 e1 rfl)) rfl (zvn_44_5 e0 e1 rfl)) rfl (zvi_44_10 e0 e1 rfl) (by omega)
    unfold zf_9431
    simp only [zlet]
    rw [z478_e]
    exact zNL_1 (q := p) n1 n2 e0 e1 (by rw [zua]; omega) (by rw [z472_o (by omega) (by omega), zua]; omega) (fun a g => z472_o (by omega) (by omega))
def zx_9215 (Z : qz_Z) (a1 : Int) (a2 : Int) : qz_Z × Int × Int := (if a1 < 0 then (Z, 0, 24) else (if (Z 11 0 0 6) ≤ a1 then (Z, 0, 24) else (if a2 < 0 then (Z, 0, 24) else (if (Z 11 0 0 8) ≤ a2 then (Z, 0, 24) else (zlet (zf_9049 Z 0 a1 a2) (fun v15 => (if v15 = 0 then (Z, 0, 15) else (zlet (zdd Z 20 a1 a2 0 0 0 0) (fun Z22 => (zlet2 (zf_9050 Z22 0 a1 a2) (fun Z23 v24 => (Z23, v24, 0))))))))))))
theorem zx_215e {Z : qz_Z} {a1 a2 : Int} : zx_215 Z a1 a2 = zx_9215 Z a1 a2 := by
  unfold zx_215 zx_9215 zf_9049 zf_9173
  simp only [zf_50e]
  simp only [zlet, zlet2]
  by_cases h1 : a1 < 0
  · rw [if_pos h1, if_pos h1]
  rw [if_neg h1, if_neg h1]
  by_cases h2 : Z 11 0 0 6 ≤ a1
  · rw [if_pos h2, if_pos h2]
  rw [if_neg h2, if_neg h2]
  by_cases h3 : a2 < 0
  · rw [if_pos h3, if_pos h3]
  rw [if_neg h3, if_neg h3]
  by_cases h4 : a2 < Z 11 0 0 8
  · rw [if_pos h4, if_neg (show ¬ Z 11 0 0 8 ≤ a2 by omega)]
    generalize (zdd Z 20 a1 a2 0 0 0 0) = Zd
    by_cases s9 : Z 47 0 a1 9 ≠ 0
    · simp only [if_pos s9, if_true]
    simp only [if_neg s9]
    have core : ∀ (A B : qz_Z × Int × Int), (if Z 50 0 a2 2 ≠ 0 then A else if Z 50 0 a2 0 < w3 (zf_43 Z 0 a2 + Z 47 0 a1 3) then A else if 0 < zf_53 Z 0 a2 then B else if Z 11 0 0 14 ≤ zf_40 Z 0 then A else B) = (if (if Z 50 0 a2 2 ≠ 0 then (0 : Int) else if Z 50 0 a2 0 < w3 (zf_43 Z 0 a2 + Z 47 0 a1 3) then 0 else if zf_53 Z 0 a2 ≤ 0 then (if Z 11 0 0 14 ≤ zf_40 Z 0 then 0 else 1) else 1) = 0 then A else B) := by
      intro A B
      by_cases o : Z 50 0 a2 2 ≠ 0
      · simp only [if_pos o, if_true]
      simp only [if_neg o]
      by_cases sp : Z 50 0 a2 0 < w3 (zf_43 Z 0 a2 + Z 47 0 a1 3)
      · simp only [if_pos sp, if_true]
      simp only [if_neg sp]
      by_cases f : 0 < zf_53 Z 0 a2
      · rw [if_pos f, if_neg (show ¬ zf_53 Z 0 a2 ≤ 0 by omega)]
        rfl
      rw [if_neg f, if_pos (show zf_53 Z 0 a2 ≤ 0 by omega)]
      by_cases d : Z 11 0 0 14 ≤ zf_40 Z 0
      · simp only [if_pos d, if_true]
      · simp only [if_neg d]
        rfl
    by_cases w0 : Z 44 0 (Z 47 0 a1 0) 12 < 0
    · simp only [if_pos w0, ne_eq, not_true_eq_false, if_false]
      exact core _ _
    simp only [if_neg w0]
    by_cases w1 : Z 11 0 0 2 ≤ Z 44 0 (Z 47 0 a1 0) 12
    · simp only [if_pos w1, ne_eq, not_true_eq_false, if_false]
      exact core _ _
    simp only [if_neg w1]
    by_cases w2 : Z 43 0 (Z 44 0 (Z 47 0 a1 0) 12) 10 ≤ Z 11 0 0 13
    · simp only [if_pos w2, ne_eq, not_true_eq_false, if_false]
      exact core _ _
    · simp only [if_neg w2]
      rfl
  · rw [if_neg h4, if_pos (show Z 11 0 0 8 ≤ a2 by omega)]
def zf_9338 (Z : qz_Z) (a1 : Int) (a2 : Int) : qz_Z × Int := (zf_431 Z a1 a2, (Z 2 0 0 (204 + 20 * a1)))
def zy_9338 (Z : qz_Z) (dm : qz_Z → Int → Int → Int → Int → Int → Int → Int → qz_Z) (a1 : Int) : qz_Z × Int := (if a1 < 0 then (zlet (zu Z 1 0 0 2 1) (fun Z5 => (Z5, 0))) else (if ((Z 2 0 0 102) - 1) < a1 then (zlet (zu Z 1 0 0 2 1) (fun Z8 => (Z8, 0))) else (zlet (zu Z 1 0 0 2 0) (fun Z9 => (if 1 < (Z9 2 0 0 (210 + 20 * a1)) then (zlet (zu Z9 1 0 0 2 2) (fun Z15 => (Z15, 0))) else (zlet (zu Z9 1 0 0 2 0) (fun Z16 => (zlet (dm Z16 10 a1 0 0 0 0 0) (fun Z23 => (zlet2 (zf_9338 Z23 a1 4) (fun Z24 v25 => (Z24, v25))))))))))))
theorem zy_338e {Z : qz_Z} {dm : qz_Z → Int → Int → Int → Int → Int → Int → Int → qz_Z} {a1 : Int} : zy_338 Z dm a1 = zy_9338 Z dm a1 := rfl
theorem rr_105f {b p st : Int} {Z Y : qz_Z} (hRa : zR b Z Y) (hV : zV Y) (hD1 : zD1 b Z Y) (hD4 : zD4 b Z Y) (hN4 : zN4 Y) (hN1 : zN1 Y) (hN8 : zN8 Y) (hNL : zNL Y) (hDl : zDl b Z Y) (hNr : zNr Y) (e0 : 0 ≤ p) (e1 : p < 48) (s0 : 2 ≤ st) (s1 : st ≤ 4) (e2 : p < Y 2 0 0 102) {C : qz_Z × Int} {M : qz_Z × Int} (hC : zE C (zf_105 Z b p st)) (hM : zE M (zf_9338 Y p st)) : zR b C.1 M.1 ∧ zV M.1 ∧ zFc [1112, 1400, 4307, 4404, 4405, 4406, 4410, 4412, 4503, 4504, 4511, 4606, 4709, 4711, 4712, 4717, 4719, 4805, 4900, 5300, 5301, 5302, 5303, 5304] b Z C.1 ∧ yFr [1112, 1400, 4307, 4404, 4405, 4406, 4410, 4412, 4503, 4606, 4709, 4717, 4719, 4805, 5300, 5301, 5302, 5303, 5304, 10001, 10002, 10050, 10051, 10052] Y M.1 ∧ C.2 = M.2 ∧ zD4 b C.1 M.1 ∧ zN4 M.1 ∧ zN1 M.1 ∧ zN8 M.1 ∧ zNL M.1 ∧ zDl b C.1 M.1 ∧ zNr M.1 := by
  have hm : M = _ := hM
  subst hm
  exact rr_105 hRa hV hD1 hD4 hN4 hN1 hN8 hNL hDl hNr e0 e1 s0 s1 e2 hC rfl
