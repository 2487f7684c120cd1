/-! a look -/
def zf_9138 (Z : qz_Z) (b : Int) (k : Int) (fig : Int) (p : Int) (v : Int) : qz_Z := (zlet (zu Z 52 b ((Z 11 b 0 11) % 24) 0 k) (fun Z8 => (zlet (zu Z8 52 b ((Z 11 b 0 11) % 24) 1 (Z8 11 b 0 13)) (fun Z10 => (zlet (zu Z10 52 b ((Z 11 b 0 11) % 24) 2 p) (fun Z11 => (zlet (zu Z11 52 b ((Z 11 b 0 11) % 24) 3 v) (fun Z12 => (zlet (zu Z12 52 b ((Z 11 b 0 11) % 24) 4 fig) (fun Z13 => (zlet (zu Z13 52 b ((Z 11 b 0 11) % 24) 5 (Z13 44 b p 9)) (fun Z15 => (zu Z15 11 b 0 11 ((Z15 11 b 0 11) + 1))))))))))))))
/-- what a finding does -/
def zf_9139 (Z : qz_Z) (b : Int) (k : Int) (p : Int) (v : Int) : qz_Z := (if v ≠ 0 then (if v ≠ 1 then (zu Z 44 b p 9 (zf_100 Z b b p)) else (zu Z 44 b p 9 3)) else (zu (zf_105 Z b p 3).1 51 b k 6 (w3 (((zf_105 Z b p 3).1 51 b k 6) + 1))))
def zf_9137 (Z : qz_Z) (b : Int) (k : Int) (fig : Int) (p : Int) (v : Int) : qz_Z := (zlet (zf_9139 (zf_9138 Z b k fig p v) b k p v) (fun Z8 => (zf_9005 Z8 b 0 7 (Z8 13 b 0 3) p)))
def zf_9136 (Z : qz_Z) (b : Int) (k : Int) (fig : Int) (p : Int) (v : Int) : qz_Z := (zlet (zf_9139 (zf_9138 Z b k fig p v) b k p v) (fun Z8 => (zlet (zu Z8 51 b k 5 (w3 ((Z8 51 b k 5) + 1))) (fun Z9 => (zf_9005 Z9 b 0 7 (Z9 13 b 0 3) p)))))
def zl_9136 (b : Int) (k : Int) (fig : Int) (x4 : Int) : Nat → qz_Z → Int → Int → qz_Z × Int × Int
  | 0, Z, x5, x6 => (Z, x5, x6)
  | m + 1, Z, x5, x6 => (if (Z 11 b 0 3) ≤ x6 then (Z, x5, x6) else (if (Z 44 b x6 12) ≠ x4 then zl_9136 b k fig x4 m Z x5 (x6 + 1) else (if (zf_135 Z b b k b x6) = (-1) then zl_9136 b k fig x4 m Z x5 (x6 + 1) else zl_9136 b k fig x4 m (zf_9136 Z b k fig x6 (zf_135 Z b b k b x6)) (x5 + 1) (x6 + 1))))
theorem wkr6 {Z : qz_Z} {b k v b' i' : Int} : zu Z 51 b k 5 v 51 b' i' 6 = Z 51 b' i' 6 := zu_ne rfl (fun q => absurd q.2.2.2 (by decide))
theorem wkr1 {Z : qz_Z} {b k v b' i' : Int} : zu Z 51 b k 5 v 51 b' i' 1 = Z 51 b' i' 1 := zu_ne rfl (fun q => absurd q.2.2.2 (by decide))
theorem wkc6 {Z : qz_Z} {b k v b' i' w : Int} : zu (zu Z 51 b k 5 v) 51 b' i' 6 w = zu (zu Z 51 b' i' 6 w) 51 b k 5 v := by
  funext kk bb ii jj
  rw [zuq, zuq, zuq, zuq]
  by_cases e : kk = 51 ∧ bb = b' ∧ ii = i' ∧ jj = 6
  · rw [if_pos e, if_neg (fun q => by have := e.2.2.2.symm.trans q.2.2.2; exact absurd this (by decide)), if_pos e]
  · rw [if_neg e]
    split
    · rfl
    · rfl
theorem wkk {Z : qz_Z} {b k v w : Int} : zu (zu Z 51 b k 5 v) 51 b k 5 w = zu Z 51 b k 5 w := by
  funext kk bb ii jj
  rw [zuq, zuq, zuq]
  split
  · rfl
  · rfl
theorem loc9005 {Z : qz_Z} {b k v b' f t c p : Int} : zf_9005 (zu Z 51 b' k 5 v) b f t c p = zu (zf_9005 Z b f t c p) 51 b' k 5 v := by
  unfold zf_9005
  simp only [zlet, wki, wkr11, wkr13, wkr14, wkr41, wkr43, wkr44, wkr45, wkr46, wkr47, wkr48, wkr49, wkr52, wkr53, wkc11, wkc13, wkc14, wkc41, wkc43, wkc44, wkc45, wkc46, wkc47, wkc48, wkc49, wkc52, wkc53]
theorem loc100 {Z : qz_Z} {b k v b' p : Int} : zf_100 (zu Z 51 b' k 5 v) b b p = zf_100 Z b b p := by
  unfold zf_100
  simp only [wkr11, wkr13, wkr14, wkr41, wkr43, wkr44, wkr45, wkr46, wkr47, wkr48, wkr49, wkr52, wkr53, wkc11, wkc13, wkc14, wkc41, wkc43, wkc44, wkc45, wkc46, wkc47, wkc48, wkc49, wkc52, wkc53]
theorem loc135 {Z : qz_Z} {b k v b' p : Int} : zf_135 (zu Z 51 b' k 5 v) b b k b p = zf_135 Z b b k b p := by
  unfold zf_135
  simp only [zlet, loc100, wkr1, wkr11, wkr13, wkr14, wkr41, wkr43, wkr44, wkr45, wkr46, wkr47, wkr48, wkr49, wkr52, wkr53, wkc11, wkc13, wkc14, wkc41, wkc43, wkc44, wkc45, wkc46, wkc47, wkc48, wkc49, wkc52, wkc53]
theorem loc9138 {Z : qz_Z} {b k v b' fig p w : Int} : zf_9138 (zu Z 51 b' k 5 v) b k fig p w = zu (zf_9138 Z b k fig p w) 51 b' k 5 v := by
  unfold zf_9138
  simp only [zlet, wkr11, wkr13, wkr14, wkr41, wkr43, wkr44, wkr45, wkr46, wkr47, wkr48, wkr49, wkr52, wkr53, wkc11, wkc13, wkc14, wkc41, wkc43, wkc44, wkc45, wkc46, wkc47, wkc48, wkc49, wkc52, wkc53]
theorem loc9139 {Z : qz_Z} {b k v b' p w : Int} : zf_9139 (zu Z 51 b' k 5 v) b k p w = zu (zf_9139 Z b k p w) 51 b' k 5 v := by
  unfold zf_9139
  simp only [loc105, loc100, wki, wkr6, wkc6, wkr11, wkr13, wkr14, wkr41, wkr43, wkr44, wkr45, wkr46, wkr47, wkr48, wkr49, wkr52, wkr53, wkc11, wkc13, wkc14, wkc41, wkc43, wkc44, wkc45, wkc46, wkc47, wkc48, wkc49, wkc52, wkc53]
theorem loc9137 {Z : qz_Z} {b k v b' fig p w : Int} : zf_9137 (zu Z 51 b' k 5 v) b k fig p w = zu (zf_9137 Z b k fig p w) 51 b' k 5 v := by
  unfold zf_9137
  simp only [zlet, loc9138, loc9139, loc9005, wkr11, wkr13, wkr14, wkr41, wkr43, wkr44, wkr45, wkr46, wkr47, wkr48, wkr49, wkr52, wkr53, wkc11, wkc13, wkc14, wkc41, wkc43, wkc44, wkc45, wkc46, wkc47, wkc48, wkc49, wkc52, wkc53]
theorem loc9136 {Z : qz_Z} {b k v fig p w : Int} : zf_9136 (zu Z 51 b k 5 v) b k fig p w = zu (zf_9137 Z b k fig p w) 51 b k 5 (w3 (v + 1)) := by
  unfold zf_9136 zf_9137
  simp only [zlet, loc9138, loc9139, loc9005, wkk, wkr11, wkr13, wkr14, wkr41, wkr43, wkr44, wkr45, wkr46, wkr47, wkr48, wkr49, wkr52, wkr53, wkc11, wkc13, wkc14, wkc41, wkc43, wkc44, wkc45, wkc46, wkc47, wkc48, wkc49, wkc52, wkc53]
  rw [zu_at rfl]
theorem zf_9137_5 {Z : qz_Z} {b k fig p w : Int} : zf_9137 Z b k fig p w 51 b k 5 = Z 51 b k 5 := by
  have h := loc9137 (Z := Z) (b := b) (k := k) (v := Z 51 b k 5) (b' := b) (fig := fig) (p := p) (w := w)
  rw [zu_id rfl] at h
  rw [h, zu_at rfl]
theorem zl_136s {b k fig x4 : Int} {m : Nat} {Z : qz_Z} {x5 x6 : Int} : zl_136_1 b k k fig x4 (m + 1) Z x5 x6 = (if (Z 11 b 0 3) ≤ x6 then (Z, x5, x6) else (if (Z 44 b x6 12) ≠ x4 then zl_136_1 b k k fig x4 m Z x5 (x6 + 1) else (if (zf_135 Z b b k b x6) = (-1) then zl_136_1 b k k fig x4 m Z x5 (x6 + 1) else zl_136_1 b k k fig x4 m (zf_9137 Z b k fig x6 (zf_135 Z b b k b x6)) (x5 + 1) (x6 + 1)))) := by
  rw [zl_136_1]
  simp only [zlet, zlet2]
  split
  · rfl
  split
  · rfl
  split
  · rfl
  unfold zf_9137 zf_9139 zf_9138 zf_9005
  simp only [zlet]
  split
  · split
    · split <;> rfl
    · split <;> rfl
  · split <;> rfl
theorem loc136 {b k fig x4 c : Int} : ∀ (m : Nat) (Z : qz_Z) (x5 x6 : Int), Z 51 b k 5 = c → zl_9136 b k fig x4 m (zu Z 51 b k 5 (w3 (c + x5))) x5 x6 = (zu (zl_136_1 b k k fig x4 m Z x5 x6).1 51 b k 5 (w3 (c + (zl_136_1 b k k fig x4 m Z x5 x6).2.1)), (zl_136_1 b k k fig x4 m Z x5 x6).2) ∧ (zl_136_1 b k k fig x4 m Z x5 x6).1 51 b k 5 = c
  | 0, Z, x5, x6, h => ⟨rfl, h⟩
  | m + 1, Z, x5, x6, h => by
    rw [zl_136s]
    unfold zl_9136
    simp only [loc135, loc9136, wkr11, wkr13, wkr14, wkr41, wkr43, wkr44, wkr45, wkr46, wkr47, wkr48, wkr49, wkr52, wkr53, wkc11, wkc13, wkc14, wkc41, wkc43, wkc44, wkc45, wkc46, wkc47, wkc48, wkc49, wkc52, wkc53]
    rw [w3_add, show c + x5 + 1 = c + (x5 + 1) by omega]
    split
    · exact ⟨rfl, h⟩
    split
    · exact loc136 m Z x5 (x6 + 1) h
    split
    · exact loc136 m Z x5 (x6 + 1) h
    · exact loc136 m _ (x5 + 1) (x6 + 1) (zf_9137_5.trans h)
/-- what a look wants and keeps -/
def zLk (b : Int) (Z Y : qz_Z) : Prop := zR b Z Y ∧ zV Y ∧ zD1 b Z Y ∧ zD4 b Z Y ∧ zN4 Y ∧ zN1 Y ∧ zN8 Y ∧ zNL Y ∧ zDl b Z Y ∧ zNr Y ∧ zFn b Z Y
theorem rr_9136 {b k fig p v : Int} {Z Y : qz_Z} (h : zLk b Z Y) (k0 : 0 ≤ k) (k1 : k < 2) (p0 : 0 ≤ p) (p1 : p < 48) (p2 : p < Y 2 0 0 102) (hv : v = 0 ∨ v = 1 ∨ v = 2) : zLk b (zf_9136 Z b k fig p v) (zf_357 Y k p v fig) ∧ zFc [1111, 1112, 1400, 4307, 4404, 4405, 4406, 4409, 4410, 4412, 4503, 4504, 4511, 4606, 4709, 4711, 4712, 4717, 4719, 4805, 4900, 5105, 5106, 5200, 5300, 5301, 5302, 5303, 5304] b Z (zf_9136 Z b k fig p v) ∧ yFr [1112, 1400, 4307, 4404, 4405, 4406, 4409, 4410, 4412, 4503, 4606, 4709, 4717, 4719, 4805, 5105, 5106, 5300, 5301, 5302, 5303, 5304, 10001, 10002, 10015, 10050, 10051, 10052, 10060] Y (zf_357 Y k p v fig) := by
  obtain ⟨hRa, hV, hD1, hD4, hN4, hN1, hN8, hNL, hDl, hNr, hFn⟩ := h
  -- the finding is written down
  have w0 : zW [] [1111, 5200] [] b Z Y (zf_9138 Z b k fig p v) Y := by
    unfold zf_9138
    simp only [zlet]
    exact zW_c (zW_c (zW_c (zW_c (zW_c (zW_c (zW_c (zW_0 (zRx_0 hRa) hV) rfl rfl rfl) rfl rfl rfl) rfl rfl rfl) rfl rfl rfl) rfl rfl rfl) rfl rfl rfl) adn_11_11 rfl rfl
  have n11 : zf_9138 Z b k fig p v 11 b 0 11 = Z 11 b 0 11 + 1 := by
    unfold zf_9138
    simp only [zlet]
    rw [zu_at rfl]
    congr 1
  have n52 : ∀ i j : Int, i ≠ Z 11 b 0 11 % 24 → zf_9138 Z b k fig p v 52 b i j = Z 52 b i j := fun i j n => by
    unfold zf_9138
    simp only [zlet]
    rw [zu_ne rfl (fun q => absurd q.1 (by decide)), zu_ne rfl (fun q => n q.2.2.1), zu_ne rfl (fun q => n q.2.2.1), zu_ne rfl (fun q => n q.2.2.1), zu_ne rfl (fun q => n q.2.2.1), zu_ne rfl (fun q => n q.2.2.1), zu_ne rfl (fun q => n q.2.2.1)]
  have m52 : ∀ j : Int, 0 ≤ j → j < 6 → zf_9138 Z b k fig p v 52 b (Z 11 b 0 11 % 24) j = if j = 0 then k else if j = 1 then Y 2 0 0 0 else if j = 2 then p else if j = 3 then v else if j = 4 then fig else Y 2 0 0 (209 + 20 * p) := fun j j0 j1 => by
    unfold zf_9138
    simp only [zlet]
    have c : j = 0 ∨ j = 1 ∨ j = 2 ∨ j = 3 ∨ j = 4 ∨ j = 5 := by omega
    rcases c with rfl | rfl | rfl | rfl | rfl | rfl
    · simp [zuq]
    · simp [zuq]
      exact zRl_11_13 hRa rfl
    · simp [zuq]
    · simp [zuq]
    · simp [zuq]
    · simp [zuq]
      exact zRl_44_9 hRa p0 p1 rfl
  have eC : zf_9136 Z b k fig p v = zf_9005 (zu (zf_9139 (zf_9138 Z b k fig p v) b k p v) 51 b k 5 (w3 (zf_9139 (zf_9138 Z b k fig p v) b k p v 51 b k 5 + 1))) b 0 7 (zu (zf_9139 (zf_9138 Z b k fig p v) b k p v) 51 b k 5 (w3 (zf_9139 (zf_9138 Z b k fig p v) b k p v 51 b k 5 + 1)) 13 b 0 3) p := rfl
  rw [eC]
  generalize zf_9138 Z b k fig p v = Z7 at w0 n11 n52 m52 ⊢
  have R7 := zRx_1 w0.1
  obtain ⟨f1, f2, f3⟩ := hFn
  have c24 : 0 ≤ Y 2 0 0 3501 ∧ Y 2 0 0 3501 ≤ 24 := by
    rw [f2]
    split <;> omega
  have tail : ∀ {Z8 Y8 : qz_Z} {L K : List Nat}, zR b Z8 Y8 → zV Y8 → zFc L b Z7 Z8 → yFr K Y Y8 → (L.contains 5200 = false ∧ L.contains 1111 = false) → (K.contains 10015 = false ∧ K.contains 10060 = false ∧ K.contains 1113 = false) → ∀ C M : qz_Z, C = zf_9005 (zu Z8 51 b k 5 (w3 (Z8 51 b k 5 + 1))) b 0 7 (zu Z8 51 b k 5 (w3 (Z8 51 b k 5 + 1)) 13 b 0 3) p → M = zf_403 (zf_363 (zu Y8 2 0 0 (3525 + 10 * k) (w3 (Y8 2 0 0 (3525 + 10 * k) + 1))) k p v fig (Y 2 0 0 (209 + 20 * p))) 0 7 (zf_363 (zu Y8 2 0 0 (3525 + 10 * k) (w3 (Y8 2 0 0 (3525 + 10 * k) + 1))) k p v fig (Y 2 0 0 (209 + 20 * p)) 2 0 0 3813) p → zR b C M ∧ zV M ∧ zFc [1112, 1400, 5105, 5300, 5301, 5302, 5303, 5304] b Z8 C ∧ yFr [1112, 1400, 5105, 5300, 5301, 5302, 5303, 5304, 10015, 10060] Y8 M ∧ zFn b C M := by
    intro Z8 Y8 L K r v8 g1 g2 eL eK C M hC hM
    have w1 : zW [] [5105] [5105] b Z8 Y8 _ _ := zW_n (v' := w3 (Z8 51 b k 5 + 1)) (v := w3 (Y8 2 0 0 (3525 + 10 * k) + 1)) (zW_0 (zRx_0 r) v8) (ac_51_5 k0 k1 rfl) (zvn_51_5 k0 k1 rfl) (by rw [zRl_51_5 (x := k) (a := 3525 + 10 * k) r k0 k1 rfl]) rfl rfl rfl
    have y0 : zu Y8 2 0 0 (3525 + 10 * k) (w3 (Y8 2 0 0 (3525 + 10 * k) + 1)) 2 0 0 0 = Y 2 0 0 0 := by rw [zun (by omega), yFr_at 1113 g2.1 eK.2.2 (zcm_s (ac_11_13 rfl))]
    have y1 : zu Y8 2 0 0 (3525 + 10 * k) (w3 (Y8 2 0 0 (3525 + 10 * k) + 1)) 2 0 0 3501 = Y 2 0 0 3501 := by rw [zun (by omega), yFr_at 10015 g2.1 eK.1 (zcm_fmany rfl)]
    have y2 : ∀ a : Int, 3560 ≤ a → a < 3704 → zu Y8 2 0 0 (3525 + 10 * k) (w3 (Y8 2 0 0 (3525 + 10 * k) + 1)) 2 0 0 a = Y 2 0 0 a := fun a h0 h1 => by rw [zun (by omega), yFr_at 10060 g2.1 eK.2.1 (zcm_find h0 h1)]
    generalize zu Z8 51 b k 5 (w3 (Z8 51 b k 5 + 1)) = Z9 at w1 hC
    generalize zu Y8 2 0 0 (3525 + 10 * k) (w3 (Y8 2 0 0 (3525 + 10 * k) + 1)) = Y9 at w1 hM y0 y1 y2
    obtain ⟨q1, q2, q3, q4, q5⟩ := rr_363 (k := k) (p := p) (kind := v) (fig := fig) (g := Y 2 0 0 (209 + 20 * p)) (zRx_1 w1.1) w1.2.1 (by omega) (by omega)
    generalize zf_363 Y9 k p v fig (Y 2 0 0 (209 + 20 * p)) = Y10 at q1 q2 q3 q4 q5 hM
    have e13 : Z9 13 b 0 3 = Y10 2 0 0 3813 := zRl_13_s q1 (by omega) (by omega) (by omega)
    rw [e13] at hC
    obtain ⟨s1, s2, s3, s4⟩ := rr_9005 (f := 0) (t := 7) (c := Y10 2 0 0 3813) (p := p) q1 q2 (by omega) (by omega) (by omega) (by omega)
    rw [← hC, ← hM] at s1
    rw [← hM] at s2 s4
    rw [← hC] at s3
    have fC : zFc [1112, 1400, 5105, 5300, 5301, 5302, 5303, 5304] b Z8 C := zFc_t (zFc_w w1.2.2.1 (by decide)) s3 (by decide)
    have fM : yFr [1112, 1400, 5105, 5300, 5301, 5302, 5303, 5304, 10015, 10060] Y8 M := yFr_t (yFr_t (yFr_w w1.2.2.2 (by decide)) q3 (by decide)) s4 (by decide)
    refine ⟨s1, s2, fC, fM, ?_⟩
    have a11 : C 11 b 0 11 = Z 11 b 0 11 + 1 := by rw [zFc_at 1111 fC.1 rfl rfl rfl, zFc_at 1111 g1.1 eL.2 rfl rfl, n11]
    have a52 : ∀ i j : Int, C 52 b i j = Z7 52 b i j := fun i j => by rw [zFc_at 5200 fC.1 rfl rfl rfl, zFc_at 5200 g1.1 eL.1 rfl rfl]
    have m01 : M 2 0 0 3501 = if Y 2 0 0 3501 = 24 then 24 else Y 2 0 0 3501 + 1 := by rw [yFr_at 10015 s4.1 rfl (zcm_fmany rfl), q4, y1]
    have mw : ∀ a : Int, 3560 ≤ a → a < 3704 → M 2 0 0 a = Y10 2 0 0 a := fun a h0 h1 => yFr_at 10060 s4.1 rfl (zcm_find h0 h1)
    rw [y1] at q5
    unfold zFn
    rw [a11, m01]
    by_cases h24 : Y 2 0 0 3501 = 24
    · have hN : ¬ Z 11 b 0 11 < 24 := fun n => by rw [if_pos n] at f2; omega
      rw [if_pos h24, if_neg (show ¬ Z 11 b 0 11 + 1 < 24 by omega)]
      refine ⟨by omega, rfl, fun i j i0 i1 j0 j1 => ?_⟩
      rw [a52, mw _ (by omega) (by omega)]
      obtain ⟨p1', p2', p3'⟩ := q5 i j i0 j0 j1
      by_cases h : i = 23
      · rw [p3' (by rw [if_pos h24]; exact h), show (Z 11 b 0 11 + 1 - 24 + i) % 24 = Z 11 b 0 11 % 24 by omega, m52 j j0 j1, y0]
      · rw [p1' h24 (by omega), n52 _ j (by omega), y2 _ (by omega) (by omega), ← f3 (i + 1) j (by omega) (by omega) j0 j1, h24]
        congr 1
        omega
    · have hN : Z 11 b 0 11 < 24 := by
        by_cases n : Z 11 b 0 11 < 24
        · exact n
        · rw [if_neg n] at f2
          exact absurd f2 h24
      rw [if_pos hN] at f2
      rw [if_neg h24, f2]
      refine ⟨by omega, by split <;> omega, fun i j i0 i1 j0 j1 => ?_⟩
      rw [a52, mw _ (by omega) (by omega)]
      obtain ⟨p1', p2', p3'⟩ := q5 i j i0 j0 j1
      by_cases h : i = Z 11 b 0 11
      · rw [p3' (by rw [if_neg h24]; omega), show (Z 11 b 0 11 + 1 - (Z 11 b 0 11 + 1) + i) % 24 = Z 11 b 0 11 % 24 by omega, m52 j j0 j1, y0]
      · rw [p2' h24 (by omega), n52 _ j (by omega), y2 _ (by omega) (by omega), ← f3 i j i0 (by omega) j0 j1, f2]
        congr 1
        omega
  have D17 := zD1_f hD1 w0.2.2.1.1 w0.2.2.2.1 ⟨rfl, rfl, rfl⟩
  have D47 := zD4_f hD4 w0.2.2.1.1 w0.2.2.2.1 ⟨⟨rfl, rfl⟩, rfl, rfl, rfl⟩
  have Dl7 := zDl_f hDl w0.2.2.1.1 w0.2.2.2.1 ⟨rfl, rfl, rfl, rfl, rfl⟩
  rcases hv with rfl | hv
  · -- it is seized
    obtain ⟨r1, r2, r3, r4, _, r6, r7, r8, r9, r10, r11, r12⟩ := rr_105 (st := 3) R7 hV D17 D47 hN4 hN1 hN8 hNL Dl7 hNr p0 p1 (by omega) (by omega) p2 (C := zf_105 Z7 b p 3) (M := zf_431 Y p 3) rfl rfl
    have e9 : zf_9139 Z7 b k p 0 = zu (zf_105 Z7 b p 3).1 51 b k 6 (w3 ((zf_105 Z7 b p 3).1 51 b k 6 + 1)) := rfl
    rw [e9]
    have em : zf_357 Y k p 0 fig = zf_403 (zf_363 (zu (zu (zf_431 Y p 3) 2 0 0 (3526 + 10 * k) (w3 (zf_431 Y p 3 2 0 0 (3526 + 10 * k) + 1))) 2 0 0 (3525 + 10 * k) (w3 (zu (zf_431 Y p 3) 2 0 0 (3526 + 10 * k) (w3 (zf_431 Y p 3 2 0 0 (3526 + 10 * k) + 1)) 2 0 0 (3525 + 10 * k) + 1))) k p 0 fig (Y 2 0 0 (209 + 20 * p))) 0 7 (zf_363 (zu (zu (zf_431 Y p 3) 2 0 0 (3526 + 10 * k) (w3 (zf_431 Y p 3 2 0 0 (3526 + 10 * k) + 1))) 2 0 0 (3525 + 10 * k) (w3 (zu (zf_431 Y p 3) 2 0 0 (3526 + 10 * k) (w3 (zf_431 Y p 3 2 0 0 (3526 + 10 * k) + 1)) 2 0 0 (3525 + 10 * k) + 1))) k p 0 fig (Y 2 0 0 (209 + 20 * p)) 2 0 0 3813) p := rfl
    rw [em]
    generalize (zf_105 Z7 b p 3).1 = Zg at r1 r3 r6 r11 ⊢
    generalize zf_431 Y p 3 = Yg at r1 r2 r4 r6 r7 r8 r9 r10 r11 r12 ⊢
    have w1 : zW [] [5106] [5106] b Zg Yg _ _ := zW_n (v' := w3 (Zg 51 b k 6 + 1)) (v := w3 (Yg 2 0 0 (3526 + 10 * k) + 1)) (zW_0 (zRx_0 r1) r2) (ac_51_6 k0 k1 rfl) (zvn_51_6 k0 k1 rfl) (by rw [zRl_51_6 (x := k) (a := 3526 + 10 * k) r1 k0 k1 rfl]) rfl rfl rfl
    generalize zu Zg 51 b k 6 (w3 (Zg 51 b k 6 + 1)) = Z8 at w1 ⊢
    generalize zu Yg 2 0 0 (3526 + 10 * k) (w3 (Yg 2 0 0 (3526 + 10 * k) + 1)) = Y8 at w1 ⊢
    have F8 : zFc [1112, 1400, 4307, 4404, 4405, 4406, 4410, 4412, 4503, 4504, 4511, 4606, 4709, 4711, 4712, 4717, 4719, 4805, 4900, 5106, 5300, 5301, 5302, 5303, 5304] b Z7 Z8 := zFc_t (zFc_w r3 (by decide)) w1.2.2.1 (by decide)
    have G8 : yFr [1112, 1400, 4307, 4404, 4405, 4406, 4410, 4412, 4503, 4606, 4709, 4717, 4719, 4805, 5106, 5300, 5301, 5302, 5303, 5304, 10001, 10002, 10050, 10051, 10052] Y Y8 := yFr_t (yFr_w r4 (by decide)) w1.2.2.2 (by decide)
    obtain ⟨t1, t2, t3, t4, t5⟩ := tail (zRx_1 w1.1) w1.2.1 F8 G8 ⟨rfl, rfl⟩ ⟨rfl, rfl, rfl⟩ _ _ rfl rfl
    have FF := zFc_t (L := [1111, 1112, 1400, 4307, 4404, 4405, 4406, 4409, 4410, 4412, 4503, 4504, 4511, 4606, 4709, 4711, 4712, 4717, 4719, 4805, 4900, 5105, 5106, 5200, 5300, 5301, 5302, 5303, 5304]) (zFc_t (L := [1111, 1112, 1400, 4307, 4404, 4405, 4406, 4409, 4410, 4412, 4503, 4504, 4511, 4606, 4709, 4711, 4712, 4717, 4719, 4805, 4900, 5105, 5106, 5200, 5300, 5301, 5302, 5303, 5304]) (zFc_w w0.2.2.1 (by decide)) F8 (by decide)) t3 (by decide)
    have GG := yFr_t (L := [1112, 1400, 4307, 4404, 4405, 4406, 4409, 4410, 4412, 4503, 4606, 4709, 4717, 4719, 4805, 5105, 5106, 5300, 5301, 5302, 5303, 5304, 10001, 10002, 10015, 10050, 10051, 10052, 10060]) (yFr_w G8 (by decide)) t4 (by decide)
    have F2 := zFc_t (L := [1112, 1400, 5105, 5106, 5300, 5301, 5302, 5303, 5304]) (zFc_w w1.2.2.1 (by decide)) t3 (by decide)
    have G2 := yFr_t (L := [1112, 1400, 5105, 5106, 5300, 5301, 5302, 5303, 5304, 10015, 10060]) (yFr_w w1.2.2.2 (by decide)) t4 (by decide)
    refine ⟨⟨t1, t2, zD1_f hD1 FF.1 GG.1 ⟨rfl, rfl, rfl⟩, zD4_f r6 F2.1 G2.1 ⟨⟨rfl, rfl⟩, rfl, rfl, rfl⟩, zN4_f r7 G2.1 ⟨rfl, rfl, rfl⟩, zN1_f r8 G2.1 ⟨rfl, rfl, rfl, rfl⟩, zN8_f r9 G2.1 ⟨rfl, rfl, rfl⟩, zNL_f r10 r2 G2.1 ⟨rfl, rfl, rfl, rfl, rfl⟩, zDl_f r11 F2.1 G2.1 ⟨rfl, rfl, rfl, rfl, rfl⟩, zNr_f r12 r2 G2.1 ⟨rfl, rfl, rfl⟩, t5⟩, FF, GG⟩
  · -- its grade
    obtain ⟨x, hx0, hx1, e9, em⟩ : ∃ x : Int, -1 ≤ x ∧ x ≤ 3 ∧ zf_9139 Z7 b k p v = zu Z7 44 b p 9 x ∧ zf_357 Y k p v fig = zf_403 (zf_363 (zu (zu Y 2 0 0 (209 + 20 * p) x) 2 0 0 (3525 + 10 * k) (w3 (zu Y 2 0 0 (209 + 20 * p) x 2 0 0 (3525 + 10 * k) + 1))) k p v fig (Y 2 0 0 (209 + 20 * p))) 0 7 (zf_363 (zu (zu Y 2 0 0 (209 + 20 * p) x) 2 0 0 (3525 + 10 * k) (w3 (zu Y 2 0 0 (209 + 20 * p) x 2 0 0 (3525 + 10 * k) + 1))) k p v fig (Y 2 0 0 (209 + 20 * p)) 2 0 0 3813) p := by
      rcases hv with rfl | rfl
      · exact ⟨3, by omega, by omega, rfl, rfl⟩
      · obtain ⟨g1, g2, g3⟩ := rr_100 R7 hV p0 p1
        refine ⟨zf_326 Y p, by omega, g3, ?_, rfl⟩
        show zu Z7 44 b p 9 (zf_100 Z7 b b p) = _
        rw [g1]
    rw [e9, em]
    have w1 : zW [] [4409] [4409] b Z7 Y _ _ := zW_i (v' := x) (v := x) (zW_0 (zRx_0 R7) hV) (ac_44_9 p0 p1 rfl) (zvi_44_9 p0 p1 rfl) ⟨hx0, hx1⟩ rfl rfl rfl rfl
    generalize zu Z7 44 b p 9 x = Z8 at w1 ⊢
    generalize zu Y 2 0 0 (209 + 20 * p) x = Y8 at w1 ⊢
    obtain ⟨t1, t2, t3, t4, t5⟩ := tail (zRx_1 w1.1) w1.2.1 w1.2.2.1 w1.2.2.2 ⟨rfl, rfl⟩ ⟨rfl, rfl, rfl⟩ _ _ rfl rfl
    have FF := zFc_t (L := [1111, 1112, 1400, 4409, 5105, 5200, 5300, 5301, 5302, 5303, 5304]) (zFc_t (L := [1111, 1112, 1400, 4409, 5105, 5200, 5300, 5301, 5302, 5303, 5304]) (zFc_w w0.2.2.1 (by decide)) w1.2.2.1 (by decide)) t3 (by decide)
    have GG := yFr_t (L := [1112, 1400, 4409, 5105, 5300, 5301, 5302, 5303, 5304, 10015, 10060]) (yFr_w w1.2.2.2 (by decide)) t4 (by decide)
    refine ⟨⟨t1, t2, zD1_f hD1 FF.1 GG.1 ⟨rfl, rfl, rfl⟩, zD4_f hD4 FF.1 GG.1 ⟨⟨rfl, rfl⟩, rfl, rfl, rfl⟩, zN4_f hN4 GG.1 ⟨rfl, rfl, rfl⟩, zN1_f hN1 GG.1 ⟨rfl, rfl, rfl, rfl⟩, zN8_f hN8 GG.1 ⟨rfl, rfl, rfl⟩, zNL_f hNL hV GG.1 ⟨rfl, rfl, rfl, rfl, rfl⟩, zDl_f hDl FF.1 GG.1 ⟨rfl, rfl, rfl, rfl, rfl⟩, zNr_f hNr hV GG.1 ⟨rfl, rfl, rfl⟩, t5⟩, zFc_w FF (by decide), yFr_w GG (by decide)⟩
