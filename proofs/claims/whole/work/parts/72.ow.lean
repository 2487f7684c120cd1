/-! what the class adds up is what the reference finds -/
theorem rr_107 {b g w : Int} {Z Y : qz_Z} (hRa : zR b Z Y) (hV : zV Y) (e0 : 0 ≤ g) (e1 : g < 6) (e2 : 0 ≤ w) (e3 : w ≤ 8) {C M : Int} (hC : zE C (zf_107 Z b g w)) (hM : zE M (zf_324 Y g w)) : C = M := by
  have hc : C = _ := hC
  have hm : M = _ := hM
  rw [hc, hm]
  unfold zf_107 zf_324
  by_cases c : 1 < w
  · rw [if_pos c, if_pos (by omega)]
    exact (rl_107_1 49 49 (cx4 := 0) (mx4 := 0) (cx3 := 0) (mx3 := 0) hRa hV rfl rfl rfl rfl (by omega) (by omega) e2 e3 (by omega) (by omega) rfl rfl).1
  · rw [if_neg c, if_neg (by omega)]
    have d : w = 0 ∨ w = 1 := by omega
    rcases d with rfl | rfl
    · exact zRl_42_0 hRa e0 e1 (by omega)
    · exact zRl_42_1 hRa e0 e1 (by omega)
theorem rl_35b {b i : Int} : ∀ (m n : Nat) {Z Y : qz_Z} {x4 x5 : Int}, zR b Z Y → zV Y → 0 ≤ x5 → x5 ≤ 60 → 0 ≤ x4 → x4 ≤ x5 → 60 - x5 < (m : Int) → 60 - x5 < (n : Int) → (zl_35_1 b i 8 m Z x4 x5).1 = (zl_278_1 i n Y x4 x5).1
  | 0, _, _, _, _, _, _, _, _, _, _, _, _, _ => by omega
  | m + 1, 0, _, _, _, _, _, _, _, _, _, _, _, _ => by omega
  | m + 1, n + 1, Z, Y, x4, x5, hRa, hV, h0, h1, h2, h3, h4, h5 => by
    unfold zl_35_1 zl_278_1
    have v := zVr_11_6 (a := 2000) hV rfl
    rw [zRl_11_6 (a := 2000) hRa rfl]
    by_cases c : Y 2 0 0 2000 ≤ x5
    · rw [if_pos c, if_pos c]
    rw [if_neg c, if_neg c, zRl_47_1 (x := x5) (a := 2011 + 16 * x5) hRa h0 (by omega) rfl, zRl_47_19 (x := x5) (a := 1810 + 2 * x5) hRa h0 (by omega) rfl]
    by_cases d : Y 2 0 0 (2011 + 16 * x5) ≠ i
    · rw [if_pos d, if_pos d, Int.add_zero]
      exact rl_35b m n hRa hV (by omega) (by omega) h2 (by omega) (by omega) (by omega)
    rw [if_neg d, if_neg d, if_neg (show ¬ (8 : Int) ≠ 8 by omega)]
    by_cases e : Y 2 0 0 (1810 + 2 * x5) ≤ 0
    · rw [if_pos e, if_pos e, Int.add_zero]
      exact rl_35b m n hRa hV (by omega) (by omega) h2 (by omega) (by omega) (by omega)
    · rw [if_neg e, if_neg e, w3_id (by omega) (by omega)]
      exact rl_35b m n hRa hV (by omega) (by omega) (by omega) (by omega) (by omega) (by omega)
theorem zl289 {Y : qz_Z} {i : Int} : ∀ (m : Nat) (x2 x3 : Int), 0 ≤ x3 → x3 ≤ Y 2 0 0 2000 → Y 2 0 0 2000 - x3 < (m : Int) → (zl_289_1 i m Y (w3 x2) x3).1 = w3 (x2 + (zSi (fun q => if Y 2 0 0 (2011 + 16 * q) = i then Y 2 0 0 (1810 + 2 * q) else 0) (Y 2 0 0 2000) - zSi (fun q => if Y 2 0 0 (2011 + 16 * q) = i then Y 2 0 0 (1810 + 2 * q) else 0) x3))
  | 0, x2, x3, h0, h1, h2 => by omega
  | m + 1, x2, x3, h0, h1, h2 => by
    unfold zl_289_1
    by_cases c : Y 2 0 0 2000 ≤ x3
    · rw [if_pos c, show x3 = Y 2 0 0 2000 by omega]
      simp
    rw [if_neg c]
    have s := zSi_s (f := fun q => if Y 2 0 0 (2011 + 16 * q) = i then Y 2 0 0 (1810 + 2 * q) else 0) h0
    by_cases d : Y 2 0 0 (2011 + 16 * x3) ≠ i
    · rw [if_pos d, Int.add_zero, zl289 m x2 (x3 + 1) (by omega) (by omega) (by omega), s]
      simp only [if_neg d, Int.add_zero]
    · rw [if_neg d, w3_add, zl289 m _ (x3 + 1) (by omega) (by omega) (by omega), s]
      simp only [if_pos (Classical.not_not.mp d)]
      congr 1
      omega
theorem z289 {Y : qz_Z} {i : Int} (h0 : 0 ≤ Y 2 0 0 2000) (h1 : Y 2 0 0 2000 ≤ 60) : zf_289 Y i = w3 (zSi (fun q => if Y 2 0 0 (2011 + 16 * q) = i then Y 2 0 0 (1810 + 2 * q) else 0) (Y 2 0 0 2000)) := by
  have h := zl289 (Y := Y) (i := i) 61 0 0 (by omega) h0 (by omega)
  rw [zSi_0, Int.zero_add, Int.sub_zero, show w3 0 = 0 from rfl] at h
  exact h
theorem zl267 {Y : qz_Z} {a w t : Int} : ∀ (m : Nat) (x2 x3 : Int), 0 ≤ x3 → x3 ≤ Y 2 0 0 2000 → Y 2 0 0 2000 - x3 < (m : Int) → (zl_267_1 a w t m Y (w3 x2) x3).1 = w3 (x2 + (zSi (fun q => if Y 2 0 0 (2010 + 16 * q + a) = w then (if t = -1 then Y 2 0 0 (2013 + 16 * q) else if Y 2 0 0 (2019 + 16 * q) = t then Y 2 0 0 (2013 + 16 * q) else 0) else 0) (Y 2 0 0 2000) - zSi (fun q => if Y 2 0 0 (2010 + 16 * q + a) = w then (if t = -1 then Y 2 0 0 (2013 + 16 * q) else if Y 2 0 0 (2019 + 16 * q) = t then Y 2 0 0 (2013 + 16 * q) else 0) else 0) x3))
  | 0, x2, x3, h0, h1, h2 => by omega
  | m + 1, x2, x3, h0, h1, h2 => by
    unfold zl_267_1
    by_cases c : Y 2 0 0 2000 ≤ x3
    · rw [if_pos c, show x3 = Y 2 0 0 2000 by omega]
      simp
    rw [if_neg c]
    have s := zSi_s (f := fun q => if Y 2 0 0 (2010 + 16 * q + a) = w then (if t = -1 then Y 2 0 0 (2013 + 16 * q) else if Y 2 0 0 (2019 + 16 * q) = t then Y 2 0 0 (2013 + 16 * q) else 0) else 0) h0
    have i0 := zl267 (Y := Y) (a := a) (w := w) (t := t) m x2 (x3 + 1) (by omega) (by omega) (by omega)
    have i1 := zl267 (Y := Y) (a := a) (w := w) (t := t) m (x2 + Y 2 0 0 (2013 + 16 * x3)) (x3 + 1) (by omega) (by omega) (by omega)
    rw [s] at i0 i1
    by_cases d : Y 2 0 0 (2010 + 16 * x3 + a) ≠ w
    · rw [if_pos d, Int.add_zero, i0]
      simp only [if_neg d, Int.add_zero]
    · have d' := Classical.not_not.mp d
      rw [if_neg d]
      by_cases e : t = -1
      · rw [if_pos e, w3_add, i1]
        simp only [if_pos d', if_pos e]
        congr 1
        omega
      · rw [if_neg e]
        by_cases f : Y 2 0 0 (2019 + 16 * x3) ≠ t
        · rw [if_pos f, Int.add_zero, i0]
          simp only [if_pos d', if_neg e, if_neg f, Int.add_zero]
        · have f' := Classical.not_not.mp f
          rw [if_neg f, w3_add, i1]
          simp only [if_pos d', if_neg e, if_pos f']
          congr 1
          omega
theorem z267 {Y : qz_Z} {a w t : Int} (h0 : 0 ≤ Y 2 0 0 2000) (h1 : Y 2 0 0 2000 ≤ 60) : zf_267 Y a w t = w3 (zSi (fun q => if Y 2 0 0 (2010 + 16 * q + a) = w then (if t = -1 then Y 2 0 0 (2013 + 16 * q) else if Y 2 0 0 (2019 + 16 * q) = t then Y 2 0 0 (2013 + 16 * q) else 0) else 0) (Y 2 0 0 2000)) := by
  have h := zl267 (Y := Y) (a := a) (w := w) (t := t) 61 0 0 (by omega) h0 (by omega)
  rw [zSi_0, Int.zero_add, Int.sub_zero, show w3 0 = 0 from rfl] at h
  exact h
theorem zl279 {Y : qz_Z} {i : Int} : ∀ (m : Nat) (x2 x3 : Int), 0 ≤ x3 → x3 ≤ Y 2 0 0 1401 → Y 2 0 0 1401 - x3 < (m : Int) → (zl_279_1 i m Y x2 x3).1 = x2 + (zSi (fun o => if Y 2 0 0 (1510 + 12 * o) = i then 1 else 0) (Y 2 0 0 1401) - zSi (fun o => if Y 2 0 0 (1510 + 12 * o) = i then 1 else 0) x3) ∧ x2 ≤ (zl_279_1 i m Y x2 x3).1 ∧ (zl_279_1 i m Y x2 x3).1 ≤ x2 + (Y 2 0 0 1401 - x3)
  | 0, x2, x3, h0, h1, h2 => by omega
  | m + 1, x2, x3, h0, h1, h2 => by
    unfold zl_279_1
    by_cases c : Y 2 0 0 1401 ≤ x3
    · rw [if_pos c, show x3 = Y 2 0 0 1401 by omega]
      simp
    rw [if_neg c]
    have s := zSi_s (f := fun o => if Y 2 0 0 (1510 + 12 * o) = i then 1 else 0) h0
    by_cases d : Y 2 0 0 (1510 + 12 * x3) ≠ i
    · rw [if_pos d, Int.add_zero]
      have g := zl279 (Y := Y) (i := i) m x2 (x3 + 1) (by omega) (by omega) (by omega)
      rw [s] at g
      simp only [if_neg d] at g
      omega
    · rw [if_neg d]
      have g := zl279 (Y := Y) (i := i) m (x2 + 1) (x3 + 1) (by omega) (by omega) (by omega)
      rw [s] at g
      simp only [if_pos (Classical.not_not.mp d)] at g
      omega
theorem z279 {Y : qz_Z} {i : Int} (h0 : 0 ≤ Y 2 0 0 1401) (h1 : Y 2 0 0 1401 ≤ 24) : zf_279 Y i = w3 (zSi (fun o => if Y 2 0 0 (1510 + 12 * o) = i then 1 else 0) (Y 2 0 0 1401)) := by
  have h := zl279 (Y := Y) (i := i) 25 0 0 (by omega) h0 (by omega)
  rw [zSi_0] at h
  have e : zf_279 Y i = (zl_279_1 i 25 Y 0 0).1 := rfl
  rw [w3_id (by omega) (by omega), e]
  omega
section OW
variable {b : Int} {Z Y : qz_Z} (hRa : zR b Z Y) (hV : zV Y) (hDb : zDb b Z)
theorem zDb_4 {i : Int} (hRa : zR b Z Y) (hV : zV Y) (hDb : zDb b Z) (h0 : 0 ≤ i) (h1 : i < 8) : Z 45 b i 4 = zf_289 Y i := by
  have v := zVr_11_6 (a := 2000) hV rfl
  rw [z289 v.1 v.2, (hDb.1 i h0 h1).1, zRl_11_6 (a := 2000) hRa rfl]
  congr 1
  refine zSi_e (fun j g0 g1 => ?_)
  rw [zRl_47_1 (x := j) (a := 2011 + 16 * j) hRa g0 (by omega) rfl, zRl_47_19 (x := j) (a := 1810 + 2 * j) hRa g0 (by omega) rfl]
theorem zDb_9 {i : Int} (hRa : zR b Z Y) (hV : zV Y) (hDb : zDb b Z) (h0 : 0 ≤ i) (h1 : i < 8) : Z 45 b i 9 = zf_267 Y 1 i (-1) := by
  have v := zVr_11_6 (a := 2000) hV rfl
  rw [z267 v.1 v.2, (hDb.1 i h0 h1).2.1, zRl_11_6 (a := 2000) hRa rfl]
  congr 1
  refine zSi_e (fun j g0 g1 => ?_)
  rw [zRl_47_1 (x := j) (a := 2010 + 16 * j + 1) hRa g0 (by omega) (by omega), zRl_47_3 (x := j) (a := 2013 + 16 * j) hRa g0 (by omega) rfl]
  simp only [if_true]
theorem zDb_10 {i : Int} (hRa : zR b Z Y) (hV : zV Y) (hDb : zDb b Z) (h0 : 0 ≤ i) (h1 : i < 8) : Z 45 b i 10 = zf_267 Y 1 i 2 := by
  have v := zVr_11_6 (a := 2000) hV rfl
  rw [z267 v.1 v.2, (hDb.1 i h0 h1).2.2.1, zRl_11_6 (a := 2000) hRa rfl]
  congr 1
  refine zSi_e (fun j g0 g1 => ?_)
  rw [zRl_47_1 (x := j) (a := 2010 + 16 * j + 1) hRa g0 (by omega) (by omega), zRl_47_3 (x := j) (a := 2013 + 16 * j) hRa g0 (by omega) rfl, zRl_47_9 (x := j) (a := 2019 + 16 * j) hRa g0 (by omega) rfl]
  simp
theorem zDb_11 {i : Int} (hRa : zR b Z Y) (hV : zV Y) (hDb : zDb b Z) (h0 : 0 ≤ i) (h1 : i < 8) : Z 45 b i 11 = zf_267 Y 1 i 3 := by
  have v := zVr_11_6 (a := 2000) hV rfl
  rw [z267 v.1 v.2, (hDb.1 i h0 h1).2.2.2.1, zRl_11_6 (a := 2000) hRa rfl]
  congr 1
  refine zSi_e (fun j g0 g1 => ?_)
  rw [zRl_47_1 (x := j) (a := 2010 + 16 * j + 1) hRa g0 (by omega) (by omega), zRl_47_3 (x := j) (a := 2013 + 16 * j) hRa g0 (by omega) rfl, zRl_47_9 (x := j) (a := 2019 + 16 * j) hRa g0 (by omega) rfl]
  simp
theorem zDb_14 {i : Int} (hRa : zR b Z Y) (hV : zV Y) (hDb : zDb b Z) (h0 : 0 ≤ i) (h1 : i < 8) : Z 45 b i 14 = zf_279 Y i := by
  have v := zVr_11_5 (a := 1401) hV rfl
  rw [z279 v.1 v.2, (hDb.1 i h0 h1).2.2.2.2, zRl_11_5 (a := 1401) hRa rfl]
  congr 1
  refine zSi_e (fun j g0 g1 => ?_)
  rw [zRl_46_0 (x := j) (a := 1510 + 12 * j) hRa g0 (by omega) rfl]
theorem zDb_8 {o : Int} (hRa : zR b Z Y) (hV : zV Y) (hDb : zDb b Z) (h0 : 0 ≤ o) (h1 : o < 24) : Z 46 b o 8 = zf_267 Y 2 o (-1) := by
  have v := zVr_11_6 (a := 2000) hV rfl
  rw [z267 v.1 v.2, hDb.2 o h0 h1, zRl_11_6 (a := 2000) hRa rfl]
  congr 1
  refine zSi_e (fun j g0 g1 => ?_)
  rw [zRl_47_2 (x := j) (a := 2010 + 16 * j + 2) hRa g0 (by omega) (by omega), zRl_47_3 (x := j) (a := 2013 + 16 * j) hRa g0 (by omega) rfl]
  simp only [if_true]
end OW
/-! calls that only ask -/
def zqY (Y Y' : qz_Z) : Prop := (∀ j, Y' 2 0 0 j = Y 2 0 0 j) ∧ yFr [99999] Y Y'
theorem zqY_0 {Y : qz_Z} : zqY Y Y := ⟨fun _ => rfl, yFr_r⟩
theorem zqY_u {Y Y' : qz_Z} {t : Int} (h : zqY Y Y') : zqY Y (zu Y' 1 0 0 2 t) := ⟨fun j => (zu_ne rfl (fun q => absurd q.1 (by decide))).trans (h.1 j), yFr_o h.2 rfl rfl (.inr rfl) rfl⟩
def zPq (hs : List (Int × Int)) (Z Y : qz_Z) (dm : qz_Z → Int → Int → Int → Int → Int → Int → Int → qz_Z) (C : qz_Z × Int × Int) (M : qz_Z × Int) : Prop := zR 0 C.1 M.1 ∧ zV M.1 ∧ zDd [] [99999] Z Y dm C.1 M.1 ∧ zThr hs C.2 (M.1 1 0 0 2) M.2
theorem zPq_a {hs : List (Int × Int)} {Z Y Y' : qz_Z} {dm : qz_Z → Int → Int → Int → Int → Int → Int → Int → qz_Z} {v v' : Int} (hR : zR 0 Z Y) (hV : zV Y) (h : zqY Y Y') (e : v = v') : zPq hs Z Y dm (Z, v, 0) (zu Y' 1 0 0 2 0, v') := by
  have h2 := zqY_u (t := 0) h
  exact ⟨zR_e hR (fun _ _ _ _ => rfl) h2.1, zV_e hV h2.1, ⟨Z, _, .inl ⟨rfl, h2.2⟩, zFc_r, yFr_r⟩, zThr_a (zu_at rfl) e⟩
theorem zPq_e {hs : List (Int × Int)} {Z Y Y' : qz_Z} {dm : qz_Z → Int → Int → Int → Int → Int → Int → Int → qz_Z} {v' E t : Int} (hR : zR 0 Z Y) (hV : zV Y) (h : zqY Y Y') (m : (E, t) ∈ hs) : zPq hs Z Y dm (Z, 0, E) (zu Y' 1 0 0 2 t, v') := by
  have h2 := zqY_u (t := t) h
  exact ⟨zR_e hR (fun _ _ _ _ => rfl) h2.1, zV_e hV h2.1, ⟨Z, _, .inl ⟨rfl, h2.2⟩, zFc_r, yFr_r⟩, zThr_e (zu_at rfl) m⟩
/-- a lot is told -/
theorem rf_lot {Z Y : qz_Z} {dm : qz_Z → Int → Int → Int → Int → Int → Int → Int → qz_Z} {a1 a2 a3 : Int} (hRa : zR 0 Z Y) (hV : zV Y) (hDl : zDl 0 Z Y) {C : qz_Z × Int × Int} {M : qz_Z × Int} (hC : zE C (zx_217 Z a1 a2 a3)) (hM : zE M (zy_428 Y a1 a2 a3)) : zPq [(24, 1), (13, 2)] Z Y dm C M := by
  have hc : C = _ := hC
  have hm : M = _ := hM
  rw [hc, hm]
  unfold zx_217 zy_428
  simp only [zlet]
  have r3 := zRl_11_7 (a := 3000) hRa rfl
  have v3 := zVr_11_7 (a := 3000) hV rfl
  by_cases h1 : a1 < 0
  · rw [if_neg (by omega), if_pos h1]
    exact zPq_e hRa hV zqY_0 (by decide)
  rw [if_neg h1]
  by_cases h2 : Y 2 0 0 3000 - 1 < a1
  · rw [if_neg (by omega), if_pos h2]
    exact zPq_e hRa hV zqY_0 (by decide)
  rw [if_neg h2, if_pos (by omega)]
  have r5 := zRl_48_5 (x := a1) (a := 3015 + 60 * a1) hRa (by omega) (by omega) rfl
  have v5 := zVr_48_5 (x := a1) (a := 3015 + 60 * a1) hV (by omega) (by omega) rfl
  simp only [(zqY_u (t := 0) (zqY_0 (Y := Y))).1]
  by_cases h3 : a2 < 0
  · rw [if_pos h3, if_neg (by omega)]
    exact zPq_e hRa hV (zqY_u zqY_0) (by decide)
  rw [if_neg h3]
  by_cases h4 : Y 2 0 0 (3015 + 60 * a1) - 1 < a2
  · rw [if_pos h4, if_neg (by omega)]
    exact zPq_e hRa hV (zqY_u zqY_0) (by decide)
  rw [if_neg h4, if_pos (show 0 ≤ a2 ∧ a2 < Z 48 0 a1 5 by omega)]
  by_cases h5 : a3 < 0
  · rw [if_pos h5, if_neg (by omega)]
    exact zPq_e hRa hV (zqY_u (zqY_u zqY_0)) (by decide)
  rw [if_neg h5]
  by_cases h6 : 2 < a3
  · rw [if_pos h6, if_neg (by omega)]
    exact zPq_e hRa hV (zqY_u (zqY_u zqY_0)) (by decide)
  rw [if_neg h6, if_pos (by omega)]
  refine zPq_a hRa hV (zqY_u (zqY_u zqY_0)) ?_
  rw [(zqY_u (t := 0) (zqY_u (t := 0) (zqY_u (t := 0) (zqY_0 (Y := Y))))).1]
  obtain ⟨d0, d1, d2⟩ := hDl a1 a2 (by omega) (by omega) (by omega) (by omega) (by omega)
  have c : a3 = 0 ∨ a3 = 1 ∨ a3 = 2 := by omega
  rcases c with rfl | rfl | rfl
  · rw [d0, Int.add_zero]
  · rw [d1, show 3022 + 60 * a1 + 3 * a2 + 1 = 3023 + 60 * a1 + 3 * a2 by omega]
  · rw [d2, show 3022 + 60 * a1 + 3 * a2 + 2 = 3024 + 60 * a1 + 3 * a2 by omega]
