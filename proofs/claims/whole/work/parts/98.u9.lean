/-! Calls that only ask, and make arrays on the way: shares, blame. -/
theorem n20069 {k : Nat} (h : zhall k = true ∨ zkeep k = true) : k ≠ 200 ∧ k ≠ 69 := by
  refine ⟨fun e => ?_, fun e => ?_⟩
  · subst e
    rcases h with h | h <;> cases h
  · subst e
    rcases h with h | h <;> cases h
theorem zPq_b {hs : List (Int × Int)} {Z Z' Y Y' : qz_Z} {dm : qz_Z → Int → Int → Int → Int → Int → Int → Int → qz_Z} {v v' : Int} (hR : zR 0 Z Y) (hV : zV Y) (hz : ∀ (k : Nat) (b i j : Int), k ≠ 200 ∧ k ≠ 69 → Z' k b i j = Z k b i j) (h : zqY Y Y') (e : v = v') : zPq hs Z Y dm (Z', v, 0) (zu Y' 1 0 0 2 0, v') := by
  have h2 := zqY_u (t := 0) h
  exact ⟨zR_e hR (fun k i j hk => hz k 0 i j (n20069 (.inl hk))) h2.1, zV_e hV h2.1, ⟨Z, _, .inl ⟨rfl, h2.2⟩, ⟨fun k i j hk _ => hz k 0 i j (n20069 (.inl hk)), fun k c i j hk => hz k c i j (n20069 (hk.imp And.left id))⟩, yFr_r⟩, zThr_a (zu_at rfl) e⟩
theorem zf9_e {Z : qz_Z} {n c w0 w1 w2 : Int} (hK : shK c w0 w1 w2) : zf_9 Z n c w0 w1 w2 = (shM (zzi (shW Z n w0 w1 w2) (n + 1)) 69 0 (sh_e (shQ c w0 w1 w2) (shR c w0 w1 w2) (shL c w0 w1 w2)), n + 2) := if_pos (by
  rw [shK_A hK]
  exact hK.2.2.1.1)
theorem zf9_k {Z : qz_Z} {n w0 w1 w2 : Int} {Q : Int → Int} (k : Nat) (b i j : Int) (hk : k ≠ 200 ∧ k ≠ 69) : shM (zzi (shW Z n w0 w1 w2) (n + 1)) 69 0 Q k b i j = Z k b i j := by
  rw [shM_ne (fun x => hk.2 x.1)]
  refine (if_neg (fun x => hk.1 x.1)).trans ?_
  unfold shW
  rw [zu_ne rfl (fun x => hk.1 x.1), zu_ne rfl (fun x => hk.1 x.1), zu_ne rfl (fun x => hk.1 x.1)]
  exact if_neg (fun x => hk.1 x.1)
abbrev zOk5 (a1 a2 a3 a4 a5 : Int) : Prop := (0 ≤ a1 ∧ a1 ≤ 999999) ∧ (0 ≤ a2 ∧ a2 ≤ 999) ∧ (0 ≤ a3 ∧ a3 ≤ 999) ∧ (0 ≤ a4 ∧ a4 ≤ 999) ∧ (0 ≤ a5 ∧ a5 ≤ 2) ∧ 1 ≤ a2 + a3 + a4
theorem rf_shares {Z Y : qz_Z} {dm : qz_Z → Int → Int → Int → Int → Int → Int → Int → qz_Z} {n a1 a2 a3 a4 a5 : Int} (hRa : zR 0 Z Y) (hV : zV Y) {C : qz_Z × Int × Int} {M : qz_Z × Int} (hC : zE C (zx_241 Z n a1 a2 a3 a4 a5)) (hM : zE M (zy_501 Y a1 a2 a3 a4 a5)) : zPq [(13, 1)] Z Y dm C M := by
  have hc : C = _ := hC
  have hm : M = _ := hM
  rw [hc, hm]
  unfold zx_241 zy_501
  by_cases ok : zOk5 a1 a2 a3 a4 a5
  · obtain ⟨g1, g2, g3, g4, g5, g6⟩ := ok
    have m : ∀ w : Int, 0 ≤ w → w ≤ 999 → a1 * w ≤ 2147483647 := fun w w0 w1 => by
      have : a1 * w ≤ 999999 * 999 := Int.mul_le_mul g1.2 w1 w0 (by omega)
      omega
    have hK : shK a1 a2 a3 a4 := ⟨g1, ⟨g2.1, g3.1, g4.1⟩, ⟨g6, by omega⟩, m _ g2.1 g2.2, m _ g3.1 g3.2, m _ g4.1 g4.2⟩
    rw [if_pos g1, if_pos g2, if_pos g3, if_pos g4, if_pos g5, if_pos (show 1 ≤ a2 + a3 + a4 ∧ a2 + a3 + a4 ≤ 2997 by omega), zf9_e hK]
    rw [if_neg (show ¬ a1 < 0 by omega), if_neg (show ¬ 999999 < a1 by omega), if_neg (show ¬ a2 < 0 by omega), if_neg (show ¬ 999 < a2 by omega), if_neg (show ¬ a3 < 0 by omega), if_neg (show ¬ 999 < a3 by omega), if_neg (show ¬ a4 < 0 by omega), if_neg (show ¬ 999 < a4 by omega), if_neg (show ¬ a5 < 0 by omega), if_neg (show ¬ 2 < a5 by omega), if_neg (show ¬ a2 + a3 + a4 ≤ 0 by omega)]
    refine zPq_b hRa hV (fun k b i j hk => zf9_k k b i j hk) zqY_0 ?_
    exact ((shM_at (by omega) (by omega)).trans (sh_cv hK g5)).trans (sh_rv hK g5).symm
  · have e1 : ∀ {A : qz_Z × Int × Int}, (if 0 ≤ a1 ∧ a1 ≤ 999999 then (if 0 ≤ a2 ∧ a2 ≤ 999 then (if 0 ≤ a3 ∧ a3 ≤ 999 then (if 0 ≤ a4 ∧ a4 ≤ 999 then (if 0 ≤ a5 ∧ a5 ≤ 2 then (if 1 ≤ ((a2 + a3) + a4) ∧ ((a2 + a3) + a4) ≤ 2997 then A else (Z, 0, 13)) else (Z, 0, 13)) else (Z, 0, 13)) else (Z, 0, 13)) else (Z, 0, 13)) else (Z, 0, 13)) = (Z, 0, 13) := by
      intro A
      (repeat' split) <;> first | rfl | (exfalso; omega)
    have e2 : ∀ {A : qz_Z × Int}, (if a1 < 0 then (zu Y 1 0 0 2 1, (0 : Int)) else (if 999999 < a1 then (zu Y 1 0 0 2 1, 0) else (if a2 < 0 then (zu Y 1 0 0 2 1, 0) else (if 999 < a2 then (zu Y 1 0 0 2 1, 0) else (if a3 < 0 then (zu Y 1 0 0 2 1, 0) else (if 999 < a3 then (zu Y 1 0 0 2 1, 0) else (if a4 < 0 then (zu Y 1 0 0 2 1, 0) else (if 999 < a4 then (zu Y 1 0 0 2 1, 0) else (if a5 < 0 then (zu Y 1 0 0 2 1, 0) else (if 2 < a5 then (zu Y 1 0 0 2 1, 0) else (if ((a2 + a3) + a4) ≤ 0 then (zu Y 1 0 0 2 1, 0) else A))))))))))) = (zu Y 1 0 0 2 1, 0) := by
      intro A
      (repeat' split) <;> first | rfl | (exfalso; omega)
    rw [e1]
    simp only [zlet]
    rw [e2]
    exact zPq_e hRa hV zqY_0 (by decide)
theorem z398_r {Y Y' : qz_Z} {q c : Int} (h : ∀ j, Y' 2 0 0 j = Y 2 0 0 j) : zf_398 Y' q c = zf_398 Y q c := by
  unfold zf_398 zf_421
  simp only [h]
theorem rf_blame {Z Y : qz_Z} {dm : qz_Z → Int → Int → Int → Int → Int → Int → Int → qz_Z} {n a1 a2 a3 : Int} (hRa : zR 0 Z Y) (hV : zV Y) (hD1 : zD1 0 Z Y) (hD4 : zD4 0 Z Y) (hW : 0 ≤ a1 → a1 < Y 2 0 0 2000 → Y 2 0 0 (2019 + 16 * a1) = 2 → zWq Y a1) (hpr : ∀ s, 0 ≤ s → s ≤ 4 → 0 ≤ Y 2 0 0 (113 + 5 * s)) {C : qz_Z × Int × Int} {M : qz_Z × Int} (hC : zE C (zx_190 Z n a1 a2 a3)) (hM : zE M (zy_294 Y a1 a2 a3)) : zPq [(24, 1), (13, 2), (15, 3)] Z Y dm C M := by
  have hc : C = _ := hC
  have hm : M = _ := hM
  rw [hc, hm]
  unfold zx_190 zy_294
  simp only [zlet]
  have r := zRl_11_6 (a := 2000) hRa rfl
  have v := zVr_11_6 (a := 2000) hV rfl
  by_cases h1 : a1 < 0
  · rw [if_neg (by omega), if_pos h1]
    exact zPq_e hRa hV zqY_0 (by decide)
  rw [if_neg h1]
  by_cases h2 : Y 2 0 0 2000 - 1 < a1
  · rw [if_neg (by omega), if_pos h2]
    exact zPq_e hRa hV zqY_0 (by decide)
  rw [if_neg h2, if_pos (by omega)]
  by_cases h3 : a2 < 0
  · rw [if_neg (show ¬ (0 ≤ a2 ∧ a2 ≤ 3) by omega), if_pos h3]
    exact zPq_e hRa hV (zqY_u zqY_0) (by decide)
  rw [if_neg h3]
  by_cases h4 : 3 < a2
  · rw [if_neg (show ¬ (0 ≤ a2 ∧ a2 ≤ 3) by omega), if_pos h4]
    exact zPq_e hRa hV (zqY_u zqY_0) (by decide)
  rw [if_neg h4, if_pos (show 0 ≤ a2 ∧ a2 ≤ 3 by omega)]
  by_cases h5 : a3 < 0
  · rw [if_neg (show ¬ (0 ≤ a3 ∧ a3 ≤ 3) by omega), if_pos h5]
    exact zPq_e hRa hV (zqY_u zqY_0) (by decide)
  rw [if_neg h5]
  by_cases h6 : 3 < a3
  · rw [if_neg (show ¬ (0 ≤ a3 ∧ a3 ≤ 3) by omega), if_pos h6]
    exact zPq_e hRa hV (zqY_u zqY_0) (by decide)
  rw [if_neg h6, if_pos (show 0 ≤ a3 ∧ a3 ≤ 3 by omega)]
  have s28 : zu (zu Y 1 0 0 2 0) 1 0 0 2 0 2 0 0 (2019 + 16 * a1) = Y 2 0 0 (2019 + 16 * a1) := (zqY_u (t := 0) (zqY_u (t := 0) zqY_0)).1 _
  rw [s28, zRl_47_9 (x := a1) (a := 2019 + 16 * a1) hRa (by omega) (by omega) rfl]
  by_cases st : Y 2 0 0 (2019 + 16 * a1) ≠ 2
  · rw [if_pos st, if_pos st]
    exact zPq_e hRa hV (zqY_u (zqY_u zqY_0)) (by decide)
  rw [if_neg st, if_neg st]
  have st2 : Y 2 0 0 (2019 + 16 * a1) = 2 := Decidable.not_not.mp st
  have h34 : zqY Y (zu (zu (zu Y 1 0 0 2 0) 1 0 0 2 0) 1 0 0 2 0) := zqY_u (zqY_u (zqY_u zqY_0))
  have w := hW (by omega) (by omega) st2
  have p := zVr_47_0 (x := a1) (a := 2010 + 16 * a1) hV (by omega) (by omega) rfl
  have sr := zVr_44_1 (x := Y 2 0 0 (2010 + 16 * a1)) (a := 201 + 20 * Y 2 0 0 (2010 + 16 * a1)) hV p.1 (by omega) rfl
  have hK := zw_K (a := zf_398 Y a1 a2) (hpr _ sr.1 sr.2) (show 0 ≤ a2 by omega) (show a2 ≤ 3 by omega) w (rr_2b (by omega) (by omega) w)
  rw [z398_r h34.1, rr_2 hRa hV hD1 hD4 (by omega) (by omega) (by omega) (by omega) st2 w]
  by_cases who : a3 ≠ 3
  · rw [if_pos who, if_pos who, rr_10 hRa hV hD1 hD4 (by omega) (by omega) (by omega) (by omega) st2 w, zf9_e hK, zw_u (t := 0) hV (by omega) (by omega) (fun j _ => h34.1 j), zw_u (t := 1) hV (by omega) (by omega) (fun j _ => h34.1 j), zw_u (t := 2) hV (by omega) (by omega) (fun j _ => h34.1 j)]
    have val : shM (zzi (shW Z n (zf_423 Y a1 a2 0) (zwm Y a1 a2) (zf_423 Y a1 a2 2)) (n + 1)) 69 0 (sh_e (shQ (zf_398 Y a1 a2) (zf_423 Y a1 a2 0) (zwm Y a1 a2) (zf_423 Y a1 a2 2)) (shR (zf_398 Y a1 a2) (zf_423 Y a1 a2 0) (zwm Y a1 a2) (zf_423 Y a1 a2 2)) (shL (zf_398 Y a1 a2) (zf_423 Y a1 a2 0) (zwm Y a1 a2) (zf_423 Y a1 a2 2))) 69 0 0 a3 = shv (zf_398 Y a1 a2) (zf_423 Y a1 a2 0) (zwm Y a1 a2) (zf_423 Y a1 a2 2) a3 := (shM_at (by omega) (by omega)).trans (sh_cv hK (by omega))
    have hK2 := hK
    by_cases s : zf_423 Y a1 a2 0 + zf_423 Y a1 a2 1 + zf_423 Y a1 a2 2 = 0
    · rw [if_neg (show ¬ (zf_423 Y a1 a2 0 + zf_423 Y a1 a2 1 + zf_423 Y a1 a2 2 ≠ 0) from fun x => x s)]
      have e : zwm Y a1 a2 = 1 := if_pos s
      rw [e] at hK2
      refine zPq_b hRa hV (fun k b i j hk => zf9_k k b i j hk) (zqY_u (zqY_u zqY_0)) (val.trans ?_)
      rw [e]
      exact (sh_rv hK2 (by omega)).symm
    · rw [if_pos (show zf_423 Y a1 a2 0 + zf_423 Y a1 a2 1 + zf_423 Y a1 a2 2 ≠ 0 from s)]
      have e : zwm Y a1 a2 = zf_423 Y a1 a2 1 := if_neg s
      rw [e] at hK2
      refine zPq_b hRa hV (fun k b i j hk => zf9_k k b i j hk) (zqY_u (zqY_u zqY_0)) (val.trans ?_)
      rw [e]
      exact (sh_rv hK2 (by omega)).symm
  · rw [if_neg who, if_neg who]
    exact zPq_a hRa hV (zqY_u (zqY_u zqY_0)) rfl
