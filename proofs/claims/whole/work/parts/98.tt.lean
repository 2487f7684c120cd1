/-! a truck asked for -/
theorem rf_350 {Z Y : qz_Z} {dm : qz_Z → Int → Int → Int → Int → Int → Int → Int → qz_Z} {n a1 a2 : Int} (hRa : zR 0 Z Y) (hV : zV Y) (hN4 : zN4 Y) (hDt : zDt 0 Z Y) (hDv : zDv 0 Z Y) (h5 : Z 40 0 5 5 = 0) {C : qz_Z × Int × Int} {M : qz_Z × Int} (hC : zE C (zx_207 Z n a1 a2)) (hM : zE M (zy_350 Y a1 a2)) : zPq [(24, 1), (13, 2)] Z Y dm C M := by
  have hc : C = _ := hC
  have hm : M = _ := hM
  unfold zx_207 at hc
  unfold zy_350 at hm
  have r8 := zRl_11_8 (a := 3200) hRa rfl
  have v8 := zVr_11_8 (a := 3200) hV rfl
  have q1 := zqY_u (t := 0) (zqY_0 (Y := Y))
  have q2 := zqY_u (t := 0) q1
  by_cases h1 : a1 < 0
  · rw [if_neg (by omega)] at hc
    rw [if_pos h1] at hm
    rw [hc, hm]
    exact zPq_e hRa hV zqY_0 (by decide)
  rw [if_neg h1] at hm
  by_cases h2 : Y 2 0 0 3200 - 1 < a1
  · rw [if_neg (by omega)] at hc
    rw [if_pos h2] at hm
    rw [hc, hm]
    exact zPq_e hRa hV zqY_0 (by decide)
  rw [if_neg h2] at hm
  rw [if_pos (by omega)] at hc
  rw [zlet] at hm
  by_cases h3 : a2 < 0
  · rw [if_neg (by omega)] at hc
    rw [if_pos h3] at hm
    rw [hc, hm]
    exact zPq_e hRa hV q1 (by decide)
  rw [if_neg h3] at hm
  by_cases h4 : 11 < a2
  · rw [if_neg (by omega)] at hc
    rw [if_pos h4] at hm
    rw [hc, hm]
    exact zPq_e hRa hV q1 (by decide)
  rw [if_neg h4] at hm
  rw [if_pos (show 0 ≤ a2 ∧ a2 ≤ 11 by omega)] at hc
  rw [zlet] at hm
  have y32 : zu (zu Y 1 0 0 2 0) 1 0 0 2 0 1 0 0 2 = 0 := zu_at rfl
  have S : ∀ {v v' : Int}, v = v' → zPq [(24, 1), (13, 2)] Z Y dm (Z, v, 0) (zu (zu Y 1 0 0 2 0) 1 0 0 2 0, v') := fun e => zPq_a hRa hV q1 e
  generalize zu (zu Y 1 0 0 2 0) 1 0 0 2 0 = Y' at hm q2 y32 S
  have R := zR_e hRa (fun _ _ _ _ => rfl) q2.1
  have V : zV Y' := zV_e hV q2.1
  have N4 : zN4 Y' := zN4_f hN4 q2.2.1 ⟨rfl, rfl, rfl⟩
  have Dt : zDt 0 Z Y' := zDt_f (L := []) hDt (fun _ _ _ _ _ => rfl) q2.2.1 rfl rfl
  have Dv : zDv 0 Z Y' := fun i j i0 i1 j0 j1 ne => by
    rw [q2.1]
    exact hDv i j i0 i1 j0 j1 ne
  have t0 : 0 ≤ a1 := by omega
  have t1 : a1 < 4 := by omega
  have tn : a1 < Y' 2 0 0 3200 := by
    rw [q2.1]
    omega
  have o2 := zRl_50_2 (x := a1) (a := 3252 + 24 * a1) R t0 t1 rfl
  have T : ∀ {x : Int} {Zt Yt : qz_Z}, (∀ (k : Nat) (c i j : Int), k ≠ 200 → Zt k c i j = Z k c i j) → (∀ (k : Nat) (c i j : Int), k ≠ 95 → k ≠ 96 → ¬ (k = 1 ∧ (j = 24 ∨ j = 25)) → Yt k c i j = Y' k c i j) → x = Yt 1 0 0 25 → zPq [(24, 1), (13, 2)] Z Y dm (Zt, x, 0) (Yt, Yt 1 0 0 25) := fun {x Zt Yt} fz fy e => by
    have w : zW [] [] [99999] 0 Z Y Z Y' := ⟨zRx_0 R, V, zFc_r, q2.2⟩
    have w2 := zW_200 w fz fy
    refine ⟨zRx_1 w2.1, w2.2.1, ⟨Z, Y', .inl ⟨rfl, q2.2⟩, w2.2.2.1, ?_⟩, zThr_a ?_ e⟩
    · have w3_ := zW_200 (L := []) (K := [99999]) (Z := Z) (Y := Y') ⟨zRx_0 R, V, zFc_r, yFr_r⟩ fz fy
      exact w3_.2.2.2
    · show Yt 1 0 0 2 = 0
      rw [fy _ _ _ _ (by decide) (by decide) (fun q => by have := q.2; omega)]
      exact y32
  unfold zf_57 at hc
  rw [o2] at hc
  have n53 : zf_53 Z 0 a1 = zf_518 Y' a1 0 := rr_53 R V N4 t0 rfl rfl
  have n43 : zf_43 Z 0 a1 = zf_518 Y' a1 1 := rr_43 R V N4 t0 rfl rfl
  have n59 : zf_59 Z 0 a1 = zf_527 Y' a1 := rr_59 R V N4 t0 rfl rfl
  have hd := Dt a1 t0 t1 tn
  by_cases b3 : a2 < 4
  · rw [if_pos (.inl b3)] at hm
    have c : zf_57 Z n 0 a1 a2 = (Z, n, Z 50 0 a1 a2) := by
      unfold zf_57
      by_cases o : Z 50 0 a1 2 ≠ 1
      · rw [if_pos o, if_pos (Or.inl b3)]
      · rw [if_neg o, if_pos (Or.inl b3)]
    unfold zf_57 at c
    rw [o2] at c
    rw [c] at hc
    rw [hc, hm]
    refine S ?_
    have d : a2 = 0 ∨ a2 = 1 ∨ a2 = 2 ∨ a2 = 3 := by omega
    rcases d with d | d | d | d
    · rw [d]
      exact zRl_50_0 (x := a1) R t0 t1 (by omega)
    · rw [d]
      exact zRl_50_1 (x := a1) R t0 t1 (by omega)
    · rw [d]
      exact zRl_50_2 (x := a1) R t0 t1 (by omega)
    · rw [d]
      exact zRl_50_3 (x := a1) R t0 t1 (by omega)
  have d : a2 = 4 ∨ a2 = 5 ∨ a2 = 6 ∨ a2 = 7 ∨ a2 = 8 ∨ a2 = 9 ∨ a2 = 10 ∨ a2 = 11 := by omega
  rcases d with rfl | rfl | rfl | rfl | rfl | rfl | rfl | rfl
  · rw [if_neg (by omega), if_pos rfl] at hm
    rw [zlet] at hm
    by_cases o : Y' 2 0 0 (3252 + 24 * a1) ≠ 1
    · rw [if_pos o, if_neg (by omega), if_pos rfl] at hc
      simp only [zlet, zlet3] at hc
      rw [hc, hm]
      exact S n43
    · rw [if_neg o, if_neg (by omega), if_pos rfl] at hc
      simp only [zlet, zlet3] at hc
      rw [hc, hm]
      exact S n43
  · rw [if_neg (by omega), if_neg (by omega), if_pos rfl] at hm
    rw [zlet] at hm
    by_cases o : Y' 2 0 0 (3252 + 24 * a1) ≠ 1
    · rw [if_pos o, if_neg (by omega), if_neg (by omega), if_pos rfl] at hc
      simp only [zlet, zlet3] at hc
      rw [hc, hm]
      exact S n53
    · rw [if_neg o, if_neg (by omega), if_neg (by omega), if_pos rfl] at hc
      simp only [zlet, zlet3] at hc
      rw [hc, hm]
      exact S n53
  · rw [if_neg (by omega), if_neg (by omega), if_neg (by omega), if_pos rfl] at hm
    by_cases o : Y' 2 0 0 (3252 + 24 * a1) ≠ 1
    · rw [if_pos o, if_neg (by omega), if_neg (by omega), if_neg (by omega), if_pos rfl] at hc
      simp only [zlet, zlet3] at hc
      rw [if_pos o] at hm
      simp only [zlet] at hm
      rw [hc, hm, n59]
      have hDz : zDv 0 (zzi Z n) Y' := fun i j i0 i1 j0 j1 ne => by
        rw [show zzi Z n 40 0 i j = Z 40 0 i j from if_neg (fun q => absurd q.1 (by decide))]
        exact Dv i j i0 i1 j0 j1 ne
      obtain ⟨m0, m1, _⟩ := z527 (t := a1) V
      generalize zf_527 Y' a1 = a at m0 m1 ⊢
      have zi : ∀ (k : Nat) (c i j : Int), k ≠ 200 → zzi Z n k c i j = Z k c i j := fun k c i j q => if_neg (fun r => q r.1)
      by_cases z : a = 0
      · rw [z]
        obtain ⟨g1, g2, g3, g4⟩ := rr_1056z (b := 0) (n := n + 1) (b2 := n) (Z := zzi Z n) (Y := Y') (by omega) ((zi _ _ _ _ (by decide)).trans h5)
        exact T (fun k c i j q => (g3 k c i j q).trans (zi k c i j q)) g4 (g1.trans g2.symm)
      · obtain ⟨N, x, _, _, _, _, _, f2, _, f4, _, _, _, f8, f9, _⟩ := rr_1056 (b := 0) (n := n + 1) (b2 := n) (a := a) (Z := zzi Z n) (Y := Y') (by omega) hDz (by omega) m1
        exact T (fun k c i j q => (f8 k c i j (fun r => q r.1)).trans (zi k c i j q)) f9 (f2.trans f4.symm)
    · rw [if_neg o, if_neg (by omega), if_neg (by omega), if_neg (by omega), if_pos rfl] at hc
      rw [if_neg o] at hm
      rw [hc, hm]
      exact S (zRl_50_6 (x := a1) R t0 t1 rfl)
  · rw [if_neg (by omega), if_neg (by omega), if_neg (by omega), if_neg (by omega), if_pos rfl] at hm
    by_cases o : Y' 2 0 0 (3252 + 24 * a1) ≠ 1
    · rw [if_pos o, if_neg (by omega), if_neg (by omega), if_neg (by omega), if_neg (by omega), if_pos rfl] at hc
      rw [hc, hm]
      exact S (zRl_50_7 (x := a1) R t0 t1 rfl)
    · rw [if_neg o, if_neg (by omega), if_neg (by omega), if_neg (by omega), if_neg (by omega), if_pos rfl] at hc
      rw [hc, hm]
      exact S (zRl_50_7 (x := a1) R t0 t1 rfl)
  · rw [if_neg (by omega), if_neg (by omega), if_neg (by omega), if_neg (by omega), if_neg (by omega), if_pos rfl] at hm
    by_cases o : Y' 2 0 0 (3252 + 24 * a1) ≠ 1
    · rw [if_pos o, if_neg (by omega), if_neg (by omega), if_neg (by omega), if_neg (by omega), if_neg (by omega), if_pos rfl] at hc
      rw [if_pos o] at hm
      rw [hc, hm]
      exact S (hd.2 o)
    · rw [if_neg o, if_neg (by omega), if_neg (by omega), if_neg (by omega), if_neg (by omega), if_neg (by omega), if_pos rfl] at hc
      rw [if_neg o] at hm
      rw [hc, hm]
      exact S (hd.1 (Classical.not_not.mp o)).1
  · rw [if_neg (by omega), if_neg (by omega), if_neg (by omega), if_neg (by omega), if_neg (by omega), if_neg (by omega), if_pos rfl] at hm
    by_cases o : Y' 2 0 0 (3252 + 24 * a1) ≠ 1
    · rw [if_pos o, if_neg (by omega), if_neg (by omega), if_neg (by omega), if_neg (by omega), if_neg (by omega), if_neg (by omega)] at hc
      rw [if_pos o] at hm
      rw [hc, hm]
      exact S rfl
    · rw [if_neg o, if_neg (by omega), if_neg (by omega), if_neg (by omega), if_neg (by omega), if_neg (by omega), if_neg (by omega)] at hc
      rw [if_neg o, zlet] at hm
      simp only [zlet, zlet3] at hc
      rw [hc, hm]
      exact S (rr_52 R V Dt t0 t1 tn (Classical.not_not.mp o))
  · rw [if_neg (by omega), if_neg (by omega), if_neg (by omega), if_neg (by omega), if_neg (by omega), if_neg (by omega), if_neg (by omega), if_pos rfl] at hm
    by_cases o : Y' 2 0 0 (3252 + 24 * a1) ≠ 1
    · rw [if_pos o, if_pos (by omega)] at hc
      rw [hc, hm]
      exact S (zRl_50_10 (x := a1) R t0 t1 rfl)
    · rw [if_neg o, if_pos (by omega)] at hc
      rw [hc, hm]
      exact S (zRl_50_10 (x := a1) R t0 t1 rfl)
  · rw [if_neg (by omega), if_neg (by omega), if_neg (by omega), if_neg (by omega), if_neg (by omega), if_neg (by omega), if_neg (by omega), if_neg (by omega)] at hm
    by_cases o : Y' 2 0 0 (3252 + 24 * a1) ≠ 1
    · rw [if_pos o, if_pos (by omega)] at hc
      rw [hc, hm]
      exact S (zRl_50_11 (x := a1) R t0 t1 rfl)
    · rw [if_neg o, if_pos (by omega)] at hc
      rw [hc, hm]
      exact S (zRl_50_11 (x := a1) R t0 t1 rfl)
