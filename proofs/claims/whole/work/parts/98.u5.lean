/-! A quarrel judged: one for the other. -/
set_option maxRecDepth 16000 in
theorem zf7_e {Z : qz_Z} {n b i v : Int} (hv : zf_2 Z b b (Z 54 b i 0) (Z 54 b i 1) = v) : zf_7 Z n b b i = if v ≠ 0 then zg_7 (zf_1010 (zzi Z n) (n + 1) b b (Z 54 b i 0) (zzi Z n 54 b i 1) v n) b i (Z 54 b i 0) v n else (zu Z 54 b i 2 1, n) := by
  unfold zf_7 zg_7
  rw [zlet_b (v := zf_2 Z b b (Z 54 b i 0) (Z 54 b i 1)), hv, zlet_b (v := zzi Z n), zlet_b (v := n + 1), zlet_b (v := zu Z 54 b i 2 1)]
def zg_408 (Y : qz_Z) (Y1 : qz_Z) (i : Int) (q : Int) (v : Int) : qz_Z := (zlet (zf_272 Y1 q v) (fun Z48 => (zlet (zf_403 Z48 1 8 v (Y 2 0 0 (2010 + 16 * q))) (fun Z49 => (zlet (zf_403 Z49 8 2 (Z48 2 0 0 (3854 + 8 * i)) (Y 2 0 0 (2010 + 16 * q))) (fun Z51 => (zlet (zu Z51 2 0 0 (3820 + 5 * (Z51 2 0 0 (200 + 20 * (Z51 2 0 0 (2010 + 16 * q))))) (w3 ((Z51 2 0 0 (3820 + 5 * (Z51 2 0 0 (200 + 20 * (Z51 2 0 0 (2010 + 16 * q)))))) - (Z48 2 0 0 (3854 + 8 * i))))) (fun Z56 => (zlet (zu Z56 2 0 0 (3823 + 5 * (Z56 2 0 0 (200 + 20 * (Z56 2 0 0 (2010 + 16 * q))))) (w3 ((Z56 2 0 0 (3823 + 5 * (Z56 2 0 0 (200 + 20 * (Z56 2 0 0 (2010 + 16 * q)))))) + (Z48 2 0 0 (3854 + 8 * i))))) (fun Z62 => (zlet (zf_403 Z62 8 0 (Z62 2 0 0 (3856 + 8 * i)) (Y 2 0 0 (2010 + 16 * q))) (fun Z64 => Z64))))))))))))
set_option maxRecDepth 16000 in
theorem zf408_e {Y : qz_Z} {i v : Int} (hv : zf_398 Y (Y 2 0 0 (3850 + 8 * i)) (Y 2 0 0 (3851 + 8 * i)) = v) : zf_408 Y i = if v ≠ 0 then zg_408 Y (zl_408_1 i (Y 2 0 0 (3850 + 8 * i)) (Y 2 0 0 (3851 + 8 * i)) (Y 2 0 0 (2010 + 16 * (Y 2 0 0 (3850 + 8 * i)))) v 4 (zu (zu Y 2 0 0 (3852 + 8 * i) 2) 2 0 0 (3853 + 8 * i) v) 0).1 i (Y 2 0 0 (3850 + 8 * i)) v else zu Y 2 0 0 (3852 + 8 * i) 1 := by
  unfold zf_408 zg_408
  rw [zlet_b (v := zf_398 Y (Y 2 0 0 (3850 + 8 * i)) (Y 2 0 0 (3851 + 8 * i))), hv, zlet_b (v := zu Y 2 0 0 (3852 + 8 * i) 2), zlet_b (v := zu (zu Y 2 0 0 (3852 + 8 * i) 2) 2 0 0 (3853 + 8 * i) v), zlet2_b, zlet_b (v := zu Y 2 0 0 (3852 + 8 * i) 1)]
theorem zg408_e {Y : qz_Z} {i q v s0 s1 s2 : Int} : zg_408 Y (zu (zu (zu (zu (zu Y 2 0 0 (3852 + 8 * i) 2) 2 0 0 (3853 + 8 * i) v) 2 0 0 (3854 + 8 * i) s0) 2 0 0 (3855 + 8 * i) s1) 2 0 0 (3856 + 8 * i) s2) i q v = zf_9408 Y i q v s0 s1 s2 := by
  unfold zg_408 zf_9408
  rw [zlet_b (v := zu Y 2 0 0 (3852 + 8 * i) 2), zlet_b (v := zu (zu Y 2 0 0 (3852 + 8 * i) 2) 2 0 0 (3853 + 8 * i) v), zlet_b (v := zu (zu (zu Y 2 0 0 (3852 + 8 * i) 2) 2 0 0 (3853 + 8 * i) v) 2 0 0 (3854 + 8 * i) s0), zlet_b (v := zu (zu (zu (zu Y 2 0 0 (3852 + 8 * i) 2) 2 0 0 (3853 + 8 * i) v) 2 0 0 (3854 + 8 * i) s0) 2 0 0 (3855 + 8 * i) s1), zlet_b (v := zu (zu (zu (zu (zu Y 2 0 0 (3852 + 8 * i) 2) 2 0 0 (3853 + 8 * i) v) 2 0 0 (3854 + 8 * i) s0) 2 0 0 (3855 + 8 * i) s1) 2 0 0 (3856 + 8 * i) s2)]
/-- weights don't look at quarrels -/
theorem zw_u {Y Y1 : qz_Z} {q c t : Int} (hV : zV Y) (q0 : 0 ≤ q) (q1 : q < 60) (h : ∀ j, j < 3800 → Y1 2 0 0 j = Y 2 0 0 j) : zf_423 Y1 q c t = zf_423 Y q c t := by
  have p := zVr_47_0 (x := q) (a := 2010 + 16 * q) hV q0 q1 rfl
  have s := zVr_44_1 (x := Y 2 0 0 (2010 + 16 * q)) (a := 201 + 20 * Y 2 0 0 (2010 + 16 * q)) hV p.1 (by omega) rfl
  unfold zf_423 zf_416 zf_421
  rw [h (2010 + 16 * q) (by omega), h (201 + 20 * Y 2 0 0 (2010 + 16 * q)) (by omega), h (113 + 5 * Y 2 0 0 (201 + 20 * Y 2 0 0 (2010 + 16 * q))) (by omega), h (114 + 5 * Y 2 0 0 (201 + 20 * Y 2 0 0 (2010 + 16 * q))) (by omega), h (2021 + 16 * q) (by omega), h (2018 + 16 * q) (by omega), h (2024 + 16 * q) (by omega), h (2025 + 16 * q) (by omega), h (2022 + 16 * q) (by omega), h (2016 + 16 * q) (by omega), h (2023 + 16 * q) (by omega), h (40 + q) (by omega)]
/-- what one bears -/
def zsv (Y : qz_Z) (q c v t : Int) : Int := shv v (zf_423 Y q c 0) (zwm Y q c) (zf_423 Y q c 2) t
theorem zl408_t {Y Y1 : qz_Z} {i q c p v t : Int} {m : Nat} (hV : zV Y) (q0 : 0 ≤ q) (q1 : q < 60) (hK : shK v (zf_423 Y q c 0) (zwm Y q c) (zf_423 Y q c 2)) (t0 : 0 ≤ t) (t1 : t ≤ 2) (h : ∀ j, j < 3800 → Y1 2 0 0 j = Y 2 0 0 j) : zl_408_1 i q c p v (m + 1) Y1 t = zl_408_1 i q c p v m (zu Y1 2 0 0 (3854 + 8 * i + t) (zsv Y q c v t)) (t + 1) := by
  have e0 := zw_u (c := c) (t := 0) hV q0 q1 h
  have e1 := zw_u (c := c) (t := 1) hV q0 q1 h
  have e2 := zw_u (c := c) (t := 2) hV q0 q1 h
  have z1 : ∀ {α β : Type} (x : α) (k : α → β), zlet x k = k x := fun _ _ => rfl
  have st : zl_408_1 i q c p v (m + 1) Y1 t = if 3 ≤ t then (Y1, t) else (if (zf_423 Y1 q c 0 + zf_423 Y1 q c 1) + zf_423 Y1 q c 2 ≠ 0 then zl_408_1 i q c p v m (zu Y1 2 0 0 (3854 + 8 * i + t) (zf_418 Y1 v (zf_423 Y1 q c 0) (zf_423 Y1 q c 1) (zf_423 Y1 q c 2) t)) (t + 1) else zl_408_1 i q c p v m (zu Y1 2 0 0 (3854 + 8 * i + t) (zf_418 Y1 v (zf_423 Y1 q c 0) 1 (zf_423 Y1 q c 2) t)) (t + 1)) := rfl
  rw [st, if_neg (show ¬ 3 ≤ t by omega), e0, e1, e2]
  have hK2 := hK
  unfold zsv
  unfold zwm at hK2 ⊢
  by_cases s : zf_423 Y q c 0 + zf_423 Y q c 1 + zf_423 Y q c 2 = 0
  · rw [if_pos s] at hK2
    rw [if_neg (show ¬ (zf_423 Y q c 0 + zf_423 Y q c 1 + zf_423 Y q c 2 ≠ 0) by omega), if_pos s, sh_rv hK2 ⟨t0, t1⟩]
  · rw [if_neg s] at hK2
    rw [if_pos (show zf_423 Y q c 0 + zf_423 Y q c 1 + zf_423 Y q c 2 ≠ 0 from s), if_neg s, sh_rv hK2 ⟨t0, t1⟩]
theorem zl408_e {Y Y1 : qz_Z} {i q c p v : Int} (hV : zV Y) (i0 : 0 ≤ i) (q0 : 0 ≤ q) (q1 : q < 60) (hK : shK v (zf_423 Y q c 0) (zwm Y q c) (zf_423 Y q c 2)) (h : ∀ j, j < 3800 → Y1 2 0 0 j = Y 2 0 0 j) : (zl_408_1 i q c p v 4 Y1 0).1 = zu (zu (zu Y1 2 0 0 (3854 + 8 * i) (zsv Y q c v 0)) 2 0 0 (3855 + 8 * i) (zsv Y q c v 1)) 2 0 0 (3856 + 8 * i) (zsv Y q c v 2) := by
  have f0 := zl408_t (i := i) (p := p) (t := 0) (m := 3) hV q0 q1 hK (by omega) (by omega) h
  have h1 : ∀ j, j < 3800 → zu Y1 2 0 0 (3854 + 8 * i + 0) (zsv Y q c v 0) 2 0 0 j = Y 2 0 0 j := fun j hj => (zun (by omega)).trans (h j hj)
  have f1 := zl408_t (i := i) (p := p) (t := 0 + 1) (m := 2) hV q0 q1 hK (by omega) (by omega) h1
  have h2 : ∀ j, j < 3800 → zu (zu Y1 2 0 0 (3854 + 8 * i + 0) (zsv Y q c v 0)) 2 0 0 (3854 + 8 * i + (0 + 1)) (zsv Y q c v (0 + 1)) 2 0 0 j = Y 2 0 0 j := fun j hj => (zun (by omega)).trans (h1 j hj)
  have f2 := zl408_t (i := i) (p := p) (t := 0 + 1 + 1) (m := 1) hV q0 q1 hK (by omega) (by omega) h2
  rw [show (4 : Nat) = 3 + 1 from rfl, f0, show (3 : Nat) = 2 + 1 from rfl, f1, show (2 : Nat) = 1 + 1 from rfl, f2]
  rw [show 3854 + 8 * i + 0 = 3854 + 8 * i by omega, show 3854 + 8 * i + (0 + 1) = 3855 + 8 * i by omega, show 3854 + 8 * i + (0 + 1 + 1) = 3856 + 8 * i by omega, show (0 : Int) + 1 + 1 = 2 from rfl, show (0 : Int) + 1 = 1 from rfl]
  rfl
theorem shv_b {c w0 w1 w2 t : Int} (h : shK c w0 w1 w2) : 0 ≤ shv c w0 w1 w2 t ∧ shv c w0 w1 w2 t ≤ 1000000 := by
  have b := shK_b h t
  unfold shv
  split <;> omega
set_option maxRecDepth 16000 in
theorem rr_7 {b i n : Int} {Z Y : qz_Z} (hRa : zR b Z Y) (hV : zV Y) (hD1 : zD1 b Z Y) (hD4 : zD4 b Z Y) (i0 : 0 ≤ i) (i1 : i < 12) (hc : 0 ≤ Y 2 0 0 (3851 + 8 * i) ∧ Y 2 0 0 (3851 + 8 * i) ≤ 3) (hst : Y 2 0 0 (2019 + 16 * Y 2 0 0 (3850 + 8 * i)) = 2) (hW : zWq Y (Y 2 0 0 (3850 + 8 * i))) (hpr : 0 ≤ Y 2 0 0 (113 + 5 * Y 2 0 0 (201 + 20 * Y 2 0 0 (2010 + 16 * Y 2 0 0 (3850 + 8 * i))))) (hU : 0 ≤ Y 2 0 0 (1810 + 2 * Y 2 0 0 (3850 + 8 * i)) ∧ Y 2 0 0 (1810 + 2 * Y 2 0 0 (3850 + 8 * i)) ≤ 2147483647) (hX : -2147483648 ≤ Y 2 0 0 (1413 + 12 * Y 2 0 0 (2011 + 16 * Y 2 0 0 (3850 + 8 * i))) ∧ Y 2 0 0 (1413 + 12 * Y 2 0 0 (2011 + 16 * Y 2 0 0 (3850 + 8 * i))) ≤ 2147483647) (hG0 : -2147483648 ≤ Y 2 0 0 (3820 + 5 * Y 2 0 0 (200 + 20 * Y 2 0 0 (2010 + 16 * Y 2 0 0 (3850 + 8 * i)))) ∧ Y 2 0 0 (3820 + 5 * Y 2 0 0 (200 + 20 * Y 2 0 0 (2010 + 16 * Y 2 0 0 (3850 + 8 * i)))) ≤ 2147483647) (hG3 : -2147483648 ≤ Y 2 0 0 (3823 + 5 * Y 2 0 0 (200 + 20 * Y 2 0 0 (2010 + 16 * Y 2 0 0 (3850 + 8 * i)))) ∧ Y 2 0 0 (3823 + 5 * Y 2 0 0 (200 + 20 * Y 2 0 0 (2010 + 16 * Y 2 0 0 (3850 + 8 * i)))) ≤ 2147483647) : zR b (zf_7 Z n b b i).1 (zf_408 Y i) ∧ zV (zf_408 Y i) ∧ zFc [1112, 1400, 4202, 4205, 4503, 4504, 4513, 4719, 5300, 5301, 5302, 5303, 5304, 5402, 5403, 5404, 5405, 5406] b Z (zf_7 Z n b b i).1 ∧ yFr [1112, 1400, 4202, 4205, 4503, 4513, 4719, 5300, 5301, 5302, 5303, 5304, 5402, 5403, 5404, 5405, 5406] Y (zf_408 Y i) ∧ ((zf_7 Z n b b i).1 = zu Z 54 b i 2 1 ∨ ∃ (Z14 : qz_Z) (v s0 s1 s2 : Int), (∀ (k : Nat) (b' i' j' : Int), k ≠ 200 → Z14 k b' i' j' = Z k b' i' j') ∧ 1 ≤ v ∧ v ≤ 399960 ∧ (zf_7 Z n b b i).1 = zf_9007 Z14 b i (Y 2 0 0 (3850 + 8 * i)) v s0 s1 s2) := by
  have q := zVr_54_0 (x := i) (a := 3850 + 8 * i) hV i0 i1 rfl
  have c0 := zRl_54_0 (x := i) (a := 3850 + 8 * i) hRa i0 i1 rfl
  have c1 := zRl_54_1 (x := i) (a := 3851 + 8 * i) hRa i0 i1 rfl
  have aw := rr_2 hRa hV hD1 hD4 q.1 (by omega) hc.1 hc.2 hst hW
  have ab := rr_2b (Y := Y) hc.1 hc.2 hW
  have hv : zf_2 Z b b (Z 54 b i 0) (Z 54 b i 1) = zf_398 Y (Y 2 0 0 (3850 + 8 * i)) (Y 2 0 0 (3851 + 8 * i)) := by
    rw [c0, c1]
    exact aw
  rw [zf7_e hv, zf408_e rfl]
  generalize zf_398 Y (Y 2 0 0 (3850 + 8 * i)) (Y 2 0 0 (3851 + 8 * i)) = v at ab ⊢
  by_cases v0 : v = 0
  · rw [if_neg (show ¬ v ≠ 0 from fun h => h v0), if_neg (show ¬ v ≠ 0 from fun h => h v0)]
    have w : zW [] [1112, 1400, 4202, 4205, 4503, 4504, 4513, 4719, 5300, 5301, 5302, 5303, 5304, 5402, 5403, 5404, 5405, 5406] [1112, 1400, 4202, 4205, 4503, 4513, 4719, 5300, 5301, 5302, 5303, 5304, 5402, 5403, 5404, 5405, 5406] b Z Y _ _ := zW_n (v' := 1) (v := 1) (zW_0 (zRx_0 hRa) hV) (ac_54_2 i0 i1 rfl) (zvn_54_2 i0 i1 rfl) rfl rfl rfl rfl
    obtain ⟨u1, u2, u3, u4⟩ := zW_1 w
    exact ⟨u1, u2, u3, u4, .inl rfl⟩
  · rw [if_pos v0, if_pos v0]
    have hz6 : ∀ (k : Nat) (b' i' j' : Int), k ≠ 200 → zzi Z n k b' i' j' = Z k b' i' j' := fun k b' i' j' hk => if_neg (fun x => hk x.1)
    have n200 : ∀ k : Nat, zhall k = true → k ≠ 200 := fun k hk e => by
      subst e
      cases hk
    have hR6 : zR b (zzi Z n) Y := zR_e hRa (fun k i' j' hk => hz6 k b i' j' (n200 k hk)) (fun _ => rfl)
    have hD16 : zD1 b (zzi Z n) Y := fun x h0 h1 => (hz6 47 b x 18 (by decide)).trans (hD1 x h0 h1)
    have hD46 : zD4 b (zzi Z n) Y := fun x h0 h1 h2 => ⟨(hz6 47 b x 11 (by decide)).trans (hD4 x h0 h1 h2).1, (hz6 47 b x 12 (by decide)).trans (hD4 x h0 h1 h2).2⟩
    have hK := zw_K (a := v) hpr hc.1 hc.2 hW ab
    have e10 := rr_1010 (n := n + 1) (a := v) (x := n) hR6 hV hD16 hD46 q.1 (by omega) hc.1 hc.2 hst hW
    have e9 : zf_1009 (zzi Z n) (n + 1) v (zf_423 Y (Y 2 0 0 (3850 + 8 * i)) (Y 2 0 0 (3851 + 8 * i)) 0) (zwm Y (Y 2 0 0 (3850 + 8 * i)) (Y 2 0 0 (3851 + 8 * i))) (zf_423 Y (Y 2 0 0 (3850 + 8 * i)) (Y 2 0 0 (3851 + 8 * i)) 2) n = (shM (zzi (shW (zzi Z n) (n + 1) (zf_423 Y (Y 2 0 0 (3850 + 8 * i)) (Y 2 0 0 (3851 + 8 * i)) 0) (zwm Y (Y 2 0 0 (3850 + 8 * i)) (Y 2 0 0 (3851 + 8 * i))) (zf_423 Y (Y 2 0 0 (3850 + 8 * i)) (Y 2 0 0 (3851 + 8 * i)) 2)) (n + 1 + 1)) 200 n (sh_e (shQ v (zf_423 Y (Y 2 0 0 (3850 + 8 * i)) (Y 2 0 0 (3851 + 8 * i)) 0) (zwm Y (Y 2 0 0 (3850 + 8 * i)) (Y 2 0 0 (3851 + 8 * i))) (zf_423 Y (Y 2 0 0 (3850 + 8 * i)) (Y 2 0 0 (3851 + 8 * i)) 2)) (shR v (zf_423 Y (Y 2 0 0 (3850 + 8 * i)) (Y 2 0 0 (3851 + 8 * i)) 0) (zwm Y (Y 2 0 0 (3850 + 8 * i)) (Y 2 0 0 (3851 + 8 * i))) (zf_423 Y (Y 2 0 0 (3850 + 8 * i)) (Y 2 0 0 (3851 + 8 * i)) 2)) (shL v (zf_423 Y (Y 2 0 0 (3850 + 8 * i)) (Y 2 0 0 (3851 + 8 * i)) 0) (zwm Y (Y 2 0 0 (3850 + 8 * i)) (Y 2 0 0 (3851 + 8 * i))) (zf_423 Y (Y 2 0 0 (3850 + 8 * i)) (Y 2 0 0 (3851 + 8 * i)) 2))), n + 1 + 2) := if_pos (by
      rw [shK_A hK]
      exact hK.2.2.1.1)
    rw [c0, hz6 54 b i 1 (by decide), c1, e10, e9]
    have hz14 : ∀ (k : Nat) (b' i' j' : Int), k ≠ 200 → shM (zzi (shW (zzi Z n) (n + 1) (zf_423 Y (Y 2 0 0 (3850 + 8 * i)) (Y 2 0 0 (3851 + 8 * i)) 0) (zwm Y (Y 2 0 0 (3850 + 8 * i)) (Y 2 0 0 (3851 + 8 * i))) (zf_423 Y (Y 2 0 0 (3850 + 8 * i)) (Y 2 0 0 (3851 + 8 * i)) 2)) (n + 1 + 1)) 200 n (sh_e (shQ v (zf_423 Y (Y 2 0 0 (3850 + 8 * i)) (Y 2 0 0 (3851 + 8 * i)) 0) (zwm Y (Y 2 0 0 (3850 + 8 * i)) (Y 2 0 0 (3851 + 8 * i))) (zf_423 Y (Y 2 0 0 (3850 + 8 * i)) (Y 2 0 0 (3851 + 8 * i)) 2)) (shR v (zf_423 Y (Y 2 0 0 (3850 + 8 * i)) (Y 2 0 0 (3851 + 8 * i)) 0) (zwm Y (Y 2 0 0 (3850 + 8 * i)) (Y 2 0 0 (3851 + 8 * i))) (zf_423 Y (Y 2 0 0 (3850 + 8 * i)) (Y 2 0 0 (3851 + 8 * i)) 2)) (shL v (zf_423 Y (Y 2 0 0 (3850 + 8 * i)) (Y 2 0 0 (3851 + 8 * i)) 0) (zwm Y (Y 2 0 0 (3850 + 8 * i)) (Y 2 0 0 (3851 + 8 * i))) (zf_423 Y (Y 2 0 0 (3850 + 8 * i)) (Y 2 0 0 (3851 + 8 * i)) 2))) k b' i' j' = Z k b' i' j' := fun k b' i' j' hk => by
      rw [shM_ne (fun x => hk x.1)]
      refine (if_neg (fun x => hk x.1)).trans ?_
      unfold shW
      rw [zu_ne rfl (fun x => hk x.1), zu_ne rfl (fun x => hk x.1), zu_ne rfl (fun x => hk x.1)]
      exact (if_neg (fun x => hk x.1)).trans (hz6 k b' i' j' hk)
    have s3 : zS3 n (zsv Y (Y 2 0 0 (3850 + 8 * i)) (Y 2 0 0 (3851 + 8 * i)) v 0) (zsv Y (Y 2 0 0 (3850 + 8 * i)) (Y 2 0 0 (3851 + 8 * i)) v 1) (zsv Y (Y 2 0 0 (3850 + 8 * i)) (Y 2 0 0 (3851 + 8 * i)) v 2) (shM (zzi (shW (zzi Z n) (n + 1) (zf_423 Y (Y 2 0 0 (3850 + 8 * i)) (Y 2 0 0 (3851 + 8 * i)) 0) (zwm Y (Y 2 0 0 (3850 + 8 * i)) (Y 2 0 0 (3851 + 8 * i))) (zf_423 Y (Y 2 0 0 (3850 + 8 * i)) (Y 2 0 0 (3851 + 8 * i)) 2)) (n + 1 + 1)) 200 n (sh_e (shQ v (zf_423 Y (Y 2 0 0 (3850 + 8 * i)) (Y 2 0 0 (3851 + 8 * i)) 0) (zwm Y (Y 2 0 0 (3850 + 8 * i)) (Y 2 0 0 (3851 + 8 * i))) (zf_423 Y (Y 2 0 0 (3850 + 8 * i)) (Y 2 0 0 (3851 + 8 * i)) 2)) (shR v (zf_423 Y (Y 2 0 0 (3850 + 8 * i)) (Y 2 0 0 (3851 + 8 * i)) 0) (zwm Y (Y 2 0 0 (3850 + 8 * i)) (Y 2 0 0 (3851 + 8 * i))) (zf_423 Y (Y 2 0 0 (3850 + 8 * i)) (Y 2 0 0 (3851 + 8 * i)) 2)) (shL v (zf_423 Y (Y 2 0 0 (3850 + 8 * i)) (Y 2 0 0 (3851 + 8 * i)) 0) (zwm Y (Y 2 0 0 (3850 + 8 * i)) (Y 2 0 0 (3851 + 8 * i))) (zf_423 Y (Y 2 0 0 (3850 + 8 * i)) (Y 2 0 0 (3851 + 8 * i)) 2)))) := ⟨(shM_at (by omega) (by omega)).trans (sh_cv hK (by omega)), (shM_at (by omega) (by omega)).trans (sh_cv hK (by omega)), (shM_at (by omega) (by omega)).trans (sh_cv hK (by omega))⟩
    revert hz14 s3
    generalize shM (zzi (shW (zzi Z n) (n + 1) (zf_423 Y (Y 2 0 0 (3850 + 8 * i)) (Y 2 0 0 (3851 + 8 * i)) 0) (zwm Y (Y 2 0 0 (3850 + 8 * i)) (Y 2 0 0 (3851 + 8 * i))) (zf_423 Y (Y 2 0 0 (3850 + 8 * i)) (Y 2 0 0 (3851 + 8 * i)) 2)) (n + 1 + 1)) 200 n (sh_e (shQ v (zf_423 Y (Y 2 0 0 (3850 + 8 * i)) (Y 2 0 0 (3851 + 8 * i)) 0) (zwm Y (Y 2 0 0 (3850 + 8 * i)) (Y 2 0 0 (3851 + 8 * i))) (zf_423 Y (Y 2 0 0 (3850 + 8 * i)) (Y 2 0 0 (3851 + 8 * i)) 2)) (shR v (zf_423 Y (Y 2 0 0 (3850 + 8 * i)) (Y 2 0 0 (3851 + 8 * i)) 0) (zwm Y (Y 2 0 0 (3850 + 8 * i)) (Y 2 0 0 (3851 + 8 * i))) (zf_423 Y (Y 2 0 0 (3850 + 8 * i)) (Y 2 0 0 (3851 + 8 * i)) 2)) (shL v (zf_423 Y (Y 2 0 0 (3850 + 8 * i)) (Y 2 0 0 (3851 + 8 * i)) 0) (zwm Y (Y 2 0 0 (3850 + 8 * i)) (Y 2 0 0 (3851 + 8 * i))) (zf_423 Y (Y 2 0 0 (3850 + 8 * i)) (Y 2 0 0 (3851 + 8 * i)) 2))) = Z14
    intro hz14 s3
    have hR14 : zR b Z14 Y := zR_e hRa (fun k i' j' hk => hz14 k b i' j' (n200 k hk)) (fun _ => rfl)
    have f14 : zFc [1112, 1400, 4202, 4205, 4503, 4504, 4513, 4719, 5300, 5301, 5302, 5303, 5304, 5402, 5403, 5404, 5405, 5406] b Z Z14 := ⟨fun k i' j' hk _ => hz14 k b i' j' (n200 k hk), fun k c' i' j' h => hz14 k c' i' j' (fun e => by
      subst e
      rcases h with h | h
      · cases h.1
      · cases h)⟩
    have hl : ∀ j, j < 3800 → zu (zu Y 2 0 0 (3852 + 8 * i) 2) 2 0 0 (3853 + 8 * i) v 2 0 0 j = Y 2 0 0 j := fun j hj => (zun (by omega)).trans (zun (by omega))
    rw [zb7 s3, zl408_e hV i0 q.1 (by omega) hK hl, zg408_e]
    have b0 : 0 ≤ (zsv Y (Y 2 0 0 (3850 + 8 * i)) (Y 2 0 0 (3851 + 8 * i)) v 0) ∧ (zsv Y (Y 2 0 0 (3850 + 8 * i)) (Y 2 0 0 (3851 + 8 * i)) v 0) ≤ 1000000 := shv_b hK
    obtain ⟨r1, r2, r3, r4⟩ := rr_9007 (C := zf_9007 Z14 b i (Y 2 0 0 (3850 + 8 * i)) v (zsv Y (Y 2 0 0 (3850 + 8 * i)) (Y 2 0 0 (3851 + 8 * i)) v 0) (zsv Y (Y 2 0 0 (3850 + 8 * i)) (Y 2 0 0 (3851 + 8 * i)) v 1) (zsv Y (Y 2 0 0 (3850 + 8 * i)) (Y 2 0 0 (3851 + 8 * i)) v 2)) (M := zf_9408 Y i (Y 2 0 0 (3850 + 8 * i)) v (zsv Y (Y 2 0 0 (3850 + 8 * i)) (Y 2 0 0 (3851 + 8 * i)) v 0) (zsv Y (Y 2 0 0 (3850 + 8 * i)) (Y 2 0 0 (3851 + 8 * i)) v 1) (zsv Y (Y 2 0 0 (3850 + 8 * i)) (Y 2 0 0 (3851 + 8 * i)) v 2)) hR14 hV i0 i1 q.1 (by omega) (by omega) (by omega) b0.1 b0.2 hU.1 hU.2 hX.1 hX.2 hG0.1 hG0.2 hG3.1 hG3.2 rfl rfl
    exact ⟨r1, r2, zFc_t f14 r3 (by decide), r4, .inr ⟨Z14, v, _, _, _, hz14, by omega, ab.2, rfl⟩⟩
