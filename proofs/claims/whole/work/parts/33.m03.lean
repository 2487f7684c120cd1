/- yX12_mGone -/
def zf_431 (Z : qz_Z) (a1 : Int) (a2 : Int) : qz_Z := (if (Z 2 0 0 (210 + 20 * a1)) ≠ 1 then (zlet (zu Z 2 0 0 (206 + 20 * a1) (w3 ((Z 2 0 0 (206 + 20 * a1)) + (Z 2 0 0 (204 + 20 * a1))))) (fun Z6 => (zlet (zu Z6 2 0 0 (204 + 20 * a1) 0) (fun Z7 => (zlet (zu Z7 2 0 0 (205 + 20 * a1) 0) (fun Z8 => (zlet (zu Z8 2 0 0 (210 + 20 * a1) a2) (fun Z9 => (zlet (zf_478 Z9 a1) (fun Z10 => (zlet2 (zl_431_1 a1 61 Z10 0) (fun Z12 y11 => Z12)))))))))))) else (zlet (zf_305 Z a1) (fun v14 => (if v14 = (-1) then (zlet (zu Z 2 0 0 (206 + 20 * a1) (w3 ((Z 2 0 0 (206 + 20 * a1)) + (Z 2 0 0 (204 + 20 * a1))))) (fun Z19 => (zlet (zu Z19 2 0 0 (204 + 20 * a1) 0) (fun Z20 => (zlet (zu Z20 2 0 0 (205 + 20 * a1) 0) (fun Z21 => (zlet (zu Z21 2 0 0 (210 + 20 * a1) a2) (fun Z22 => (zlet (zf_478 Z22 a1) (fun Z23 => (zlet2 (zl_431_1 a1 61 Z23 0) (fun Z25 y24 => Z25)))))))))))) else (zlet (zf_306 Z v14 a1) (fun v27 => (zlet (zf_312 Z v14 v27) (fun Z28 => (zlet (zu Z28 2 0 0 (206 + 20 * a1) (w3 ((Z28 2 0 0 (206 + 20 * a1)) + (Z28 2 0 0 (204 + 20 * a1))))) (fun Z32 => (zlet (zu Z32 2 0 0 (204 + 20 * a1) 0) (fun Z33 => (zlet (zu Z33 2 0 0 (205 + 20 * a1) 0) (fun Z34 => (zlet (zu Z34 2 0 0 (210 + 20 * a1) a2) (fun Z35 => (zlet (zf_478 Z35 a1) (fun Z36 => (zlet2 (zl_431_1 a1 61 Z36 0) (fun Z38 y37 => Z38))))))))))))))))))))
theorem sp_431 {s : zSM} {Z : qz_Z} {ν : qz_N} (hZ : zM s Z) {a1 : Int} (ga1 : 0 ≤ a1 ∧ a1 ≤ 47) {a2 : Int} (ga2 : 3 ≤ a2 ∧ a2 ≤ 4) (hM : s.2 + 61 ≤ 1000000000) : ∃ P : qz_Z, P = zf_431 Z a1 a2 ∧ (qf_431 [.inr (.inr (some (1, 0, 0))), .inl (i3 a1), .inl (i3 a2)] (zm Z ν) = some (zm P ν, .inl none) ∧ zM (zb s 61) P ∧ zC [2] Z P ∧ zU [] Z P) := by sorry
/- yX12_dump -/
def zy_338 (Z : qz_Z) (dm : qz_Z → Int → Int → Int → Int → Int → Int → Int → qz_Z) (a1 : Int) : qz_Z × Int := (if a1 < 0 then (zlet (zu Z 1 0 0 2 1) (fun Z5 => (Z5, 0))) else (if ((Z 2 0 0 102) - 1) < a1 then (zlet (zu Z 1 0 0 2 1) (fun Z8 => (Z8, 0))) else (zlet (zu Z 1 0 0 2 0) (fun Z9 => (if 1 < (Z9 2 0 0 (210 + 20 * a1)) then (zlet (zu Z9 1 0 0 2 2) (fun Z12 => (Z12, 0))) else (zlet (zu Z9 1 0 0 2 0) (fun Z13 => (zlet (dm Z13 10 a1 0 0 0 0 0) (fun Z20 => (zlet (zf_431 Z20 a1 4) (fun Z21 => (Z21, (Z20 2 0 0 (204 + 20 * a1))))))))))))))
theorem sy_338 {s : zSM} {Z : qz_Z} {ν : qz_N} (hZ : zM s Z) (gq : Z 1 0 0 35 = 0) (hM : s.2 + 61 ≤ 1000000000) {a1 : Int} (ga1 : -2147483648 ≤ a1 ∧ a1 ≤ 2147483647) {dk : qz_Z → qz_Z} {dm : qz_Z → Int → Int → Int → Int → Int → Int → Int → qz_Z} {ν1 : qz_N} (hdm : zDm s ν ν1 Z dk dm) : ∃ (Z1 : qz_Z) (ν2 : qz_N) (v : Int), (Z1, v) = zy_338 Z dm a1 ∧ (ν2 = ν ∨ ν2 = ν1) ∧ qf_338 [.inr (.inr (some (1, 0, 0))), .inl (i3 a1)] (zm Z ν) = some (zm Z1 ν2, .inl (some (.inl (i3 v)))) ∧ (fun Z1 => zM (zb s 61) Z1 ∧ zC [1, 2, 101, 102, 200] Z Z1 ∧ zU [] Z Z1) Z1 := by
  obtain ⟨P, hP⟩ := zx (zy_338 Z dm a1)
  refine zc_Y (Q := fun Z1 => zM (zb s 61) Z1 ∧ zC [1, 2, 101, 102, 200] Z Z1 ∧ zU [] Z Z1) hP (fw_338 (i3 a1) _ _ ?_)
  replace hP : zE P (zy_338 Z dm a1) := hP
  unfold zy_338 at hP
  have r1 := zM_k hZ 1 0 0 35 (lo := 0) (hi := 1) (by decide) rfl
  have r2 := zM_k hZ 1 0 0 34 (lo := 0) (hi := 8) (by decide) rfl
  have r3 := zM_f hZ 1 0 0 37
  refine wz_br (i3L (rfl : i3 a1 = i3 a1) (show (0 : Int32) = i3 0 from rfl) (by omega) (by omega) (by omega) (by omega)) (fun h4 => ?_) (fun h4 => ?_)
  · replace hP := zE_p hP h4
    obtain ⟨Z5, hZ5⟩ := zx (zu Z 1 0 0 2 1)
    replace hP := zl_e hP hZ5
    have hZ5I := zM_u hZ hZ5 (lo := -2147483648) (hi := 2147483647) (by decide) rfl (by omega) ⟨by decide, by decide⟩ (Or.inr (by decide)) rfl
    have hZ5U : zU [] Z Z5 := zU_u zU_r hZ5 (Or.inl rfl)
    have hZ5K : zC [1, 2, 101, 102, 200] Z Z5 := zC_u zC_r hZ5 (by decide)
    intro μ9 e9
    replace e9 := e9.trans (zm_wI (Z := Z) (ν := ν) hZ5 (show ((0 : Nat) : Int) = 0 from rfl) (show ((0 : Nat) : Int) = 0 from rfl) (show ((2 : Nat) : Int) = 2 from rfl) (show (1 : Int32) = i3 1 from rfl))
    subst e9
    exact zlY hP (show (0 : Int32) = i3 0 from rfl) (.inl rfl) ⟨(zmw (a := 0) (c := 61) hZ5I (Nat.le_of_ble_eq_true rfl)), hZ5K, hZ5U⟩
  · replace hP := zE_n hP h4
    have r6 := zM_k hZ 2 0 0 102 (lo := 0) (hi := 48) (by decide) rfl
    refine wz_br (i3L (i3S (zm_rd (Z := Z) (ν := ν) (k := 2) (show ((0 : Nat) : Int) = 0 from rfl) (show ((0 : Nat) : Int) = 0 from rfl) (show ((102 : Nat) : Int) = 102 from rfl)) (show (1 : Int32) = i3 1 from rfl)) (rfl : i3 a1 = i3 a1) (by omega) (by omega) (by omega) (by omega)) (fun h7 => ?_) (fun h7 => ?_)
    · replace hP := zE_p hP h7
      obtain ⟨Z8, hZ8⟩ := zx (zu Z 1 0 0 2 1)
      replace hP := zl_e hP hZ8
      have hZ8I := zM_u hZ hZ8 (lo := -2147483648) (hi := 2147483647) (by decide) rfl (by omega) ⟨by decide, by decide⟩ (Or.inr (by decide)) rfl
      have hZ8U : zU [] Z Z8 := zU_u zU_r hZ8 (Or.inl rfl)
      have hZ8K : zC [1, 2, 101, 102, 200] Z Z8 := zC_u zC_r hZ8 (by decide)
      intro μ9 e9
      replace e9 := e9.trans (zm_wI (Z := Z) (ν := ν) hZ8 (show ((0 : Nat) : Int) = 0 from rfl) (show ((0 : Nat) : Int) = 0 from rfl) (show ((2 : Nat) : Int) = 2 from rfl) (show (1 : Int32) = i3 1 from rfl))
      subst e9
      exact zlY hP (show (0 : Int32) = i3 0 from rfl) (.inl rfl) ⟨(zmw (a := 0) (c := 61) hZ8I (Nat.le_of_ble_eq_true rfl)), hZ8K, hZ8U⟩
    · replace hP := zE_n hP h7
      obtain ⟨Z9, hZ9⟩ := zx (zu Z 1 0 0 2 0)
      replace hP := zl_e hP hZ9
      have hZ9I := zM_0 hZ hZ9 (by decide) (Or.inr (by decide))
      have hZ9U : zU [] Z Z9 := zU_u zU_r hZ9 (Or.inl rfl)
      have hZ9K : zC [1, 2, 101, 102, 200] Z Z9 := zC_u zC_r hZ9 (by decide)
      intro μ9 e9
      replace e9 := e9.trans (zm_wI (Z := Z) (ν := ν) hZ9 (show ((0 : Nat) : Int) = 0 from rfl) (show ((0 : Nat) : Int) = 0 from rfl) (show ((2 : Nat) : Int) = 2 from rfl) (show (0 : Int32) = i3 0 from rfl))
      subst e9
      refine wz_i0 (i3O (n := 4400) (i3A (i3A (show (200 : Int32) = i3 200 from rfl) (i3M (show (20 : Int32) = i3 20 from rfl) (rfl : i3 a1 = i3 a1))) (show (10 : Int32) = i3 10 from rfl)) (by omega) (by omega) (by omega)) ?_
      have r10 := zM_k hZ9I 2 0 0 (210 + 20 * a1) (lo := 0) (hi := 4) (by decide) (zs_200_10 (x := a1) (by omega) (by omega) (by omega))
      refine wz_br (i3L (show (1 : Int32) = i3 1 from rfl) (zm_rd (Z := Z9) (ν := ν) (k := 2) (show ((0 : Nat) : Int) = 0 from rfl) (show ((0 : Nat) : Int) = 0 from rfl) (i3I (y := (210 + 20 * a1)) (i3A (i3A (show (200 : Int32) = i3 200 from rfl) (i3M (show (20 : Int32) = i3 20 from rfl) (rfl : i3 a1 = i3 a1))) (show (10 : Int32) = i3 10 from rfl)) (by omega) (by omega) (by omega))) (by omega) (by omega) (by omega) (by omega)) (fun h11 => ?_) (fun h11 => ?_)
      · replace hP := zE_p hP h11
        obtain ⟨Z12, hZ12⟩ := zx (zu Z9 1 0 0 2 2)
        replace hP := zl_e hP hZ12
        have hZ12I := zM_u hZ9I hZ12 (lo := -2147483648) (hi := 2147483647) (by decide) rfl (by omega) ⟨by decide, by decide⟩ (Or.inr (by decide)) rfl
        have hZ12U : zU [] Z Z12 := zU_u hZ9U hZ12 (Or.inl rfl)
        have hZ12K : zC [1, 2, 101, 102, 200] Z Z12 := zC_u hZ9K hZ12 (by decide)
        intro μ9 e9
        replace e9 := e9.trans (zm_wI (Z := Z9) (ν := ν) hZ12 (show ((0 : Nat) : Int) = 0 from rfl) (show ((0 : Nat) : Int) = 0 from rfl) (show ((2 : Nat) : Int) = 2 from rfl) (show (2 : Int32) = i3 2 from rfl))
        subst e9
        exact zlY hP (show (0 : Int32) = i3 0 from rfl) (.inl rfl) ⟨(zmw (a := 0) (c := 61) hZ12I (Nat.le_of_ble_eq_true rfl)), hZ12K, hZ12U⟩
      · replace hP := zE_n hP h11
        obtain ⟨Z13, hZ13⟩ := zx (zu Z9 1 0 0 2 0)
        replace hP := zl_e hP hZ13
        have hZ13I := zM_0 hZ9I hZ13 (by decide) (Or.inr (by decide))
        have hZ13U : zU [] Z Z13 := zU_u hZ9U hZ13 (Or.inl rfl)
        have hZ13K : zC [1, 2, 101, 102, 200] Z Z13 := zC_u hZ9K hZ13 (by decide)
        intro μ9 e9
        replace e9 := e9.trans (zm_wI (Z := Z9) (ν := ν) hZ13 (show ((0 : Nat) : Int) = 0 from rfl) (show ((0 : Nat) : Int) = 0 from rfl) (show ((2 : Nat) : Int) = 2 from rfl) (show (0 : Int32) = i3 0 from rfl))
        subst e9
        have r14 := zM_k hZ13I 1 0 0 35 (lo := 0) (hi := 1) (by decide) rfl
        have q15 := (zu_ne (k' := 1) (b' := 0) (i' := 0) (j' := 35) hZ13 (fun q => absurd q.2.2.2 (by decide))).trans (zu_ne (k' := 1) (b' := 0) (i' := 0) (j' := 35) hZ9 (fun q => absurd q.2.2.2 (by decide)))
        refine wz_i0 (Eq.trans (i3NE (zm_rd (Z := Z13) (ν := ν) (k := 1) (show ((0 : Nat) : Int) = 0 from rfl) (show ((0 : Nat) : Int) = 0 from rfl) (show ((35 : Nat) : Int) = 35 from rfl)) (show (0 : Int32) = i3 0 from rfl) (by omega) (by omega) (by omega) (by omega)) (decide_eq_false (by omega))) ?_
        have r16 := zM_k hZ13I 1 0 0 34 (lo := 0) (hi := 8) (by decide) rfl
        have q17 := (zu_ne (k' := 1) (b' := 0) (i' := 0) (j' := 34) hZ13 (fun q => absurd q.2.2.2 (by decide))).trans (zu_ne (k' := 1) (b' := 0) (i' := 0) (j' := 34) hZ9 (fun q => absurd q.2.2.2 (by decide)))
        have r18 := zM_f hZ13I 1 0 0 37
        have q19 := (zu_ne (k' := 1) (b' := 0) (i' := 0) (j' := 37) hZ13 (fun q => absurd q.2.2.2 (by decide))).trans (zu_ne (k' := 1) (b' := 0) (i' := 0) (j' := 37) hZ9 (fun q => absurd q.2.2.2 (by decide)))
        obtain ⟨c8, c9, hZ20I, dZ20⟩ := hdm Z13 10 a1 0 0 0 0 0 hZ13I (by omega) (by omega) (by omega) (by omega) (by omega) (by omega) (by omega) (by omega) (by omega) (by omega)
        obtain ⟨Z20, hZ20⟩ := zx (dm Z13 10 a1 0 0 0 0 0)
        rw [← hZ20] at c9 hZ20I dZ20
        replace hP := zl_e hP hZ20
        refine wz_cV_of (zas (zcons rfl (zcons (zvi (show (-1 : Int32) = i3 (-1) from rfl)) rfl)) c8) ?_
        refine wz_cV_of (zas (zcons rfl (zcons (zvi (show (10 : Int32) = i3 10 from rfl)) (zcons (zvi (rfl : i3 a1 = i3 a1)) (zcons (zvi (show (0 : Int32) = i3 0 from rfl)) (zcons (zvi (show (0 : Int32) = i3 0 from rfl)) (zcons (zvi (show (0 : Int32) = i3 0 from rfl)) (zcons (zvi (show (0 : Int32) = i3 0 from rfl)) (zcons (zvi (show (0 : Int32) = i3 0 from rfl)) rfl)))))))) c9) ?_
        clear c8 c9
        have hZ20K : zC [1, 2, 101, 102, 200] Z Z20 := zC_t hZ13K (zMd_C dZ20) (by decide)
        have hZ20U : zU [] Z Z20 := zU_t hZ13U (zMd_U dZ20) zU_b0
        refine wz_i0 (i3O (n := 4400) (i3A (i3A (show (200 : Int32) = i3 200 from rfl) (i3M (show (20 : Int32) = i3 20 from rfl) (rfl : i3 a1 = i3 a1))) (show (4 : Int32) = i3 4 from rfl)) (by omega) (by omega) (by omega)) ?_
        obtain ⟨Z21, hZ21, c9, hZ21I, kZ21, jZ21⟩ := sp_431 (ν := ν1) hZ20I (a1 := a1) (by omega) (a2 := 4) (by omega) (zbh (c := 0) (k := 61) hM (Nat.le_of_ble_eq_true rfl))
        have hZ21U : zU [] Z Z21 := zU_t hZ20U jZ21 zU_b0
        have hZ21K : zC [1, 2, 101, 102, 200] Z Z21 := zC_t hZ20K kZ21 (by decide)
        replace hP := zl_e hP hZ21
        refine wz_cV_of (zas (zcons rfl (zcons (zvi (rfl : i3 a1 = i3 a1)) (zcons (zvi (show (4 : Int32) = i3 4 from rfl)) rfl))) c9) ?_
        clear c9
        have r22 := zM_k hZ20I 2 0 0 (204 + 20 * a1) (lo := 0) (hi := 40) (by decide) (zs_200_4 (x := a1) (by omega) (by omega) (by omega))
        exact zlY hP (zm_rd (Z := Z20) (ν := ν1) (k := 2) (show ((0 : Nat) : Int) = 0 from rfl) (show ((0 : Nat) : Int) = 0 from rfl) (i3I (y := (204 + 20 * a1)) (i3A (i3A (show (200 : Int32) = i3 200 from rfl) (i3M (show (20 : Int32) = i3 20 from rfl) (rfl : i3 a1 = i3 a1))) (show (4 : Int32) = i3 4 from rfl)) (by omega) (by omega) (by omega))) (.inr rfl) ⟨hZ21I, hZ21K, hZ21U⟩
/- yX12_entry -/
def zy_339 (Z : qz_Z) (a1 : Int) (a2 : Int) : qz_Z × Int := (if 60 ≤ (Z 2 0 0 3814) then (if a1 < 0 then (zlet (zu Z 1 0 0 2 1) (fun Z7 => (Z7, 0))) else (if 59 < a1 then (zlet (zu Z 1 0 0 2 1) (fun Z9 => (Z9, 0))) else (zlet (zu Z 1 0 0 2 0) (fun Z10 => (if a2 < 0 then (zlet (zu Z10 1 0 0 2 2) (fun Z12 => (Z12, 0))) else (if 4 < a2 then (zlet (zu Z10 1 0 0 2 2) (fun Z14 => (Z14, 0))) else (zlet (zu Z10 1 0 0 2 0) (fun Z15 => (Z15, (Z15 2 0 0 (3950 + 5 * ((((Z15 2 0 0 3814) - 1) - a1) % 60) + a2))))))))))) else (if a1 < 0 then (zlet (zu Z 1 0 0 2 1) (fun Z20 => (Z20, 0))) else (if ((Z 2 0 0 3814) - 1) < a1 then (zlet (zu Z 1 0 0 2 1) (fun Z22 => (Z22, 0))) else (zlet (zu Z 1 0 0 2 0) (fun Z23 => (if a2 < 0 then (zlet (zu Z23 1 0 0 2 2) (fun Z25 => (Z25, 0))) else (if 4 < a2 then (zlet (zu Z23 1 0 0 2 2) (fun Z27 => (Z27, 0))) else (zlet (zu Z23 1 0 0 2 0) (fun Z28 => (Z28, (Z28 2 0 0 (w3 ((w3 (3950 + (w3 (5 * (z2 (fun x y => x - x / y * y) (((Z28 2 0 0 3814) - 1) - a1) 60))))) + a2)))))))))))))
theorem sy_339 {s : zSM} {Z : qz_Z} {ν : qz_N} (hZ : zM s Z) (gq : Z 1 0 0 35 = 0) (hM : s.2 + 0 ≤ 1000000000) {a1 : Int} (ga1 : -2147483648 ≤ a1 ∧ a1 ≤ 2147483647) {a2 : Int} (ga2 : -2147483648 ≤ a2 ∧ a2 ≤ 2147483647) {ν1 : qz_N} : ∃ (Z1 : qz_Z) (ν2 : qz_N) (v : Int), (Z1, v) = zy_339 Z a1 a2 ∧ (ν2 = ν ∨ ν2 = ν1) ∧ qf_339 [.inr (.inr (some (1, 0, 0))), .inl (i3 a1), .inl (i3 a2)] (zm Z ν) = some (zm Z1 ν2, .inl (some (.inl (i3 v)))) ∧ (fun Z1 => zM s Z1 ∧ zC [1] Z Z1 ∧ zU [] Z Z1) Z1 := by sorry
/- yX12_areParts -/
def zl_258_1 (x1 : Int) : Nat → qz_Z → Int → Int → Int × Int
  | 0, Z, x2, x3 => (x2, x3)
  | m + 1, Z, x2, x3 => (if (Z 1 0 0 28) ≤ x3 then (x2, x3) else (if x2 = 0 then zl_258_1 x1 m Z 0 (x3 + 1) else (if x1 < (Z 98 0 0 x3) then zl_258_1 x1 m Z 0 (x3 + 1) else zl_258_1 x1 m Z 1 (x3 + 1))))
theorem sl_258_1 {s : zSM} {Z : qz_Z} {ν : qz_N} (hZ : zM s Z) (hM : s.2 + 0 ≤ 1000000000) {x1 : Int} (gx1 : 10 ≤ x1 ∧ x1 ≤ 99) {x2 : Int} (gx2 : 0 ≤ x2 ∧ x2 ≤ 1) {x3 : Int} (gx3 : 0 ≤ x3 ∧ x3 ≤ 60) {k : wz_K} {R : wz_R} {L : qz_L} (hL : qz_fg [true, true, true, true] L = [some (.inr (.inr (some (1, 0, 0)))), some (.inl (i3 x1)), some (.inl (i3 x2)), some (.inl (i3 x3))]) {T : Int × Int} (hP : zE T (zl_258_1 x1 ((60 - x3).toNat + 1) Z x2 x3)) (hk : ∀ (L9 : qz_L) (yx2 yx3 : Int), qz_fg [false, false, true, false] L9 = [none, none, some (.inl (i3 yx2)), none] → (0 ≤ yx2 ∧ yx2 ≤ 1) → (0 ≤ yx3 ∧ yx3 ≤ 60) → zE T ((yx2, yx3)) → k 0 (L9, [], zm Z ν)) : wz_loop qb_258_1 65536 k R (L, [], zm Z ν) := by
  refine wz_lp sb_258_1 (fun m x => ∃ x2 : Int, ∃ x3 : Int, qz_fg [true, true, true, true] x.1 = [some (.inr (.inr (some (1, 0, 0)))), some (.inl (i3 x1)), some (.inl (i3 x2)), some (.inl (i3 x3))] ∧ x.2 = ([], zm Z ν) ∧ m = (60 - x3).toNat ∧ (0 ≤ x2 ∧ x2 ≤ 1) ∧ (0 ≤ x3 ∧ x3 ≤ 60) ∧ zE T (zl_258_1 x1 (m + 1) Z x2 x3)) ?_ 65536 ((60 - x3).toNat) _ (by omega) ⟨x2, x3, hL, rfl, rfl, gx2, gx3, hP⟩
  clear hP gx2 gx3 hL
  clear x2 x3
  rintro m ⟨L, st, μ⟩ ⟨x2, x3, hL, hx, hm, gx2, gx3, hP⟩
  cases hx
  refine fb_258_1 (i3 x1) (i3 x2) (i3 x3) _ _ _ _ hL ?_
  have r1 := zM_k hZ 1 0 0 28 (lo := 0) (hi := 60) (by decide) rfl
  refine wz_br (i3Le (zm_rd (Z := Z) (ν := ν) (k := 1) (show ((0 : Nat) : Int) = 0 from rfl) (show ((0 : Nat) : Int) = 0 from rfl) (show ((28 : Nat) : Int) = 28 from rfl)) (rfl : i3 x3 = i3 x3) (by omega) (by omega) (by omega) (by omega)) (fun h2 => ?_) (fun h2 => ?_)
  · replace hP := zE_p hP h2
    exact hk _ _ _ (zconso rfl (zconso rfl (zconso (zvo (rfl : i3 x2 = i3 x2)) (zconso rfl rfl))))  (by omega) (by omega)  hP
  · replace hP := zE_n hP h2
    refine wz_br (i3E (rfl : i3 x2 = i3 x2) (show (0 : Int32) = i3 0 from rfl) (by omega) (by omega) (by omega) (by omega)) (fun h3 => ?_) (fun h3 => ?_)
    · replace hP := zE_p hP h3
      obtain ⟨m2, rfl⟩ : ∃ m2, m = m2 + 1 := ⟨m - 1, by omega⟩
      exact wz_k1 ⟨m2, by omega, 0, (x3 + 1), (zconso rfl (zconso (zvo (rfl : i3 x1 = i3 x1)) (zconso (zvo (show (0 : Int32) = i3 0 from rfl)) (zconso (zvo (i3A (rfl : i3 x3 = i3 x3) (show (1 : Int32) = i3 1 from rfl))) rfl)))), rfl,  by omega, by omega, by omega,  hP⟩
    · replace hP := zE_n hP h3
      refine wz_i0 (i3O (n := 60) (rfl : i3 x3 = i3 x3) (by omega) (by omega) (by omega)) ?_
      have r4 := zM_k hZ 98 0 0 x3 (lo := 0) (hi := 40) (by decide) rfl
      refine wz_br (i3L (rfl : i3 x1 = i3 x1) (zm_rd (Z := Z) (ν := ν) (k := 98) (show ((0 : Nat) : Int) = 0 from rfl) (show ((0 : Nat) : Int) = 0 from rfl) (i3I (y := x3) (rfl : i3 x3 = i3 x3) (by omega) (by omega) (by omega))) (by omega) (by omega) (by omega) (by omega)) (fun h5 => ?_) (fun h5 => ?_)
      · replace hP := zE_p hP h5
        obtain ⟨m2, rfl⟩ : ∃ m2, m = m2 + 1 := ⟨m - 1, by omega⟩
        exact wz_k1 ⟨m2, by omega, 0, (x3 + 1), (zconso rfl (zconso (zvo (rfl : i3 x1 = i3 x1)) (zconso (zvo (show (0 : Int32) = i3 0 from rfl)) (zconso (zvo (i3A (rfl : i3 x3 = i3 x3) (show (1 : Int32) = i3 1 from rfl))) rfl)))), rfl,  by omega, by omega, by omega,  hP⟩
      · replace hP := zE_n hP h5
        obtain ⟨m2, rfl⟩ : ∃ m2, m = m2 + 1 := ⟨m - 1, by omega⟩
        exact wz_k1 ⟨m2, by omega, 1, (x3 + 1), (zconso rfl (zconso (zvo (rfl : i3 x1 = i3 x1)) (zconso (zvo (show (1 : Int32) = i3 1 from rfl)) (zconso (zvo (i3A (rfl : i3 x3 = i3 x3) (show (1 : Int32) = i3 1 from rfl))) rfl)))), rfl,  by omega, by omega, by omega,  hP⟩
/- yX12_areParts -/
def zf_258 (Z : qz_Z) (a1 : Int) : Int := (if 10 < (Z 1 0 0 28) then (zlet2 (zl_258_1 a1 61 Z 0 0) (fun y3 y4 => y3)) else (zlet2 (zl_258_1 a1 61 Z 1 0) (fun y6 y7 => y6)))
theorem sp_258 {s : zSM} {Z : qz_Z} {ν : qz_N} (hZ : zM s Z) {a1 : Int} (ga1 : 10 ≤ a1 ∧ a1 ≤ 99) (hM : s.2 + 0 ≤ 1000000000) : ∃ P : Int, P = zf_258 Z a1 ∧ (qf_258 [.inr (.inr (some (1, 0, 0))), .inl (i3 a1)] (zm Z ν) = some (zm Z ν, .inl (some (.inl (i3 P)))) ∧ 0 ≤ P ∧ P ≤ 1 ∧ (P = 0 ∨ Z 1 0 0 28 ≤ 10)) := by sorry
/- yX12_tFewest -/
def zl_510_1 (x1 : Int) (x2 : Int) : Nat → qz_Z → Int → Int → Int × Int
  | 0, Z, x3, x4 => (x3, x4)
  | m + 1, Z, x3, x4 => (if (Z 1 0 0 28) ≤ x4 then (x3, x4) else (if (z2 (fun x y => x &&& y) (z2 (fun x y => x >>> (y &&& 31)) x2 x4) 1) ≠ 1 then zl_510_1 x1 x2 m Z x3 (x4 + 1) else (if (Z 99 0 0 (z2 (fun x y => x &&& y) x2 (z2 (fun x y => x ^^^ y) (z2 (fun x y => x <<< (y &&& 31)) 1 x4) (-1)))) ≤ 0 then (if x3 = (-1) then zl_510_1 x1 x2 m Z (w3 ((w3 ((w3 ((Z 99 0 0 (z2 (fun x y => x &&& y) x2 (z2 (fun x y => x ^^^ y) (z2 (fun x y => x <<< (y &&& 31)) 1 x4) (-1)))) - (z2 (fun x y => x - x / y * y) (Z 99 0 0 (z2 (fun x y => x &&& y) x2 (z2 (fun x y => x ^^^ y) (z2 (fun x y => x <<< (y &&& 31)) 1 x4) (-1)))) 128))) + 128)) + (Z 98 0 0 x4))) (x4 + 1) else (if x3 ≤ (w3 ((w3 ((w3 ((Z 99 0 0 (z2 (fun x y => x &&& y) x2 (z2 (fun x y => x ^^^ y) (z2 (fun x y => x <<< (y &&& 31)) 1 x4) (-1)))) - (z2 (fun x y => x - x / y * y) (Z 99 0 0 (z2 (fun x y => x &&& y) x2 (z2 (fun x y => x ^^^ y) (z2 (fun x y => x <<< (y &&& 31)) 1 x4) (-1)))) 128))) + 128)) + (Z 98 0 0 x4))) then zl_510_1 x1 x2 m Z x3 (x4 + 1) else zl_510_1 x1 x2 m Z (w3 ((w3 ((w3 ((Z 99 0 0 (z2 (fun x y => x &&& y) x2 (z2 (fun x y => x ^^^ y) (z2 (fun x y => x <<< (y &&& 31)) 1 x4) (-1)))) - (z2 (fun x y => x - x / y * y) (Z 99 0 0 (z2 (fun x y => x &&& y) x2 (z2 (fun x y => x ^^^ y) (z2 (fun x y => x <<< (y &&& 31)) 1 x4) (-1)))) 128))) + 128)) + (Z 98 0 0 x4))) (x4 + 1))) else (if x1 < (((Z 99 0 0 (z2 (fun x y => x &&& y) x2 (z2 (fun x y => x ^^^ y) (z2 (fun x y => x <<< (y &&& 31)) 1 x4) (-1)))) % 128) + (Z 98 0 0 x4)) then (if x3 = (-1) then zl_510_1 x1 x2 m Z (w3 ((w3 (((Z 99 0 0 (z2 (fun x y => x &&& y) x2 (z2 (fun x y => x ^^^ y) (z2 (fun x y => x <<< (y &&& 31)) 1 x4) (-1)))) - ((Z 99 0 0 (z2 (fun x y => x &&& y) x2 (z2 (fun x y => x ^^^ y) (z2 (fun x y => x <<< (y &&& 31)) 1 x4) (-1)))) % 128)) + 128)) + (Z 98 0 0 x4))) (x4 + 1) else (if x3 ≤ (w3 ((w3 (((Z 99 0 0 (z2 (fun x y => x &&& y) x2 (z2 (fun x y => x ^^^ y) (z2 (fun x y => x <<< (y &&& 31)) 1 x4) (-1)))) - ((Z 99 0 0 (z2 (fun x y => x &&& y) x2 (z2 (fun x y => x ^^^ y) (z2 (fun x y => x <<< (y &&& 31)) 1 x4) (-1)))) % 128)) + 128)) + (Z 98 0 0 x4))) then zl_510_1 x1 x2 m Z x3 (x4 + 1) else zl_510_1 x1 x2 m Z (w3 ((w3 (((Z 99 0 0 (z2 (fun x y => x &&& y) x2 (z2 (fun x y => x ^^^ y) (z2 (fun x y => x <<< (y &&& 31)) 1 x4) (-1)))) - ((Z 99 0 0 (z2 (fun x y => x &&& y) x2 (z2 (fun x y => x ^^^ y) (z2 (fun x y => x <<< (y &&& 31)) 1 x4) (-1)))) % 128)) + 128)) + (Z 98 0 0 x4))) (x4 + 1))) else (if x3 = (-1) then zl_510_1 x1 x2 m Z (w3 ((Z 99 0 0 (z2 (fun x y => x &&& y) x2 (z2 (fun x y => x ^^^ y) (z2 (fun x y => x <<< (y &&& 31)) 1 x4) (-1)))) + (Z 98 0 0 x4))) (x4 + 1) else (if x3 ≤ (w3 ((Z 99 0 0 (z2 (fun x y => x &&& y) x2 (z2 (fun x y => x ^^^ y) (z2 (fun x y => x <<< (y &&& 31)) 1 x4) (-1)))) + (Z 98 0 0 x4))) then zl_510_1 x1 x2 m Z x3 (x4 + 1) else zl_510_1 x1 x2 m Z (w3 ((Z 99 0 0 (z2 (fun x y => x &&& y) x2 (z2 (fun x y => x ^^^ y) (z2 (fun x y => x <<< (y &&& 31)) 1 x4) (-1)))) + (Z 98 0 0 x4))) (x4 + 1)))))))
theorem sl_510_1 {s : zSM} {Z : qz_Z} {ν : qz_N} (hZ : zM s Z) (hM : s.2 + 0 ≤ 1000000000) {x1 : Int} (gx1 : 10 ≤ x1 ∧ x1 ≤ 99) {x2 : Int} (gx2 : 1 ≤ x2 ∧ x2 ≤ 1023) {x3 : Int} (gx3 : -2147483648 ≤ x3 ∧ x3 ≤ 2147483647) {x4 : Int} (gx4 : 0 ≤ x4 ∧ x4 ≤ 10) (gr0 : Z 1 0 0 28 ≤ 10) {k : wz_K} {R : wz_R} {L : qz_L} (hL : qz_fg [true, true, true, true, true, false] L = [some (.inr (.inr (some (1, 0, 0)))), some (.inl (i3 x1)), some (.inl (i3 x2)), some (.inl (i3 x3)), some (.inl (i3 x4)), none]) {T : Int × Int} (hP : zE T (zl_510_1 x1 x2 ((10 - x4).toNat + 1) Z x3 x4)) (hk : ∀ (L9 : qz_L) (yx3 yx4 : Int), qz_fg [true, true, true, true, false, false] L9 = [some (.inr (.inr (some (1, 0, 0)))), some (.inl (i3 x1)), some (.inl (i3 x2)), some (.inl (i3 yx3)), none, none] → (-2147483648 ≤ yx3 ∧ yx3 ≤ 2147483647) → (0 ≤ yx4 ∧ yx4 ≤ 10) → (Z 1 0 0 28 ≤ 10) → zE T ((yx3, yx4)) → k 0 (L9, [], zm Z ν)) : wz_loop qb_510_1 65536 k R (L, [], zm Z ν) := by
  refine wz_lp sb_510_1 (fun m x => ∃ x3 : Int, ∃ x4 : Int, qz_fg [true, true, true, true, true, false] x.1 = [some (.inr (.inr (some (1, 0, 0)))), some (.inl (i3 x1)), some (.inl (i3 x2)), some (.inl (i3 x3)), some (.inl (i3 x4)), none] ∧ x.2 = ([], zm Z ν) ∧ m = (10 - x4).toNat ∧ (-2147483648 ≤ x3 ∧ x3 ≤ 2147483647) ∧ (0 ≤ x4 ∧ x4 ≤ 10) ∧ (Z 1 0 0 28 ≤ 10) ∧ zE T (zl_510_1 x1 x2 (m + 1) Z x3 x4)) ?_ 65536 ((10 - x4).toNat) _ (by omega) ⟨x3, x4, hL, rfl, rfl, gx3, gx4, gr0, hP⟩
  clear hP gr0 gx3 gx4 hL
  clear x3 x4
  rintro m ⟨L, st, μ⟩ ⟨x3, x4, hL, hx, hm, gx3, gx4, gr0, hP⟩
  cases hx
  refine fb_510_1 (i3 x1) (i3 x2) (i3 x3) (i3 x4) _ _ _ _ hL ?_
  have r1 := zM_k hZ 1 0 0 28 (lo := 0) (hi := 60) (by decide) rfl
  refine wz_br (i3Le (zm_rd (Z := Z) (ν := ν) (k := 1) (show ((0 : Nat) : Int) = 0 from rfl) (show ((0 : Nat) : Int) = 0 from rfl) (show ((28 : Nat) : Int) = 28 from rfl)) (rfl : i3 x4 = i3 x4) (by omega) (by omega) (by omega) (by omega)) (fun h2 => ?_) (fun h2 => ?_)
  · replace hP := zE_p hP h2
    exact hk _ _ _ (zconso rfl (zconso (zvo (rfl : i3 x1 = i3 x1)) (zconso (zvo (rfl : i3 x2 = i3 x2)) (zconso (zvo (rfl : i3 x3 = i3 x3)) (zconso rfl (zconso rfl rfl))))))  (by omega) (by omega) (by omega) hP
  · replace hP := zE_n hP h2
    have r3 := z2_r (fun x y => x >>> (y &&& 31)) x2 x4
    have r4 := z2_r (fun x y => x &&& y) (z2 (fun x y => x >>> (y &&& 31)) x2 x4) 1
    have r5 := z2_and (z2 (fun x y => x >>> (y &&& 31)) x2 x4) (y := 1) (by omega) (by omega)
    refine wz_br (i3NE (i3Z (fun x y => x &&& y) (i3Z (fun x y => x >>> (y &&& 31)) (rfl : i3 x2 = i3 x2) (rfl : i3 x4 = i3 x4)) (show (1 : Int32) = i3 1 from rfl)) (show (1 : Int32) = i3 1 from rfl) (by omega) (by omega) (by omega) (by omega)) (fun h6 => ?_) (fun h6 => ?_)
    · replace hP := zE_p hP h6
      obtain ⟨m2, rfl⟩ : ∃ m2, m = m2 + 1 := ⟨m - 1, by omega⟩
      exact wz_k1 ⟨m2, by omega, x3, (x4 + 1), (zconso rfl (zconso (zvo (rfl : i3 x1 = i3 x1)) (zconso (zvo (rfl : i3 x2 = i3 x2)) (zconso (zvo (rfl : i3 x3 = i3 x3)) (zconso (zvo (i3A (rfl : i3 x4 = i3 x4) (show (1 : Int32) = i3 1 from rfl))) (zconso rfl rfl)))))), rfl,  by omega, by omega, by omega, by omega,  hP⟩
    · replace hP := zE_n hP h6
      have r7 := z2_r (fun x y => x <<< (y &&& 31)) 1 x4
      have r8 := z2_shl10 (n := x4) (by omega) (by omega)
      have r9 := z2_r (fun x y => x ^^^ y) (z2 (fun x y => x <<< (y &&& 31)) 1 x4) (-1)
      have r10 := z2_r (fun x y => x &&& y) x2 (z2 (fun x y => x ^^^ y) (z2 (fun x y => x <<< (y &&& 31)) 1 x4) (-1))
      have r11 := z2_andl (z2 (fun x y => x ^^^ y) (z2 (fun x y => x <<< (y &&& 31)) 1 x4) (-1)) (x := x2) (by omega) (by omega)
      refine wz_i0 (i3O (n := 1024) (i3Z (fun x y => x &&& y) (rfl : i3 x2 = i3 x2) (i3Z (fun x y => x ^^^ y) (i3Z (fun x y => x <<< (y &&& 31)) (show (1 : Int32) = i3 1 from rfl) (rfl : i3 x4 = i3 x4)) (show (-1 : Int32) = i3 (-1) from rfl))) (by omega) (by omega) (by omega)) ?_
      refine wz_i0 (i3O (n := 60) (rfl : i3 x4 = i3 x4) (by omega) (by omega) (by omega)) ?_
      have r12 := zM_f hZ 99 0 0 (z2 (fun x y => x &&& y) x2 (z2 (fun x y => x ^^^ y) (z2 (fun x y => x <<< (y &&& 31)) 1 x4) (-1)))
      refine wz_br (i3Le (zm_rd (Z := Z) (ν := ν) (k := 99) (show ((0 : Nat) : Int) = 0 from rfl) (show ((0 : Nat) : Int) = 0 from rfl) (i3I (y := (z2 (fun x y => x &&& y) x2 (z2 (fun x y => x ^^^ y) (z2 (fun x y => x <<< (y &&& 31)) 1 x4) (-1)))) (i3Z (fun x y => x &&& y) (rfl : i3 x2 = i3 x2) (i3Z (fun x y => x ^^^ y) (i3Z (fun x y => x <<< (y &&& 31)) (show (1 : Int32) = i3 1 from rfl) (rfl : i3 x4 = i3 x4)) (show (-1 : Int32) = i3 (-1) from rfl))) (by omega) (by omega) (by omega))) (show (0 : Int32) = i3 0 from rfl) (by omega) (by omega) (by omega) (by omega)) (fun h13 => ?_) (fun h13 => ?_)
      · replace hP := zE_p hP h13
        refine wz_br (i3E (rfl : i3 x3 = i3 x3) (show (-1 : Int32) = i3 (-1) from rfl) (by omega) (by omega) (by omega) (by omega)) (fun h14 => ?_) (fun h14 => ?_)
        · replace hP := zE_p hP h14
          have r15 := z2_r (fun x y => x - x / y * y) (Z 99 0 0 (z2 (fun x y => x &&& y) x2 (z2 (fun x y => x ^^^ y) (z2 (fun x y => x <<< (y &&& 31)) 1 x4) (-1)))) 128
          have r16 := w3_r ((Z 99 0 0 (z2 (fun x y => x &&& y) x2 (z2 (fun x y => x ^^^ y) (z2 (fun x y => x <<< (y &&& 31)) 1 x4) (-1)))) - (z2 (fun x y => x - x / y * y) (Z 99 0 0 (z2 (fun x y => x &&& y) x2 (z2 (fun x y => x ^^^ y) (z2 (fun x y => x <<< (y &&& 31)) 1 x4) (-1)))) 128))
          have r17 := w3_r ((w3 ((Z 99 0 0 (z2 (fun x y => x &&& y) x2 (z2 (fun x y => x ^^^ y) (z2 (fun x y => x <<< (y &&& 31)) 1 x4) (-1)))) - (z2 (fun x y => x - x / y * y) (Z 99 0 0 (z2 (fun x y => x &&& y) x2 (z2 (fun x y => x ^^^ y) (z2 (fun x y => x <<< (y &&& 31)) 1 x4) (-1)))) 128))) + 128)
          have r18 := zM_k hZ 98 0 0 x4 (lo := 0) (hi := 40) (by decide) rfl
          have r19 := w3_r ((w3 ((w3 ((Z 99 0 0 (z2 (fun x y => x &&& y) x2 (z2 (fun x y => x ^^^ y) (z2 (fun x y => x <<< (y &&& 31)) 1 x4) (-1)))) - (z2 (fun x y => x - x / y * y) (Z 99 0 0 (z2 (fun x y => x &&& y) x2 (z2 (fun x y => x ^^^ y) (z2 (fun x y => x <<< (y &&& 31)) 1 x4) (-1)))) 128))) + 128)) + (Z 98 0 0 x4))
          obtain ⟨m2, rfl⟩ : ∃ m2, m = m2 + 1 := ⟨m - 1, by omega⟩
          exact wz_k1 ⟨m2, by omega, (w3 ((w3 ((w3 ((Z 99 0 0 (z2 (fun x y => x &&& y) x2 (z2 (fun x y => x ^^^ y) (z2 (fun x y => x <<< (y &&& 31)) 1 x4) (-1)))) - (z2 (fun x y => x - x / y * y) (Z 99 0 0 (z2 (fun x y => x &&& y) x2 (z2 (fun x y => x ^^^ y) (z2 (fun x y => x <<< (y &&& 31)) 1 x4) (-1)))) 128))) + 128)) + (Z 98 0 0 x4))), (x4 + 1), (zconso rfl (zconso (zvo (rfl : i3 x1 = i3 x1)) (zconso (zvo (rfl : i3 x2 = i3 x2)) (zconso (zvo (i3W (i3A (i3W (i3A (i3W (i3S (zm_rd (Z := Z) (ν := ν) (k := 99) (show ((0 : Nat) : Int) = 0 from rfl) (show ((0 : Nat) : Int) = 0 from rfl) (i3I (y := (z2 (fun x y => x &&& y) x2 (z2 (fun x y => x ^^^ y) (z2 (fun x y => x <<< (y &&& 31)) 1 x4) (-1)))) (i3Z (fun x y => x &&& y) (rfl : i3 x2 = i3 x2) (i3Z (fun x y => x ^^^ y) (i3Z (fun x y => x <<< (y &&& 31)) (show (1 : Int32) = i3 1 from rfl) (rfl : i3 x4 = i3 x4)) (show (-1 : Int32) = i3 (-1) from rfl))) (by omega) (by omega) (by omega))) (i3Z (fun x y => x - x / y * y) (zm_rd (Z := Z) (ν := ν) (k := 99) (show ((0 : Nat) : Int) = 0 from rfl) (show ((0 : Nat) : Int) = 0 from rfl) (i3I (y := (z2 (fun x y => x &&& y) x2 (z2 (fun x y => x ^^^ y) (z2 (fun x y => x <<< (y &&& 31)) 1 x4) (-1)))) (i3Z (fun x y => x &&& y) (rfl : i3 x2 = i3 x2) (i3Z (fun x y => x ^^^ y) (i3Z (fun x y => x <<< (y &&& 31)) (show (1 : Int32) = i3 1 from rfl) (rfl : i3 x4 = i3 x4)) (show (-1 : Int32) = i3 (-1) from rfl))) (by omega) (by omega) (by omega))) (show (128 : Int32) = i3 128 from rfl)))) (show (128 : Int32) = i3 128 from rfl))) (zm_rd (Z := Z) (ν := ν) (k := 98) (show ((0 : Nat) : Int) = 0 from rfl) (show ((0 : Nat) : Int) = 0 from rfl) (i3I (y := x4) (rfl : i3 x4 = i3 x4) (by omega) (by omega) (by omega)))))) (zconso (zvo (i3A (rfl : i3 x4 = i3 x4) (show (1 : Int32) = i3 1 from rfl))) (zconso rfl rfl)))))), rfl,  by omega, by omega, by omega, by omega,  hP⟩
        · replace hP := zE_n hP h14
          have r20 := z2_r (fun x y => x - x / y * y) (Z 99 0 0 (z2 (fun x y => x &&& y) x2 (z2 (fun x y => x ^^^ y) (z2 (fun x y => x <<< (y &&& 31)) 1 x4) (-1)))) 128
          have r21 := w3_r ((Z 99 0 0 (z2 (fun x y => x &&& y) x2 (z2 (fun x y => x ^^^ y) (z2 (fun x y => x <<< (y &&& 31)) 1 x4) (-1)))) - (z2 (fun x y => x - x / y * y) (Z 99 0 0 (z2 (fun x y => x &&& y) x2 (z2 (fun x y => x ^^^ y) (z2 (fun x y => x <<< (y &&& 31)) 1 x4) (-1)))) 128))
          have r22 := w3_r ((w3 ((Z 99 0 0 (z2 (fun x y => x &&& y) x2 (z2 (fun x y => x ^^^ y) (z2 (fun x y => x <<< (y &&& 31)) 1 x4) (-1)))) - (z2 (fun x y => x - x / y * y) (Z 99 0 0 (z2 (fun x y => x &&& y) x2 (z2 (fun x y => x ^^^ y) (z2 (fun x y => x <<< (y &&& 31)) 1 x4) (-1)))) 128))) + 128)
          have r23 := zM_k hZ 98 0 0 x4 (lo := 0) (hi := 40) (by decide) rfl
          have r24 := w3_r ((w3 ((w3 ((Z 99 0 0 (z2 (fun x y => x &&& y) x2 (z2 (fun x y => x ^^^ y) (z2 (fun x y => x <<< (y &&& 31)) 1 x4) (-1)))) - (z2 (fun x y => x - x / y * y) (Z 99 0 0 (z2 (fun x y => x &&& y) x2 (z2 (fun x y => x ^^^ y) (z2 (fun x y => x <<< (y &&& 31)) 1 x4) (-1)))) 128))) + 128)) + (Z 98 0 0 x4))
          refine wz_br (i3Le (rfl : i3 x3 = i3 x3) (i3W (i3A (i3W (i3A (i3W (i3S (zm_rd (Z := Z) (ν := ν) (k := 99) (show ((0 : Nat) : Int) = 0 from rfl) (show ((0 : Nat) : Int) = 0 from rfl) (i3I (y := (z2 (fun x y => x &&& y) x2 (z2 (fun x y => x ^^^ y) (z2 (fun x y => x <<< (y &&& 31)) 1 x4) (-1)))) (i3Z (fun x y => x &&& y) (rfl : i3 x2 = i3 x2) (i3Z (fun x y => x ^^^ y) (i3Z (fun x y => x <<< (y &&& 31)) (show (1 : Int32) = i3 1 from rfl) (rfl : i3 x4 = i3 x4)) (show (-1 : Int32) = i3 (-1) from rfl))) (by omega) (by omega) (by omega))) (i3Z (fun x y => x - x / y * y) (zm_rd (Z := Z) (ν := ν) (k := 99) (show ((0 : Nat) : Int) = 0 from rfl) (show ((0 : Nat) : Int) = 0 from rfl) (i3I (y := (z2 (fun x y => x &&& y) x2 (z2 (fun x y => x ^^^ y) (z2 (fun x y => x <<< (y &&& 31)) 1 x4) (-1)))) (i3Z (fun x y => x &&& y) (rfl : i3 x2 = i3 x2) (i3Z (fun x y => x ^^^ y) (i3Z (fun x y => x <<< (y &&& 31)) (show (1 : Int32) = i3 1 from rfl) (rfl : i3 x4 = i3 x4)) (show (-1 : Int32) = i3 (-1) from rfl))) (by omega) (by omega) (by omega))) (show (128 : Int32) = i3 128 from rfl)))) (show (128 : Int32) = i3 128 from rfl))) (zm_rd (Z := Z) (ν := ν) (k := 98) (show ((0 : Nat) : Int) = 0 from rfl) (show ((0 : Nat) : Int) = 0 from rfl) (i3I (y := x4) (rfl : i3 x4 = i3 x4) (by omega) (by omega) (by omega))))) (by omega) (by omega) (by omega) (by omega)) (fun h25 => ?_) (fun h25 => ?_)
          · replace hP := zE_p hP h25
            obtain ⟨m2, rfl⟩ : ∃ m2, m = m2 + 1 := ⟨m - 1, by omega⟩
            exact wz_k1 ⟨m2, by omega, x3, (x4 + 1), (zconso rfl (zconso (zvo (rfl : i3 x1 = i3 x1)) (zconso (zvo (rfl : i3 x2 = i3 x2)) (zconso (zvo (rfl : i3 x3 = i3 x3)) (zconso (zvo (i3A (rfl : i3 x4 = i3 x4) (show (1 : Int32) = i3 1 from rfl))) (zconso rfl rfl)))))), rfl,  by omega, by omega, by omega, by omega,  hP⟩
          · replace hP := zE_n hP h25
            obtain ⟨m2, rfl⟩ : ∃ m2, m = m2 + 1 := ⟨m - 1, by omega⟩
            exact wz_k1 ⟨m2, by omega, (w3 ((w3 ((w3 ((Z 99 0 0 (z2 (fun x y => x &&& y) x2 (z2 (fun x y => x ^^^ y) (z2 (fun x y => x <<< (y &&& 31)) 1 x4) (-1)))) - (z2 (fun x y => x - x / y * y) (Z 99 0 0 (z2 (fun x y => x &&& y) x2 (z2 (fun x y => x ^^^ y) (z2 (fun x y => x <<< (y &&& 31)) 1 x4) (-1)))) 128))) + 128)) + (Z 98 0 0 x4))), (x4 + 1), (zconso rfl (zconso (zvo (rfl : i3 x1 = i3 x1)) (zconso (zvo (rfl : i3 x2 = i3 x2)) (zconso (zvo (i3W (i3A (i3W (i3A (i3W (i3S (zm_rd (Z := Z) (ν := ν) (k := 99) (show ((0 : Nat) : Int) = 0 from rfl) (show ((0 : Nat) : Int) = 0 from rfl) (i3I (y := (z2 (fun x y => x &&& y) x2 (z2 (fun x y => x ^^^ y) (z2 (fun x y => x <<< (y &&& 31)) 1 x4) (-1)))) (i3Z (fun x y => x &&& y) (rfl : i3 x2 = i3 x2) (i3Z (fun x y => x ^^^ y) (i3Z (fun x y => x <<< (y &&& 31)) (show (1 : Int32) = i3 1 from rfl) (rfl : i3 x4 = i3 x4)) (show (-1 : Int32) = i3 (-1) from rfl))) (by omega) (by omega) (by omega))) (i3Z (fun x y => x - x / y * y) (zm_rd (Z := Z) (ν := ν) (k := 99) (show ((0 : Nat) : Int) = 0 from rfl) (show ((0 : Nat) : Int) = 0 from rfl) (i3I (y := (z2 (fun x y => x &&& y) x2 (z2 (fun x y => x ^^^ y) (z2 (fun x y => x <<< (y &&& 31)) 1 x4) (-1)))) (i3Z (fun x y => x &&& y) (rfl : i3 x2 = i3 x2) (i3Z (fun x y => x ^^^ y) (i3Z (fun x y => x <<< (y &&& 31)) (show (1 : Int32) = i3 1 from rfl) (rfl : i3 x4 = i3 x4)) (show (-1 : Int32) = i3 (-1) from rfl))) (by omega) (by omega) (by omega))) (show (128 : Int32) = i3 128 from rfl)))) (show (128 : Int32) = i3 128 from rfl))) (zm_rd (Z := Z) (ν := ν) (k := 98) (show ((0 : Nat) : Int) = 0 from rfl) (show ((0 : Nat) : Int) = 0 from rfl) (i3I (y := x4) (rfl : i3 x4 = i3 x4) (by omega) (by omega) (by omega)))))) (zconso (zvo (i3A (rfl : i3 x4 = i3 x4) (show (1 : Int32) = i3 1 from rfl))) (zconso rfl rfl)))))), rfl,  by omega, by omega, by omega, by omega,  hP⟩
      · replace hP := zE_n hP h13
        have r26 := zM_k hZ 98 0 0 x4 (lo := 0) (hi := 40) (by decide) rfl
        refine wz_br (i3L (rfl : i3 x1 = i3 x1) (i3A (i3R (zm_rd (Z := Z) (ν := ν) (k := 99) (show ((0 : Nat) : Int) = 0 from rfl) (show ((0 : Nat) : Int) = 0 from rfl) (i3I (y := (z2 (fun x y => x &&& y) x2 (z2 (fun x y => x ^^^ y) (z2 (fun x y => x <<< (y &&& 31)) 1 x4) (-1)))) (i3Z (fun x y => x &&& y) (rfl : i3 x2 = i3 x2) (i3Z (fun x y => x ^^^ y) (i3Z (fun x y => x <<< (y &&& 31)) (show (1 : Int32) = i3 1 from rfl) (rfl : i3 x4 = i3 x4)) (show (-1 : Int32) = i3 (-1) from rfl))) (by omega) (by omega) (by omega))) (show (128 : Int32) = i3 128 from rfl) (by omega) (by omega) (by omega) (by omega)) (zm_rd (Z := Z) (ν := ν) (k := 98) (show ((0 : Nat) : Int) = 0 from rfl) (show ((0 : Nat) : Int) = 0 from rfl) (i3I (y := x4) (rfl : i3 x4 = i3 x4) (by omega) (by omega) (by omega)))) (by omega) (by omega) (by omega) (by omega)) (fun h27 => ?_) (fun h27 => ?_)
        · replace hP := zE_p hP h27
          refine wz_br (i3E (rfl : i3 x3 = i3 x3) (show (-1 : Int32) = i3 (-1) from rfl) (by omega) (by omega) (by omega) (by omega)) (fun h28 => ?_) (fun h28 => ?_)
          · replace hP := zE_p hP h28
            have r29 := w3_r (((Z 99 0 0 (z2 (fun x y => x &&& y) x2 (z2 (fun x y => x ^^^ y) (z2 (fun x y => x <<< (y &&& 31)) 1 x4) (-1)))) - ((Z 99 0 0 (z2 (fun x y => x &&& y) x2 (z2 (fun x y => x ^^^ y) (z2 (fun x y => x <<< (y &&& 31)) 1 x4) (-1)))) % 128)) + 128)
            have r30 := w3_r ((w3 (((Z 99 0 0 (z2 (fun x y => x &&& y) x2 (z2 (fun x y => x ^^^ y) (z2 (fun x y => x <<< (y &&& 31)) 1 x4) (-1)))) - ((Z 99 0 0 (z2 (fun x y => x &&& y) x2 (z2 (fun x y => x ^^^ y) (z2 (fun x y => x <<< (y &&& 31)) 1 x4) (-1)))) % 128)) + 128)) + (Z 98 0 0 x4))
            obtain ⟨m2, rfl⟩ : ∃ m2, m = m2 + 1 := ⟨m - 1, by omega⟩
            exact wz_k1 ⟨m2, by omega, (w3 ((w3 (((Z 99 0 0 (z2 (fun x y => x &&& y) x2 (z2 (fun x y => x ^^^ y) (z2 (fun x y => x <<< (y &&& 31)) 1 x4) (-1)))) - ((Z 99 0 0 (z2 (fun x y => x &&& y) x2 (z2 (fun x y => x ^^^ y) (z2 (fun x y => x <<< (y &&& 31)) 1 x4) (-1)))) % 128)) + 128)) + (Z 98 0 0 x4))), (x4 + 1), (zconso rfl (zconso (zvo (rfl : i3 x1 = i3 x1)) (zconso (zvo (rfl : i3 x2 = i3 x2)) (zconso (zvo (i3W (i3A (i3W (i3A (i3S (zm_rd (Z := Z) (ν := ν) (k := 99) (show ((0 : Nat) : Int) = 0 from rfl) (show ((0 : Nat) : Int) = 0 from rfl) (i3I (y := (z2 (fun x y => x &&& y) x2 (z2 (fun x y => x ^^^ y) (z2 (fun x y => x <<< (y &&& 31)) 1 x4) (-1)))) (i3Z (fun x y => x &&& y) (rfl : i3 x2 = i3 x2) (i3Z (fun x y => x ^^^ y) (i3Z (fun x y => x <<< (y &&& 31)) (show (1 : Int32) = i3 1 from rfl) (rfl : i3 x4 = i3 x4)) (show (-1 : Int32) = i3 (-1) from rfl))) (by omega) (by omega) (by omega))) (i3R (zm_rd (Z := Z) (ν := ν) (k := 99) (show ((0 : Nat) : Int) = 0 from rfl) (show ((0 : Nat) : Int) = 0 from rfl) (i3I (y := (z2 (fun x y => x &&& y) x2 (z2 (fun x y => x ^^^ y) (z2 (fun x y => x <<< (y &&& 31)) 1 x4) (-1)))) (i3Z (fun x y => x &&& y) (rfl : i3 x2 = i3 x2) (i3Z (fun x y => x ^^^ y) (i3Z (fun x y => x <<< (y &&& 31)) (show (1 : Int32) = i3 1 from rfl) (rfl : i3 x4 = i3 x4)) (show (-1 : Int32) = i3 (-1) from rfl))) (by omega) (by omega) (by omega))) (show (128 : Int32) = i3 128 from rfl) (by omega) (by omega) (by omega) (by omega))) (show (128 : Int32) = i3 128 from rfl))) (zm_rd (Z := Z) (ν := ν) (k := 98) (show ((0 : Nat) : Int) = 0 from rfl) (show ((0 : Nat) : Int) = 0 from rfl) (i3I (y := x4) (rfl : i3 x4 = i3 x4) (by omega) (by omega) (by omega)))))) (zconso (zvo (i3A (rfl : i3 x4 = i3 x4) (show (1 : Int32) = i3 1 from rfl))) (zconso rfl rfl)))))), rfl,  by omega, by omega, by omega, by omega,  hP⟩
          · replace hP := zE_n hP h28
            have r31 := w3_r (((Z 99 0 0 (z2 (fun x y => x &&& y) x2 (z2 (fun x y => x ^^^ y) (z2 (fun x y => x <<< (y &&& 31)) 1 x4) (-1)))) - ((Z 99 0 0 (z2 (fun x y => x &&& y) x2 (z2 (fun x y => x ^^^ y) (z2 (fun x y => x <<< (y &&& 31)) 1 x4) (-1)))) % 128)) + 128)
            have r32 := w3_r ((w3 (((Z 99 0 0 (z2 (fun x y => x &&& y) x2 (z2 (fun x y => x ^^^ y) (z2 (fun x y => x <<< (y &&& 31)) 1 x4) (-1)))) - ((Z 99 0 0 (z2 (fun x y => x &&& y) x2 (z2 (fun x y => x ^^^ y) (z2 (fun x y => x <<< (y &&& 31)) 1 x4) (-1)))) % 128)) + 128)) + (Z 98 0 0 x4))
            refine wz_br (i3Le (rfl : i3 x3 = i3 x3) (i3W (i3A (i3W (i3A (i3S (zm_rd (Z := Z) (ν := ν) (k := 99) (show ((0 : Nat) : Int) = 0 from rfl) (show ((0 : Nat) : Int) = 0 from rfl) (i3I (y := (z2 (fun x y => x &&& y) x2 (z2 (fun x y => x ^^^ y) (z2 (fun x y => x <<< (y &&& 31)) 1 x4) (-1)))) (i3Z (fun x y => x &&& y) (rfl : i3 x2 = i3 x2) (i3Z (fun x y => x ^^^ y) (i3Z (fun x y => x <<< (y &&& 31)) (show (1 : Int32) = i3 1 from rfl) (rfl : i3 x4 = i3 x4)) (show (-1 : Int32) = i3 (-1) from rfl))) (by omega) (by omega) (by omega))) (i3R (zm_rd (Z := Z) (ν := ν) (k := 99) (show ((0 : Nat) : Int) = 0 from rfl) (show ((0 : Nat) : Int) = 0 from rfl) (i3I (y := (z2 (fun x y => x &&& y) x2 (z2 (fun x y => x ^^^ y) (z2 (fun x y => x <<< (y &&& 31)) 1 x4) (-1)))) (i3Z (fun x y => x &&& y) (rfl : i3 x2 = i3 x2) (i3Z (fun x y => x ^^^ y) (i3Z (fun x y => x <<< (y &&& 31)) (show (1 : Int32) = i3 1 from rfl) (rfl : i3 x4 = i3 x4)) (show (-1 : Int32) = i3 (-1) from rfl))) (by omega) (by omega) (by omega))) (show (128 : Int32) = i3 128 from rfl) (by omega) (by omega) (by omega) (by omega))) (show (128 : Int32) = i3 128 from rfl))) (zm_rd (Z := Z) (ν := ν) (k := 98) (show ((0 : Nat) : Int) = 0 from rfl) (show ((0 : Nat) : Int) = 0 from rfl) (i3I (y := x4) (rfl : i3 x4 = i3 x4) (by omega) (by omega) (by omega))))) (by omega) (by omega) (by omega) (by omega)) (fun h33 => ?_) (fun h33 => ?_)
            · replace hP := zE_p hP h33
              obtain ⟨m2, rfl⟩ : ∃ m2, m = m2 + 1 := ⟨m - 1, by omega⟩
              exact wz_k1 ⟨m2, by omega, x3, (x4 + 1), (zconso rfl (zconso (zvo (rfl : i3 x1 = i3 x1)) (zconso (zvo (rfl : i3 x2 = i3 x2)) (zconso (zvo (rfl : i3 x3 = i3 x3)) (zconso (zvo (i3A (rfl : i3 x4 = i3 x4) (show (1 : Int32) = i3 1 from rfl))) (zconso rfl rfl)))))), rfl,  by omega, by omega, by omega, by omega,  hP⟩
            · replace hP := zE_n hP h33
              obtain ⟨m2, rfl⟩ : ∃ m2, m = m2 + 1 := ⟨m - 1, by omega⟩
              exact wz_k1 ⟨m2, by omega, (w3 ((w3 (((Z 99 0 0 (z2 (fun x y => x &&& y) x2 (z2 (fun x y => x ^^^ y) (z2 (fun x y => x <<< (y &&& 31)) 1 x4) (-1)))) - ((Z 99 0 0 (z2 (fun x y => x &&& y) x2 (z2 (fun x y => x ^^^ y) (z2 (fun x y => x <<< (y &&& 31)) 1 x4) (-1)))) % 128)) + 128)) + (Z 98 0 0 x4))), (x4 + 1), (zconso rfl (zconso (zvo (rfl : i3 x1 = i3 x1)) (zconso (zvo (rfl : i3 x2 = i3 x2)) (zconso (zvo (i3W (i3A (i3W (i3A (i3S (zm_rd (Z := Z) (ν := ν) (k := 99) (show ((0 : Nat) : Int) = 0 from rfl) (show ((0 : Nat) : Int) = 0 from rfl) (i3I (y := (z2 (fun x y => x &&& y) x2 (z2 (fun x y => x ^^^ y) (z2 (fun x y => x <<< (y &&& 31)) 1 x4) (-1)))) (i3Z (fun x y => x &&& y) (rfl : i3 x2 = i3 x2) (i3Z (fun x y => x ^^^ y) (i3Z (fun x y => x <<< (y &&& 31)) (show (1 : Int32) = i3 1 from rfl) (rfl : i3 x4 = i3 x4)) (show (-1 : Int32) = i3 (-1) from rfl))) (by omega) (by omega) (by omega))) (i3R (zm_rd (Z := Z) (ν := ν) (k := 99) (show ((0 : Nat) : Int) = 0 from rfl) (show ((0 : Nat) : Int) = 0 from rfl) (i3I (y := (z2 (fun x y => x &&& y) x2 (z2 (fun x y => x ^^^ y) (z2 (fun x y => x <<< (y &&& 31)) 1 x4) (-1)))) (i3Z (fun x y => x &&& y) (rfl : i3 x2 = i3 x2) (i3Z (fun x y => x ^^^ y) (i3Z (fun x y => x <<< (y &&& 31)) (show (1 : Int32) = i3 1 from rfl) (rfl : i3 x4 = i3 x4)) (show (-1 : Int32) = i3 (-1) from rfl))) (by omega) (by omega) (by omega))) (show (128 : Int32) = i3 128 from rfl) (by omega) (by omega) (by omega) (by omega))) (show (128 : Int32) = i3 128 from rfl))) (zm_rd (Z := Z) (ν := ν) (k := 98) (show ((0 : Nat) : Int) = 0 from rfl) (show ((0 : Nat) : Int) = 0 from rfl) (i3I (y := x4) (rfl : i3 x4 = i3 x4) (by omega) (by omega) (by omega)))))) (zconso (zvo (i3A (rfl : i3 x4 = i3 x4) (show (1 : Int32) = i3 1 from rfl))) (zconso rfl rfl)))))), rfl,  by omega, by omega, by omega, by omega,  hP⟩
        · replace hP := zE_n hP h27
          refine wz_br (i3E (rfl : i3 x3 = i3 x3) (show (-1 : Int32) = i3 (-1) from rfl) (by omega) (by omega) (by omega) (by omega)) (fun h34 => ?_) (fun h34 => ?_)
          · replace hP := zE_p hP h34
            have r35 := w3_r ((Z 99 0 0 (z2 (fun x y => x &&& y) x2 (z2 (fun x y => x ^^^ y) (z2 (fun x y => x <<< (y &&& 31)) 1 x4) (-1)))) + (Z 98 0 0 x4))
            obtain ⟨m2, rfl⟩ : ∃ m2, m = m2 + 1 := ⟨m - 1, by omega⟩
            exact wz_k1 ⟨m2, by omega, (w3 ((Z 99 0 0 (z2 (fun x y => x &&& y) x2 (z2 (fun x y => x ^^^ y) (z2 (fun x y => x <<< (y &&& 31)) 1 x4) (-1)))) + (Z 98 0 0 x4))), (x4 + 1), (zconso rfl (zconso (zvo (rfl : i3 x1 = i3 x1)) (zconso (zvo (rfl : i3 x2 = i3 x2)) (zconso (zvo (i3W (i3A (zm_rd (Z := Z) (ν := ν) (k := 99) (show ((0 : Nat) : Int) = 0 from rfl) (show ((0 : Nat) : Int) = 0 from rfl) (i3I (y := (z2 (fun x y => x &&& y) x2 (z2 (fun x y => x ^^^ y) (z2 (fun x y => x <<< (y &&& 31)) 1 x4) (-1)))) (i3Z (fun x y => x &&& y) (rfl : i3 x2 = i3 x2) (i3Z (fun x y => x ^^^ y) (i3Z (fun x y => x <<< (y &&& 31)) (show (1 : Int32) = i3 1 from rfl) (rfl : i3 x4 = i3 x4)) (show (-1 : Int32) = i3 (-1) from rfl))) (by omega) (by omega) (by omega))) (zm_rd (Z := Z) (ν := ν) (k := 98) (show ((0 : Nat) : Int) = 0 from rfl) (show ((0 : Nat) : Int) = 0 from rfl) (i3I (y := x4) (rfl : i3 x4 = i3 x4) (by omega) (by omega) (by omega)))))) (zconso (zvo (i3A (rfl : i3 x4 = i3 x4) (show (1 : Int32) = i3 1 from rfl))) (zconso rfl rfl)))))), rfl,  by omega, by omega, by omega, by omega,  hP⟩
          · replace hP := zE_n hP h34
            have r36 := w3_r ((Z 99 0 0 (z2 (fun x y => x &&& y) x2 (z2 (fun x y => x ^^^ y) (z2 (fun x y => x <<< (y &&& 31)) 1 x4) (-1)))) + (Z 98 0 0 x4))
            refine wz_br (i3Le (rfl : i3 x3 = i3 x3) (i3W (i3A (zm_rd (Z := Z) (ν := ν) (k := 99) (show ((0 : Nat) : Int) = 0 from rfl) (show ((0 : Nat) : Int) = 0 from rfl) (i3I (y := (z2 (fun x y => x &&& y) x2 (z2 (fun x y => x ^^^ y) (z2 (fun x y => x <<< (y &&& 31)) 1 x4) (-1)))) (i3Z (fun x y => x &&& y) (rfl : i3 x2 = i3 x2) (i3Z (fun x y => x ^^^ y) (i3Z (fun x y => x <<< (y &&& 31)) (show (1 : Int32) = i3 1 from rfl) (rfl : i3 x4 = i3 x4)) (show (-1 : Int32) = i3 (-1) from rfl))) (by omega) (by omega) (by omega))) (zm_rd (Z := Z) (ν := ν) (k := 98) (show ((0 : Nat) : Int) = 0 from rfl) (show ((0 : Nat) : Int) = 0 from rfl) (i3I (y := x4) (rfl : i3 x4 = i3 x4) (by omega) (by omega) (by omega))))) (by omega) (by omega) (by omega) (by omega)) (fun h37 => ?_) (fun h37 => ?_)
            · replace hP := zE_p hP h37
              obtain ⟨m2, rfl⟩ : ∃ m2, m = m2 + 1 := ⟨m - 1, by omega⟩
              exact wz_k1 ⟨m2, by omega, x3, (x4 + 1), (zconso rfl (zconso (zvo (rfl : i3 x1 = i3 x1)) (zconso (zvo (rfl : i3 x2 = i3 x2)) (zconso (zvo (rfl : i3 x3 = i3 x3)) (zconso (zvo (i3A (rfl : i3 x4 = i3 x4) (show (1 : Int32) = i3 1 from rfl))) (zconso rfl rfl)))))), rfl,  by omega, by omega, by omega, by omega,  hP⟩
            · replace hP := zE_n hP h37
              obtain ⟨m2, rfl⟩ : ∃ m2, m = m2 + 1 := ⟨m - 1, by omega⟩
              exact wz_k1 ⟨m2, by omega, (w3 ((Z 99 0 0 (z2 (fun x y => x &&& y) x2 (z2 (fun x y => x ^^^ y) (z2 (fun x y => x <<< (y &&& 31)) 1 x4) (-1)))) + (Z 98 0 0 x4))), (x4 + 1), (zconso rfl (zconso (zvo (rfl : i3 x1 = i3 x1)) (zconso (zvo (rfl : i3 x2 = i3 x2)) (zconso (zvo (i3W (i3A (zm_rd (Z := Z) (ν := ν) (k := 99) (show ((0 : Nat) : Int) = 0 from rfl) (show ((0 : Nat) : Int) = 0 from rfl) (i3I (y := (z2 (fun x y => x &&& y) x2 (z2 (fun x y => x ^^^ y) (z2 (fun x y => x <<< (y &&& 31)) 1 x4) (-1)))) (i3Z (fun x y => x &&& y) (rfl : i3 x2 = i3 x2) (i3Z (fun x y => x ^^^ y) (i3Z (fun x y => x <<< (y &&& 31)) (show (1 : Int32) = i3 1 from rfl) (rfl : i3 x4 = i3 x4)) (show (-1 : Int32) = i3 (-1) from rfl))) (by omega) (by omega) (by omega))) (zm_rd (Z := Z) (ν := ν) (k := 98) (show ((0 : Nat) : Int) = 0 from rfl) (show ((0 : Nat) : Int) = 0 from rfl) (i3I (y := x4) (rfl : i3 x4 = i3 x4) (by omega) (by omega) (by omega)))))) (zconso (zvo (i3A (rfl : i3 x4 = i3 x4) (show (1 : Int32) = i3 1 from rfl))) (zconso rfl rfl)))))), rfl,  by omega, by omega, by omega, by omega,  hP⟩
/- yX12_tFewest -/
def zl_510_3 (x1 : Int) : Nat → qz_Z → Int → qz_Z × Int
  | 0, Z, x2 => (Z, x2)
  | m + 1, Z, x2 => (if (z2 (fun x y => x <<< (y &&& 31)) 1 (Z 1 0 0 28)) ≤ x2 then (Z, x2) else (zlet2 (zl_510_1 x1 x2 11 Z (-1) 0) (fun y5 y6 => (zlet (zu Z 99 0 0 x2 y5) (fun Z8 => zl_510_3 x1 m Z8 (x2 + 1))))))
theorem sl_510_3 {s : zSM} {Zs Z : qz_Z} {ν : qz_N} (hZ : zM s Z) (hM : s.2 + 0 ≤ 1000000000) (hK : zC [99] Zs Z) {x1 : Int} (gx1 : 10 ≤ x1 ∧ x1 ≤ 99) {x2 : Int} (gx2 : 1 ≤ x2 ∧ x2 ≤ 1024) (hU : zU [] Zs Z) (gr0 : Z 1 0 0 28 ≤ 10) {k : wz_K} {R : wz_R} {L : qz_L} (hL : qz_fg [true, true, true, false, false, false] L = [some (.inr (.inr (some (1, 0, 0)))), some (.inl (i3 x1)), some (.inl (i3 x2)), none, none, none]) {T : qz_Z × Int} (hP : zE T (zl_510_3 x1 ((1024 - x2).toNat + 1) Z x2)) (hk : ∀ (L9 : qz_L) (Z9 : qz_Z) (yx2 : Int), qz_fg [true, false, false, false, false, false] L9 = [some (.inr (.inr (some (1, 0, 0)))), none, none, none, none, none] → zM s Z9 → zC [99] Zs Z9 → zU [] Zs Z9 → (1 ≤ yx2 ∧ yx2 ≤ 1024) → (Z9 1 0 0 28 ≤ 10) → zE T ((Z9, yx2)) → k 0 (L9, [], zm Z9 ν)) : wz_loop qb_510_3 65536 k R (L, [], zm Z ν) := by
  refine wz_lp sb_510_3 (fun m x => ∃ Z : qz_Z, ∃ x2 : Int, qz_fg [true, true, true, false, false, false] x.1 = [some (.inr (.inr (some (1, 0, 0)))), some (.inl (i3 x1)), some (.inl (i3 x2)), none, none, none] ∧ x.2 = ([], zm Z ν) ∧ zM s Z ∧ zC [99] Zs Z ∧ zU [] Zs Z ∧ m = (1024 - x2).toNat ∧ (1 ≤ x2 ∧ x2 ≤ 1024) ∧ (Z 1 0 0 28 ≤ 10) ∧ zE T (zl_510_3 x1 (m + 1) Z x2)) ?_ 65536 ((1024 - x2).toNat) _ (by omega) ⟨Z, x2, hL, rfl, hZ, hK, hU, rfl, gx2, gr0, hP⟩
  clear hP gr0 gx2 hZ hK hU hL
  clear x2
  clear Z
  rintro m ⟨L, st, μ⟩ ⟨Z, x2, hL, hx, hZ, hK, hU, hm, gx2, gr0, hP⟩
  cases hx
  refine fb_510_3 (i3 x1) (i3 x2) _ _ _ _ hL ?_
  have r1 := zM_k hZ 1 0 0 28 (lo := 0) (hi := 60) (by decide) rfl
  have r2 := z2_r (fun x y => x <<< (y &&& 31)) 1 (Z 1 0 0 28)
  have r3 := z2_shl10 (n := (Z 1 0 0 28)) (by omega) (by omega)
  refine wz_br (i3Le (i3Z (fun x y => x <<< (y &&& 31)) (show (1 : Int32) = i3 1 from rfl) (zm_rd (Z := Z) (ν := ν) (k := 1) (show ((0 : Nat) : Int) = 0 from rfl) (show ((0 : Nat) : Int) = 0 from rfl) (show ((28 : Nat) : Int) = 28 from rfl))) (rfl : i3 x2 = i3 x2) (by omega) (by omega) (by omega) (by omega)) (fun h4 => ?_) (fun h4 => ?_)
  · replace hP := zE_p hP h4
    exact hk _ _ _ (zconso rfl (zconso rfl (zconso rfl (zconso rfl (zconso rfl (zconso rfl rfl)))))) hZ hK hU (by omega) (by omega) hP
  · replace hP := zE_n hP h4
    refine sl_510_1 (ν := ν) hZ (zbh (c := 0) (k := 0) hM (Nat.le_of_ble_eq_true rfl)) (x1 := x1) (by omega) (x2 := x2) (by omega) (x3 := (-1)) (by omega) (x4 := 0) (by omega) (by omega) (zconso rfl (zconso (zvo (rfl : i3 x1 = i3 x1)) (zconso (zvo (rfl : i3 x2 = i3 x2)) (zconso (zvo (show (-1 : Int32) = i3 (-1) from rfl)) (zconso (zvo (show (0 : Int32) = i3 0 from rfl)) (zconso rfl rfl)))))) rfl ?_
    intro L7 y5 y6 hL7 gy5 gy6 gL7_0 q9
    replace hP := zl_e2 hP (Eq.symm q9)
    clear q9
    refine fc_510_2 (i3 x1) (i3 x2) (i3 y5) _ _ _ _ hL7 ?_
    refine wz_i0 (i3O (n := 1024) (rfl : i3 x2 = i3 x2) (by omega) (by omega) (by omega)) ?_
    obtain ⟨Z8, hZ8⟩ := zx (zu Z 99 0 0 x2 y5)
    replace hP := zl_e hP hZ8
    have hZ8I := zM_u hZ hZ8 (lo := -2147483648) (hi := 2147483647) (by decide) rfl (by omega) ⟨by decide, by decide⟩ (Or.inl (by decide)) rfl
    have hZ8U : zU [] Zs Z8 := zU_u hU hZ8 (Or.inl rfl)
    have hZ8K : zC [99] Zs Z8 := zC_u hK hZ8 rfl
    intro μ9 e9
    replace e9 := e9.trans (zm_wI (Z := Z) (ν := ν) hZ8 (show ((0 : Nat) : Int) = 0 from rfl) (show ((0 : Nat) : Int) = 0 from rfl) (i3I (y := x2) (rfl : i3 x2 = i3 x2) (by omega) (by omega) (by omega)) (rfl : i3 y5 = i3 y5))
    subst e9
    have r9 := zM_k hZ8I 1 0 0 28 (lo := 0) (hi := 60) (by decide) rfl
    have q10 := zu_ne (k' := 1) (b' := 0) (i' := 0) (j' := 28) hZ8 (fun q => absurd q.1 (by decide))
    obtain ⟨m2, rfl⟩ : ∃ m2, m = m2 + 1 := ⟨m - 1, by omega⟩
    refine wz_kbs (n := 1) (?_)
    exact wz_k1 ⟨m2, by omega, Z8, (x2 + 1), (zconso rfl (zconso (zvo (rfl : i3 x1 = i3 x1)) (zconso (zvo (i3A (rfl : i3 x2 = i3 x2) (show (1 : Int32) = i3 1 from rfl))) (zconso rfl (zconso rfl (zconso rfl rfl)))))), rfl, hZ8I, hZ8K, hZ8U, by omega, by omega, by omega,  hP⟩
/- yX12_tFewest -/
def zf_510 (Z : qz_Z) (a1 : Int) : qz_Z × Int := (zlet (zu Z 99 0 0 0 0) (fun Z1 => (zlet2 (zl_510_3 a1 1024 Z1 1) (fun Z3 y2 => (Z3, (z2 (fun x y => x / y) (Z3 99 0 0 (w3 ((z2 (fun x y => x <<< (y &&& 31)) 1 (Z3 1 0 0 28)) - 1))) 128))))))
theorem sp_510 {s : zSM} {Z : qz_Z} {ν : qz_N} (hZ : zM s Z) {a1 : Int} (ga1 : 10 ≤ a1 ∧ a1 ≤ 99) (gx0 : Z 1 0 0 28 ≤ 10) (hM : s.2 + 0 ≤ 1000000000) : ∃ (Z1 : qz_Z) (P : Int), (Z1, P) = zf_510 Z a1 ∧ (qf_510 [.inr (.inr (some (1, 0, 0))), .inl (i3 a1)] (zm Z ν) = some (zm Z1 ν, .inl (some (.inl (i3 P)))) ∧ zM s Z1 ∧ zC [99] Z Z1 ∧ zU [] Z Z1 ∧ -2147483648 ≤ P ∧ P ≤ 2147483647) := by sorry
/- yX12_tLayParts -/
def zl_517_1 (x1 : Int) : Nat → qz_Z → Int → qz_Z × Int
  | 0, Z, x2 => (Z, x2)
  | m + 1, Z, x2 => (if (Z 2 0 0 2000) ≤ x2 then (Z, x2) else (if (Z 2 0 0 (2019 + 16 * x2)) ≠ 0 then zl_517_1 x1 m Z (x2 + 1) else (if x1 = 5 then (zlet (zu Z 98 0 0 (Z 1 0 0 28) (Z 2 0 0 (2013 + 16 * x2))) (fun Z9 => (zlet (zu Z9 1 0 0 28 ((Z9 1 0 0 28) + 1)) (fun Z12 => zl_517_1 x1 m Z12 (x2 + 1))))) else (if (Z 2 0 0 (1410 + 12 * (Z 2 0 0 (2011 + 16 * x2)))) ≠ x1 then zl_517_1 x1 m Z (x2 + 1) else (zlet (zu Z 98 0 0 (Z 1 0 0 28) (Z 2 0 0 (2013 + 16 * x2))) (fun Z18 => (zlet (zu Z18 1 0 0 28 ((Z18 1 0 0 28) + 1)) (fun Z21 => zl_517_1 x1 m Z21 (x2 + 1)))))))))
theorem sl_517_1 {s : zSM} {Zs Z : qz_Z} {ν : qz_N} (hZ : zM s Z) (hM : s.2 + 0 ≤ 1000000000) (hK : zC [1, 98] Zs Z) {x1 : Int} (gx1 : 0 ≤ x1 ∧ x1 ≤ 5) {x2 : Int} (gx2 : 0 ≤ x2 ∧ x2 ≤ 60) (hU : zU [] Zs Z) {k : wz_K} {R : wz_R} {L : qz_L} (hL : qz_fg [true, true, true] L = [some (.inr (.inr (some (1, 0, 0)))), some (.inl (i3 x1)), some (.inl (i3 x2))]) {T : qz_Z × Int} (hP : zE T (zl_517_1 x1 ((60 - x2).toNat + 1) Z x2)) (hk : ∀ (L9 : qz_L) (Z9 : qz_Z) (yx2 : Int), qz_fg [false, false, false] L9 = [none, none, none] → zM s Z9 → zC [1, 98] Zs Z9 → zU [] Zs Z9 → (0 ≤ yx2 ∧ yx2 ≤ 60) → zE T ((Z9, yx2)) → k 0 (L9, [], zm Z9 ν)) : wz_loop qb_517_1 65536 k R (L, [], zm Z ν) := by sorry
/- yX12_tLayParts -/
def zf_517 (Z : qz_Z) (a1 : Int) : qz_Z := (zlet (zu Z 1 0 0 28 0) (fun Z1 => (zlet2 (zl_517_1 a1 61 Z1 0) (fun Z3 y2 => Z3))))
theorem sp_517 {s : zSM} {Z : qz_Z} {ν : qz_N} (hZ : zM s Z) {a1 : Int} (ga1 : 0 ≤ a1 ∧ a1 ≤ 5) (hM : s.2 + 0 ≤ 1000000000) : ∃ P : qz_Z, P = zf_517 Z a1 ∧ (qf_517 [.inr (.inr (some (1, 0, 0))), .inl (i3 a1)] (zm Z ν) = some (zm P ν, .inl none) ∧ zM s P ∧ zC [1, 98] Z P ∧ zU [] Z P) := by
  obtain ⟨P, hP⟩ := zx (zf_517 Z a1)
  refine zc_V (Q := fun P => zM s P ∧ zC [1, 98] Z P ∧ zU [] Z P) hP (fw_517 (i3 a1) _ _ ?_)
  replace hP : zE P (zf_517 Z a1) := hP
  unfold zf_517 at hP
  obtain ⟨Z1, hZ1⟩ := zx (zu Z 1 0 0 28 0)
  replace hP := zl_e hP hZ1
  have hZ1I := zM_0 hZ hZ1 (by decide) (Or.inr (by decide))
  have hZ1U : zU [] Z Z1 := zU_u zU_r hZ1 (Or.inl rfl)
  have hZ1K : zC [1, 98] Z Z1 := zC_u zC_r hZ1 (by decide)
  intro μ9 e9
  replace e9 := e9.trans (zm_wI (Z := Z) (ν := ν) hZ1 (show ((0 : Nat) : Int) = 0 from rfl) (show ((0 : Nat) : Int) = 0 from rfl) (show ((28 : Nat) : Int) = 28 from rfl) (show (0 : Int32) = i3 0 from rfl))
  subst e9
  refine sl_517_1 (ν := ν) hZ1I (zbh (c := 0) (k := 0) hM (Nat.le_of_ble_eq_true rfl)) zC_r (x1 := a1) (by omega) (x2 := 0) (by omega) zU_r  (zconso rfl (zconso (zvo (rfl : i3 a1 = i3 a1)) (zconso (zvo (show (0 : Int32) = i3 0 from rfl)) rfl))) rfl ?_
  intro L4 Z3 y2 hL4 hZ3I kZ3 jZ3 gy2 q9
  replace hP := zl_e2 hP (Eq.symm q9)
  clear q9
  have hZ3U : zU [] Z Z3 := zU_t hZ1U jZ3 zU_b0
  have hZ3K : zC [1, 98] Z Z3 := zC_t hZ1K kZ3 (by decide)
  refine fc_517_2  _ _ _ _ hL4 ?_
  exact zlV hP ⟨hZ3I, hZ3K, hZ3U⟩
/- yX12_fewest -/
def zy_341 (Z : qz_Z) (a1 : Int) (a2 : Int) : qz_Z × Int := (if a2 < 0 then (zlet (zu Z 1 0 0 2 1) (fun Z5 => (Z5, 0))) else (if 5 < a2 then (zlet (zu Z 1 0 0 2 1) (fun Z7 => (Z7, 0))) else (zlet (zu Z 1 0 0 2 0) (fun Z8 => (if a1 < 10 then (zlet (zu Z8 1 0 0 2 2) (fun Z10 => (Z10, 0))) else (if 99 < a1 then (zlet (zu Z8 1 0 0 2 2) (fun Z12 => (Z12, 0))) else (zlet (zu Z8 1 0 0 2 0) (fun Z13 => (zlet (zf_517 Z13 a2) (fun Z14 => (zlet (zf_258 Z14 a1) (fun v15 => (if v15 = 0 then (zlet (zu Z14 1 0 0 2 3) (fun Z19 => (Z19, 0))) else (zlet (zu Z14 1 0 0 2 0) (fun Z20 => (zlet2 (zf_510 Z20 a1) (fun Z23 v24 => (Z23, v24))))))))))))))))))
theorem sy_341 {s : zSM} {Z : qz_Z} {ν : qz_N} (hZ : zM s Z) (gq : Z 1 0 0 35 = 0) (hM : s.2 + 0 ≤ 1000000000) {a1 : Int} (ga1 : -2147483648 ≤ a1 ∧ a1 ≤ 2147483647) {a2 : Int} (ga2 : -2147483648 ≤ a2 ∧ a2 ≤ 2147483647) {ν1 : qz_N} : ∃ (Z1 : qz_Z) (ν2 : qz_N) (v : Int), (Z1, v) = zy_341 Z a1 a2 ∧ (ν2 = ν ∨ ν2 = ν1) ∧ qf_341 [.inr (.inr (some (1, 0, 0))), .inl (i3 a1), .inl (i3 a2)] (zm Z ν) = some (zm Z1 ν2, .inl (some (.inl (i3 v)))) ∧ (fun Z1 => zM s Z1 ∧ zC [1, 98, 99] Z Z1 ∧ zU [] Z Z1) Z1 := by
  obtain ⟨P, hP⟩ := zx (zy_341 Z a1 a2)
  refine zc_Y (Q := fun Z1 => zM s Z1 ∧ zC [1, 98, 99] Z Z1 ∧ zU [] Z Z1) hP (fw_341 (i3 a1) (i3 a2) _ _ ?_)
  replace hP : zE P (zy_341 Z a1 a2) := hP
  unfold zy_341 at hP
  have r1 := zM_k hZ 1 0 0 35 (lo := 0) (hi := 1) (by decide) rfl
  have r2 := zM_k hZ 1 0 0 34 (lo := 0) (hi := 8) (by decide) rfl
  have r3 := zM_f hZ 1 0 0 37
  refine wz_br (i3L (rfl : i3 a2 = i3 a2) (show (0 : Int32) = i3 0 from rfl) (by omega) (by omega) (by omega) (by omega)) (fun h4 => ?_) (fun h4 => ?_)
  · replace hP := zE_p hP h4
    obtain ⟨Z5, hZ5⟩ := zx (zu Z 1 0 0 2 1)
    replace hP := zl_e hP hZ5
    have hZ5I := zM_u hZ hZ5 (lo := -2147483648) (hi := 2147483647) (by decide) rfl (by omega) ⟨by decide, by decide⟩ (Or.inr (by decide)) rfl
    have hZ5U : zU [] Z Z5 := zU_u zU_r hZ5 (Or.inl rfl)
    have hZ5K : zC [1, 98, 99] Z Z5 := zC_u zC_r hZ5 (by decide)
    intro μ9 e9
    replace e9 := e9.trans (zm_wI (Z := Z) (ν := ν) hZ5 (show ((0 : Nat) : Int) = 0 from rfl) (show ((0 : Nat) : Int) = 0 from rfl) (show ((2 : Nat) : Int) = 2 from rfl) (show (1 : Int32) = i3 1 from rfl))
    subst e9
    exact zlY hP (show (0 : Int32) = i3 0 from rfl) (.inl rfl) ⟨hZ5I, hZ5K, hZ5U⟩
  · replace hP := zE_n hP h4
    refine wz_br (i3L (show (5 : Int32) = i3 5 from rfl) (rfl : i3 a2 = i3 a2) (by omega) (by omega) (by omega) (by omega)) (fun h6 => ?_) (fun h6 => ?_)
    · replace hP := zE_p hP h6
      obtain ⟨Z7, hZ7⟩ := zx (zu Z 1 0 0 2 1)
      replace hP := zl_e hP hZ7
      have hZ7I := zM_u hZ hZ7 (lo := -2147483648) (hi := 2147483647) (by decide) rfl (by omega) ⟨by decide, by decide⟩ (Or.inr (by decide)) rfl
      have hZ7U : zU [] Z Z7 := zU_u zU_r hZ7 (Or.inl rfl)
      have hZ7K : zC [1, 98, 99] Z Z7 := zC_u zC_r hZ7 (by decide)
      intro μ9 e9
      replace e9 := e9.trans (zm_wI (Z := Z) (ν := ν) hZ7 (show ((0 : Nat) : Int) = 0 from rfl) (show ((0 : Nat) : Int) = 0 from rfl) (show ((2 : Nat) : Int) = 2 from rfl) (show (1 : Int32) = i3 1 from rfl))
      subst e9
      exact zlY hP (show (0 : Int32) = i3 0 from rfl) (.inl rfl) ⟨hZ7I, hZ7K, hZ7U⟩
    · replace hP := zE_n hP h6
      obtain ⟨Z8, hZ8⟩ := zx (zu Z 1 0 0 2 0)
      replace hP := zl_e hP hZ8
      have hZ8I := zM_0 hZ hZ8 (by decide) (Or.inr (by decide))
      have hZ8U : zU [] Z Z8 := zU_u zU_r hZ8 (Or.inl rfl)
      have hZ8K : zC [1, 98, 99] Z Z8 := zC_u zC_r hZ8 (by decide)
      intro μ9 e9
      replace e9 := e9.trans (zm_wI (Z := Z) (ν := ν) hZ8 (show ((0 : Nat) : Int) = 0 from rfl) (show ((0 : Nat) : Int) = 0 from rfl) (show ((2 : Nat) : Int) = 2 from rfl) (show (0 : Int32) = i3 0 from rfl))
      subst e9
      refine wz_br (i3L (rfl : i3 a1 = i3 a1) (show (10 : Int32) = i3 10 from rfl) (by omega) (by omega) (by omega) (by omega)) (fun h9 => ?_) (fun h9 => ?_)
      · replace hP := zE_p hP h9
        obtain ⟨Z10, hZ10⟩ := zx (zu Z8 1 0 0 2 2)
        replace hP := zl_e hP hZ10
        have hZ10I := zM_u hZ8I hZ10 (lo := -2147483648) (hi := 2147483647) (by decide) rfl (by omega) ⟨by decide, by decide⟩ (Or.inr (by decide)) rfl
        have hZ10U : zU [] Z Z10 := zU_u hZ8U hZ10 (Or.inl rfl)
        have hZ10K : zC [1, 98, 99] Z Z10 := zC_u hZ8K hZ10 (by decide)
        intro μ9 e9
        replace e9 := e9.trans (zm_wI (Z := Z8) (ν := ν) hZ10 (show ((0 : Nat) : Int) = 0 from rfl) (show ((0 : Nat) : Int) = 0 from rfl) (show ((2 : Nat) : Int) = 2 from rfl) (show (2 : Int32) = i3 2 from rfl))
        subst e9
        exact zlY hP (show (0 : Int32) = i3 0 from rfl) (.inl rfl) ⟨hZ10I, hZ10K, hZ10U⟩
      · replace hP := zE_n hP h9
        refine wz_br (i3L (show (99 : Int32) = i3 99 from rfl) (rfl : i3 a1 = i3 a1) (by omega) (by omega) (by omega) (by omega)) (fun h11 => ?_) (fun h11 => ?_)
        · replace hP := zE_p hP h11
          obtain ⟨Z12, hZ12⟩ := zx (zu Z8 1 0 0 2 2)
          replace hP := zl_e hP hZ12
          have hZ12I := zM_u hZ8I hZ12 (lo := -2147483648) (hi := 2147483647) (by decide) rfl (by omega) ⟨by decide, by decide⟩ (Or.inr (by decide)) rfl
          have hZ12U : zU [] Z Z12 := zU_u hZ8U hZ12 (Or.inl rfl)
          have hZ12K : zC [1, 98, 99] Z Z12 := zC_u hZ8K hZ12 (by decide)
          intro μ9 e9
          replace e9 := e9.trans (zm_wI (Z := Z8) (ν := ν) hZ12 (show ((0 : Nat) : Int) = 0 from rfl) (show ((0 : Nat) : Int) = 0 from rfl) (show ((2 : Nat) : Int) = 2 from rfl) (show (2 : Int32) = i3 2 from rfl))
          subst e9
          exact zlY hP (show (0 : Int32) = i3 0 from rfl) (.inl rfl) ⟨hZ12I, hZ12K, hZ12U⟩
        · replace hP := zE_n hP h11
          obtain ⟨Z13, hZ13⟩ := zx (zu Z8 1 0 0 2 0)
          replace hP := zl_e hP hZ13
          have hZ13I := zM_0 hZ8I hZ13 (by decide) (Or.inr (by decide))
          have hZ13U : zU [] Z Z13 := zU_u hZ8U hZ13 (Or.inl rfl)
          have hZ13K : zC [1, 98, 99] Z Z13 := zC_u hZ8K hZ13 (by decide)
          intro μ9 e9
          replace e9 := e9.trans (zm_wI (Z := Z8) (ν := ν) hZ13 (show ((0 : Nat) : Int) = 0 from rfl) (show ((0 : Nat) : Int) = 0 from rfl) (show ((2 : Nat) : Int) = 2 from rfl) (show (0 : Int32) = i3 0 from rfl))
          subst e9
          obtain ⟨Z14, hZ14, c9, hZ14I, kZ14, jZ14⟩ := sp_517 (ν := ν) hZ13I (a1 := a2) (by omega) (zbh (c := 0) (k := 0) hM (Nat.le_of_ble_eq_true rfl))
          have hZ14U : zU [] Z Z14 := zU_t hZ13U jZ14 zU_b0
          have hZ14K : zC [1, 98, 99] Z Z14 := zC_t hZ13K kZ14 (by decide)
          replace hP := zl_e hP hZ14
          refine wz_cV_of (zas (zcons rfl (zcons (zvi (rfl : i3 a2 = i3 a2)) rfl)) c9) ?_
          clear c9
          obtain ⟨v15, hv15, c9, lv15, uv15, wv150⟩ := sp_258 (ν := ν) hZ14I (a1 := a1) (by omega) (zbh (c := 0) (k := 0) hM (Nat.le_of_ble_eq_true rfl))
          replace hP := zl_e hP hv15
          refine wz_cI_of (zas (zcons rfl (zcons (zvi (rfl : i3 a1 = i3 a1)) rfl)) c9) ?_
          clear c9
          have r16 := zM_k hZ14I 1 0 0 28 (lo := 0) (hi := 60) (by decide) rfl
          have w17 : v15 = 0 ∨ Z14 1 0 0 28 ≤ 10 := wv150
          refine wz_br (i3E (rfl : i3 v15 = i3 v15) (show (0 : Int32) = i3 0 from rfl) (by omega) (by omega) (by omega) (by omega)) (fun h18 => ?_) (fun h18 => ?_)
          · replace hP := zE_p hP h18
            obtain ⟨Z19, hZ19⟩ := zx (zu Z14 1 0 0 2 3)
            replace hP := zl_e hP hZ19
            have hZ19I := zM_u hZ14I hZ19 (lo := -2147483648) (hi := 2147483647) (by decide) rfl (by omega) ⟨by decide, by decide⟩ (Or.inr (by decide)) rfl
            have hZ19U : zU [] Z Z19 := zU_u hZ14U hZ19 (Or.inl rfl)
            have hZ19K : zC [1, 98, 99] Z Z19 := zC_u hZ14K hZ19 (by decide)
            intro μ9 e9
            replace e9 := e9.trans (zm_wI (Z := Z14) (ν := ν) hZ19 (show ((0 : Nat) : Int) = 0 from rfl) (show ((0 : Nat) : Int) = 0 from rfl) (show ((2 : Nat) : Int) = 2 from rfl) (show (3 : Int32) = i3 3 from rfl))
            subst e9
            refine wz_i0 (Eq.trans (i3NE (rfl : i3 v15 = i3 v15) (show (0 : Int32) = i3 0 from rfl) (by omega) (by omega) (by omega) (by omega)) (decide_eq_false (by omega))) ?_
            exact zlY hP (show (0 : Int32) = i3 0 from rfl) (.inl rfl) ⟨hZ19I, hZ19K, hZ19U⟩
          · replace hP := zE_n hP h18
            obtain ⟨Z20, hZ20⟩ := zx (zu Z14 1 0 0 2 0)
            replace hP := zl_e hP hZ20
            have hZ20I := zM_0 hZ14I hZ20 (by decide) (Or.inr (by decide))
            have hZ20U : zU [] Z Z20 := zU_u hZ14U hZ20 (Or.inl rfl)
            have hZ20K : zC [1, 98, 99] Z Z20 := zC_u hZ14K hZ20 (by decide)
            intro μ9 e9
            replace e9 := e9.trans (zm_wI (Z := Z14) (ν := ν) hZ20 (show ((0 : Nat) : Int) = 0 from rfl) (show ((0 : Nat) : Int) = 0 from rfl) (show ((2 : Nat) : Int) = 2 from rfl) (show (0 : Int32) = i3 0 from rfl))
            subst e9
            refine wz_i1 (Eq.trans (i3NE (rfl : i3 v15 = i3 v15) (show (0 : Int32) = i3 0 from rfl) (by omega) (by omega) (by omega) (by omega)) (decide_eq_true (by omega))) ?_
            have r21 := zM_k hZ20I 1 0 0 28 (lo := 0) (hi := 60) (by decide) rfl
            have q22 := zu_ne (k' := 1) (b' := 0) (i' := 0) (j' := 28) hZ20 (fun q => absurd q.2.2.2 (by decide))
            obtain ⟨Z23, v24, hv24, c9, hZ23I, kZ23, jZ23, lv24, uv24⟩ := sp_510 (ν := ν) hZ20I (a1 := a1) (by omega) (by omega) (zbh (c := 0) (k := 0) hM (Nat.le_of_ble_eq_true rfl))
            have hZ23U : zU [] Z Z23 := zU_t hZ20U jZ23 zU_b0
            have hZ23K : zC [1, 98, 99] Z Z23 := zC_t hZ20K kZ23 (by decide)
            replace hP := zl_e2 hP hv24
            refine wz_cI_of (zas (zcons rfl (zcons (zvi (rfl : i3 a1 = i3 a1)) rfl)) c9) ?_
            clear c9 hv24
            exact zlY hP (rfl : i3 v24 = i3 v24) (.inl rfl) ⟨hZ23I, hZ23K, hZ23U⟩
/- yX12_found -/
def zy_342 (Z : qz_Z) (a1 : Int) (a2 : Int) : qz_Z × Int := (if a1 < 0 then (zlet (zu Z 1 0 0 2 1) (fun Z5 => (Z5, 0))) else (if ((Z 2 0 0 3501) - 1) < a1 then (zlet (zu Z 1 0 0 2 1) (fun Z8 => (Z8, 0))) else (zlet (zu Z 1 0 0 2 0) (fun Z9 => (if a2 < 0 then (zlet (zu Z9 1 0 0 2 2) (fun Z11 => (Z11, 0))) else (if 5 < a2 then (zlet (zu Z9 1 0 0 2 2) (fun Z13 => (Z13, 0))) else (zlet (zu Z9 1 0 0 2 0) (fun Z14 => (Z14, (Z14 2 0 0 (3554 + 6 * (Z14 2 0 0 3501) + (-6) * a1 + a2)))))))))))
theorem sy_342 {s : zSM} {Z : qz_Z} {ν : qz_N} (hZ : zM s Z) (gq : Z 1 0 0 35 = 0) (hM : s.2 + 0 ≤ 1000000000) {a1 : Int} (ga1 : -2147483648 ≤ a1 ∧ a1 ≤ 2147483647) {a2 : Int} (ga2 : -2147483648 ≤ a2 ∧ a2 ≤ 2147483647) {ν1 : qz_N} : ∃ (Z1 : qz_Z) (ν2 : qz_N) (v : Int), (Z1, v) = zy_342 Z a1 a2 ∧ (ν2 = ν ∨ ν2 = ν1) ∧ qf_342 [.inr (.inr (some (1, 0, 0))), .inl (i3 a1), .inl (i3 a2)] (zm Z ν) = some (zm Z1 ν2, .inl (some (.inl (i3 v)))) ∧ (fun Z1 => zM s Z1 ∧ zC [1] Z Z1 ∧ zU [] Z Z1) Z1 := by
  obtain ⟨P, hP⟩ := zx (zy_342 Z a1 a2)
  refine zc_Y (Q := fun Z1 => zM s Z1 ∧ zC [1] Z Z1 ∧ zU [] Z Z1) hP (fw_342 (i3 a1) (i3 a2) _ _ ?_)
  replace hP : zE P (zy_342 Z a1 a2) := hP
  unfold zy_342 at hP
  have r1 := zM_k hZ 1 0 0 35 (lo := 0) (hi := 1) (by decide) rfl
  have r2 := zM_k hZ 1 0 0 34 (lo := 0) (hi := 8) (by decide) rfl
  have r3 := zM_f hZ 1 0 0 37
  refine wz_br (i3L (rfl : i3 a1 = i3 a1) (show (0 : Int32) = i3 0 from rfl) (by omega) (by omega) (by omega) (by omega)) (fun h4 => ?_) (fun h4 => ?_)
  · replace hP := zE_p hP h4
    obtain ⟨Z5, hZ5⟩ := zx (zu Z 1 0 0 2 1)
    replace hP := zl_e hP hZ5
    have hZ5I := zM_u hZ hZ5 (lo := -2147483648) (hi := 2147483647) (by decide) rfl (by omega) ⟨by decide, by decide⟩ (Or.inr (by decide)) rfl
    have hZ5U : zU [] Z Z5 := zU_u zU_r hZ5 (Or.inl rfl)
    have hZ5K : zC [1] Z Z5 := zC_u zC_r hZ5 (by decide)
    intro μ9 e9
    replace e9 := e9.trans (zm_wI (Z := Z) (ν := ν) hZ5 (show ((0 : Nat) : Int) = 0 from rfl) (show ((0 : Nat) : Int) = 0 from rfl) (show ((2 : Nat) : Int) = 2 from rfl) (show (1 : Int32) = i3 1 from rfl))
    subst e9
    exact zlY hP (show (0 : Int32) = i3 0 from rfl) (.inl rfl) ⟨hZ5I, hZ5K, hZ5U⟩
  · replace hP := zE_n hP h4
    have r6 := zM_k hZ 2 0 0 3501 (lo := 0) (hi := 24) (by decide) rfl
    refine wz_br (i3L (i3S (zm_rd (Z := Z) (ν := ν) (k := 2) (show ((0 : Nat) : Int) = 0 from rfl) (show ((0 : Nat) : Int) = 0 from rfl) (show ((3501 : Nat) : Int) = 3501 from rfl)) (show (1 : Int32) = i3 1 from rfl)) (rfl : i3 a1 = i3 a1) (by omega) (by omega) (by omega) (by omega)) (fun h7 => ?_) (fun h7 => ?_)
    · replace hP := zE_p hP h7
      obtain ⟨Z8, hZ8⟩ := zx (zu Z 1 0 0 2 1)
      replace hP := zl_e hP hZ8
      have hZ8I := zM_u hZ hZ8 (lo := -2147483648) (hi := 2147483647) (by decide) rfl (by omega) ⟨by decide, by decide⟩ (Or.inr (by decide)) rfl
      have hZ8U : zU [] Z Z8 := zU_u zU_r hZ8 (Or.inl rfl)
      have hZ8K : zC [1] Z Z8 := zC_u zC_r hZ8 (by decide)
      intro μ9 e9
      replace e9 := e9.trans (zm_wI (Z := Z) (ν := ν) hZ8 (show ((0 : Nat) : Int) = 0 from rfl) (show ((0 : Nat) : Int) = 0 from rfl) (show ((2 : Nat) : Int) = 2 from rfl) (show (1 : Int32) = i3 1 from rfl))
      subst e9
      exact zlY hP (show (0 : Int32) = i3 0 from rfl) (.inl rfl) ⟨hZ8I, hZ8K, hZ8U⟩
    · replace hP := zE_n hP h7
      obtain ⟨Z9, hZ9⟩ := zx (zu Z 1 0 0 2 0)
      replace hP := zl_e hP hZ9
      have hZ9I := zM_0 hZ hZ9 (by decide) (Or.inr (by decide))
      have hZ9U : zU [] Z Z9 := zU_u zU_r hZ9 (Or.inl rfl)
      have hZ9K : zC [1] Z Z9 := zC_u zC_r hZ9 (by decide)
      intro μ9 e9
      replace e9 := e9.trans (zm_wI (Z := Z) (ν := ν) hZ9 (show ((0 : Nat) : Int) = 0 from rfl) (show ((0 : Nat) : Int) = 0 from rfl) (show ((2 : Nat) : Int) = 2 from rfl) (show (0 : Int32) = i3 0 from rfl))
      subst e9
      refine wz_br (i3L (rfl : i3 a2 = i3 a2) (show (0 : Int32) = i3 0 from rfl) (by omega) (by omega) (by omega) (by omega)) (fun h10 => ?_) (fun h10 => ?_)
      · replace hP := zE_p hP h10
        obtain ⟨Z11, hZ11⟩ := zx (zu Z9 1 0 0 2 2)
        replace hP := zl_e hP hZ11
        have hZ11I := zM_u hZ9I hZ11 (lo := -2147483648) (hi := 2147483647) (by decide) rfl (by omega) ⟨by decide, by decide⟩ (Or.inr (by decide)) rfl
        have hZ11U : zU [] Z Z11 := zU_u hZ9U hZ11 (Or.inl rfl)
        have hZ11K : zC [1] Z Z11 := zC_u hZ9K hZ11 (by decide)
        intro μ9 e9
        replace e9 := e9.trans (zm_wI (Z := Z9) (ν := ν) hZ11 (show ((0 : Nat) : Int) = 0 from rfl) (show ((0 : Nat) : Int) = 0 from rfl) (show ((2 : Nat) : Int) = 2 from rfl) (show (2 : Int32) = i3 2 from rfl))
        subst e9
        exact zlY hP (show (0 : Int32) = i3 0 from rfl) (.inl rfl) ⟨hZ11I, hZ11K, hZ11U⟩
      · replace hP := zE_n hP h10
        refine wz_br (i3L (show (5 : Int32) = i3 5 from rfl) (rfl : i3 a2 = i3 a2) (by omega) (by omega) (by omega) (by omega)) (fun h12 => ?_) (fun h12 => ?_)
        · replace hP := zE_p hP h12
          obtain ⟨Z13, hZ13⟩ := zx (zu Z9 1 0 0 2 2)
          replace hP := zl_e hP hZ13
          have hZ13I := zM_u hZ9I hZ13 (lo := -2147483648) (hi := 2147483647) (by decide) rfl (by omega) ⟨by decide, by decide⟩ (Or.inr (by decide)) rfl
          have hZ13U : zU [] Z Z13 := zU_u hZ9U hZ13 (Or.inl rfl)
          have hZ13K : zC [1] Z Z13 := zC_u hZ9K hZ13 (by decide)
          intro μ9 e9
          replace e9 := e9.trans (zm_wI (Z := Z9) (ν := ν) hZ13 (show ((0 : Nat) : Int) = 0 from rfl) (show ((0 : Nat) : Int) = 0 from rfl) (show ((2 : Nat) : Int) = 2 from rfl) (show (2 : Int32) = i3 2 from rfl))
          subst e9
          exact zlY hP (show (0 : Int32) = i3 0 from rfl) (.inl rfl) ⟨hZ13I, hZ13K, hZ13U⟩
        · replace hP := zE_n hP h12
          obtain ⟨Z14, hZ14⟩ := zx (zu Z9 1 0 0 2 0)
          replace hP := zl_e hP hZ14
          have hZ14I := zM_0 hZ9I hZ14 (by decide) (Or.inr (by decide))
          have hZ14U : zU [] Z Z14 := zU_u hZ9U hZ14 (Or.inl rfl)
          have hZ14K : zC [1] Z Z14 := zC_u hZ9K hZ14 (by decide)
          intro μ9 e9
          replace e9 := e9.trans (zm_wI (Z := Z9) (ν := ν) hZ14 (show ((0 : Nat) : Int) = 0 from rfl) (show ((0 : Nat) : Int) = 0 from rfl) (show ((2 : Nat) : Int) = 2 from rfl) (show (0 : Int32) = i3 0 from rfl))
          subst e9
          have r15 := zM_k hZ14I 2 0 0 3501 (lo := 0) (hi := 24) (by decide) rfl
          have q16 := (zu_ne (k' := 2) (b' := 0) (i' := 0) (j' := 3501) hZ14 (fun q => absurd q.1 (by decide))).trans (zu_ne (k' := 2) (b' := 0) (i' := 0) (j' := 3501) hZ9 (fun q => absurd q.1 (by decide)))
          refine wz_i0 (i3O (n := 4400) (i3A (i3A (show (3560 : Int32) = i3 3560 from rfl) (i3M (show (6 : Int32) = i3 6 from rfl) (i3S (i3S (zm_rd (Z := Z14) (ν := ν) (k := 2) (show ((0 : Nat) : Int) = 0 from rfl) (show ((0 : Nat) : Int) = 0 from rfl) (show ((3501 : Nat) : Int) = 3501 from rfl)) (show (1 : Int32) = i3 1 from rfl)) (rfl : i3 a1 = i3 a1)))) (rfl : i3 a2 = i3 a2)) (by omega) (by omega) (by omega)) ?_
          have r17 := zM_f hZ14I 2 0 0 (3554 + 6 * (Z14 2 0 0 3501) + (-6) * a1 + a2)
          exact zlY hP (zm_rd (Z := Z14) (ν := ν) (k := 2) (show ((0 : Nat) : Int) = 0 from rfl) (show ((0 : Nat) : Int) = 0 from rfl) (i3I (y := (3554 + 6 * (Z14 2 0 0 3501) + (-6) * a1 + a2)) (i3A (i3A (show (3560 : Int32) = i3 3560 from rfl) (i3M (show (6 : Int32) = i3 6 from rfl) (i3S (i3S (zm_rd (Z := Z14) (ν := ν) (k := 2) (show ((0 : Nat) : Int) = 0 from rfl) (show ((0 : Nat) : Int) = 0 from rfl) (show ((3501 : Nat) : Int) = 3501 from rfl)) (show (1 : Int32) = i3 1 from rfl)) (rfl : i3 a1 = i3 a1)))) (rfl : i3 a2 = i3 a2)) (by omega) (by omega) (by omega))) (.inl rfl) ⟨hZ14I, hZ14K, hZ14U⟩
/- yX12_gas -/
def zy_344 (Z : qz_Z) (dm : qz_Z → Int → Int → Int → Int → Int → Int → Int → qz_Z) (a1 : Int) (a2 : Int) : qz_Z × Int := (if a1 < 0 then (zlet (zu Z 1 0 0 2 1) (fun Z5 => (Z5, 0))) else (if ((Z 2 0 0 1200) - 1) < a1 then (zlet (zu Z 1 0 0 2 1) (fun Z8 => (Z8, 0))) else (zlet (zu Z 1 0 0 2 0) (fun Z9 => (if a2 = 0 then (zlet (dm Z9 7 a1 0 0 0 0 0) (fun Z17 => (if (Z17 2 0 0 (1214 + 12 * a1)) ≠ 1 then (zlet (zu Z17 2 0 0 (1214 + 12 * a1) 0) (fun Z20 => (Z20, 0))) else (zlet (zu Z17 2 0 0 (1214 + 12 * a1) 0) (fun Z21 => (Z21, 1)))))) else (zlet (dm Z9 7 a1 1 0 0 0 0) (fun Z28 => (if (Z28 2 0 0 (1214 + 12 * a1)) ≠ 1 then (zlet (zu Z28 2 0 0 (1214 + 12 * a1) 1) (fun Z31 => (Z31, 0))) else (zlet (zu Z28 2 0 0 (1214 + 12 * a1) 1) (fun Z32 => (Z32, 1)))))))))))
theorem sy_344 {s : zSM} {Z : qz_Z} {ν : qz_N} (hZ : zM s Z) (gq : Z 1 0 0 35 = 0) (hM : s.2 + 0 ≤ 1000000000) {a1 : Int} (ga1 : -2147483648 ≤ a1 ∧ a1 ≤ 2147483647) {a2 : Int} (ga2 : 0 ≤ a2 ∧ a2 ≤ 1) {dk : qz_Z → qz_Z} {dm : qz_Z → Int → Int → Int → Int → Int → Int → Int → qz_Z} {ν1 : qz_N} (hdm : zDm s ν ν1 Z dk dm) : ∃ (Z1 : qz_Z) (ν2 : qz_N) (v : Int), (Z1, v) = zy_344 Z dm a1 a2 ∧ (ν2 = ν ∨ ν2 = ν1) ∧ qf_344 [.inr (.inr (some (1, 0, 0))), .inl (i3 a1), .inl (i3 a2)] (zm Z ν) = some (zm Z1 ν2, .inl (some (.inl (i3 v)))) ∧ (fun Z1 => zM s Z1 ∧ zC [1, 2, 101, 102, 200] Z Z1 ∧ zU [] Z Z1) Z1 := by
  obtain ⟨P, hP⟩ := zx (zy_344 Z dm a1 a2)
  refine zc_Y (Q := fun Z1 => zM s Z1 ∧ zC [1, 2, 101, 102, 200] Z Z1 ∧ zU [] Z Z1) hP (fw_344 (i3 a1) (i3 a2) _ _ ?_)
  replace hP : zE P (zy_344 Z dm a1 a2) := hP
  unfold zy_344 at hP
  have r1 := zM_k hZ 1 0 0 35 (lo := 0) (hi := 1) (by decide) rfl
  have r2 := zM_k hZ 1 0 0 34 (lo := 0) (hi := 8) (by decide) rfl
  have r3 := zM_f hZ 1 0 0 37
  refine wz_br (i3L (rfl : i3 a1 = i3 a1) (show (0 : Int32) = i3 0 from rfl) (by omega) (by omega) (by omega) (by omega)) (fun h4 => ?_) (fun h4 => ?_)
  · replace hP := zE_p hP h4
    obtain ⟨Z5, hZ5⟩ := zx (zu Z 1 0 0 2 1)
    replace hP := zl_e hP hZ5
    have hZ5I := zM_u hZ hZ5 (lo := -2147483648) (hi := 2147483647) (by decide) rfl (by omega) ⟨by decide, by decide⟩ (Or.inr (by decide)) rfl
    have hZ5U : zU [] Z Z5 := zU_u zU_r hZ5 (Or.inl rfl)
    have hZ5K : zC [1, 2, 101, 102, 200] Z Z5 := zC_u zC_r hZ5 (by decide)
    intro μ9 e9
    replace e9 := e9.trans (zm_wI (Z := Z) (ν := ν) hZ5 (show ((0 : Nat) : Int) = 0 from rfl) (show ((0 : Nat) : Int) = 0 from rfl) (show ((2 : Nat) : Int) = 2 from rfl) (show (1 : Int32) = i3 1 from rfl))
    subst e9
    exact zlY hP (show (0 : Int32) = i3 0 from rfl) (.inl rfl) ⟨hZ5I, hZ5K, hZ5U⟩
  · replace hP := zE_n hP h4
    have r6 := zM_k hZ 2 0 0 1200 (lo := 0) (hi := 6) (by decide) rfl
    refine wz_br (i3L (i3S (zm_rd (Z := Z) (ν := ν) (k := 2) (show ((0 : Nat) : Int) = 0 from rfl) (show ((0 : Nat) : Int) = 0 from rfl) (show ((1200 : Nat) : Int) = 1200 from rfl)) (show (1 : Int32) = i3 1 from rfl)) (rfl : i3 a1 = i3 a1) (by omega) (by omega) (by omega) (by omega)) (fun h7 => ?_) (fun h7 => ?_)
    · replace hP := zE_p hP h7
      obtain ⟨Z8, hZ8⟩ := zx (zu Z 1 0 0 2 1)
      replace hP := zl_e hP hZ8
      have hZ8I := zM_u hZ hZ8 (lo := -2147483648) (hi := 2147483647) (by decide) rfl (by omega) ⟨by decide, by decide⟩ (Or.inr (by decide)) rfl
      have hZ8U : zU [] Z Z8 := zU_u zU_r hZ8 (Or.inl rfl)
      have hZ8K : zC [1, 2, 101, 102, 200] Z Z8 := zC_u zC_r hZ8 (by decide)
      intro μ9 e9
      replace e9 := e9.trans (zm_wI (Z := Z) (ν := ν) hZ8 (show ((0 : Nat) : Int) = 0 from rfl) (show ((0 : Nat) : Int) = 0 from rfl) (show ((2 : Nat) : Int) = 2 from rfl) (show (1 : Int32) = i3 1 from rfl))
      subst e9
      exact zlY hP (show (0 : Int32) = i3 0 from rfl) (.inl rfl) ⟨hZ8I, hZ8K, hZ8U⟩
    · replace hP := zE_n hP h7
      obtain ⟨Z9, hZ9⟩ := zx (zu Z 1 0 0 2 0)
      replace hP := zl_e hP hZ9
      have hZ9I := zM_0 hZ hZ9 (by decide) (Or.inr (by decide))
      have hZ9U : zU [] Z Z9 := zU_u zU_r hZ9 (Or.inl rfl)
      have hZ9K : zC [1, 2, 101, 102, 200] Z Z9 := zC_u zC_r hZ9 (by decide)
      intro μ9 e9
      replace e9 := e9.trans (zm_wI (Z := Z) (ν := ν) hZ9 (show ((0 : Nat) : Int) = 0 from rfl) (show ((0 : Nat) : Int) = 0 from rfl) (show ((2 : Nat) : Int) = 2 from rfl) (show (0 : Int32) = i3 0 from rfl))
      subst e9
      refine wz_br (i3E (rfl : i3 a2 = i3 a2) (show (0 : Int32) = i3 0 from rfl) (by omega) (by omega) (by omega) (by omega)) (fun h10 => ?_) (fun h10 => ?_)
      · replace hP := zE_p hP h10
        have r11 := zM_k hZ9I 1 0 0 35 (lo := 0) (hi := 1) (by decide) rfl
        have q12 := zu_ne (k' := 1) (b' := 0) (i' := 0) (j' := 35) hZ9 (fun q => absurd q.2.2.2 (by decide))
        refine wz_i0 (Eq.trans (i3NE (zm_rd (Z := Z9) (ν := ν) (k := 1) (show ((0 : Nat) : Int) = 0 from rfl) (show ((0 : Nat) : Int) = 0 from rfl) (show ((35 : Nat) : Int) = 35 from rfl)) (show (0 : Int32) = i3 0 from rfl) (by omega) (by omega) (by omega) (by omega)) (decide_eq_false (by omega))) ?_
        have r13 := zM_k hZ9I 1 0 0 34 (lo := 0) (hi := 8) (by decide) rfl
        have q14 := zu_ne (k' := 1) (b' := 0) (i' := 0) (j' := 34) hZ9 (fun q => absurd q.2.2.2 (by decide))
        have r15 := zM_f hZ9I 1 0 0 37
        have q16 := zu_ne (k' := 1) (b' := 0) (i' := 0) (j' := 37) hZ9 (fun q => absurd q.2.2.2 (by decide))
        obtain ⟨c8, c9, hZ17I, dZ17⟩ := hdm Z9 7 a1 0 0 0 0 0 hZ9I (by omega) (by omega) (by omega) (by omega) (by omega) (by omega) (by omega) (by omega) (by omega) (by omega)
        obtain ⟨Z17, hZ17⟩ := zx (dm Z9 7 a1 0 0 0 0 0)
        rw [← hZ17] at c9 hZ17I dZ17
        replace hP := zl_e hP hZ17
        refine wz_cV_of (zas (zcons rfl (zcons (zvi (show (-1 : Int32) = i3 (-1) from rfl)) rfl)) c8) ?_
        refine wz_cV_of (zas (zcons rfl (zcons (zvi (show (7 : Int32) = i3 7 from rfl)) (zcons (zvi (rfl : i3 a1 = i3 a1)) (zcons (zvi (show (0 : Int32) = i3 0 from rfl)) (zcons (zvi (show (0 : Int32) = i3 0 from rfl)) (zcons (zvi (show (0 : Int32) = i3 0 from rfl)) (zcons (zvi (show (0 : Int32) = i3 0 from rfl)) (zcons (zvi (show (0 : Int32) = i3 0 from rfl)) rfl)))))))) c9) ?_
        clear c8 c9
        have hZ17K : zC [1, 2, 101, 102, 200] Z Z17 := zC_t hZ9K (zMd_C dZ17) (by decide)
        have hZ17U : zU [] Z Z17 := zU_t hZ9U (zMd_U dZ17) zU_b0
        refine wz_i0 (i3O (n := 4400) (i3A (i3A (show (1210 : Int32) = i3 1210 from rfl) (i3M (show (12 : Int32) = i3 12 from rfl) (rfl : i3 a1 = i3 a1))) (show (4 : Int32) = i3 4 from rfl)) (by omega) (by omega) (by omega)) ?_
        have r18 := zM_k hZ17I 2 0 0 (1214 + 12 * a1) (lo := 0) (hi := 1) (by decide) (zs_1210_4 (x := a1) (by omega) (by omega) (by omega))
        refine wz_br (i3NE (zm_rd (Z := Z17) (ν := ν1) (k := 2) (show ((0 : Nat) : Int) = 0 from rfl) (show ((0 : Nat) : Int) = 0 from rfl) (i3I (y := (1214 + 12 * a1)) (i3A (i3A (show (1210 : Int32) = i3 1210 from rfl) (i3M (show (12 : Int32) = i3 12 from rfl) (rfl : i3 a1 = i3 a1))) (show (4 : Int32) = i3 4 from rfl)) (by omega) (by omega) (by omega))) (show (1 : Int32) = i3 1 from rfl) (by omega) (by omega) (by omega) (by omega)) (fun h19 => ?_) (fun h19 => ?_)
        · replace hP := zE_p hP h19
          refine wz_i1 (Eq.trans (i3E (rfl : i3 a2 = i3 a2) (show (0 : Int32) = i3 0 from rfl) (by omega) (by omega) (by omega) (by omega)) (decide_eq_true (by omega))) ?_
          refine wz_i0 (i3O (n := 4400) (i3A (i3A (show (1210 : Int32) = i3 1210 from rfl) (i3M (show (12 : Int32) = i3 12 from rfl) (rfl : i3 a1 = i3 a1))) (show (4 : Int32) = i3 4 from rfl)) (by omega) (by omega) (by omega)) ?_
          obtain ⟨Z20, hZ20⟩ := zx (zu Z17 2 0 0 (1214 + 12 * a1) 0)
          replace hP := zl_e hP hZ20
          have hZ20I := zM_02 hZ17I hZ20 (by simp only [zsp]; omega)
          have hZ20U : zU [] Z Z20 := zU_u hZ17U hZ20 (Or.inl rfl)
          have hZ20K : zC [1, 2, 101, 102, 200] Z Z20 := zC_u hZ17K hZ20 (zcl_2w (by omega) rfl)
          intro μ9 e9
          replace e9 := e9.trans (zm_wI (Z := Z17) (ν := ν1) hZ20 (show ((0 : Nat) : Int) = 0 from rfl) (show ((0 : Nat) : Int) = 0 from rfl) (i3I (y := (1214 + 12 * a1)) (i3A (i3A (show (1210 : Int32) = i3 1210 from rfl) (i3M (show (12 : Int32) = i3 12 from rfl) (rfl : i3 a1 = i3 a1))) (show (4 : Int32) = i3 4 from rfl)) (by omega) (by omega) (by omega)) (show (0 : Int32) = i3 0 from rfl))
          subst e9
          exact zlY hP (show (0 : Int32) = i3 0 from rfl) (.inr rfl) ⟨hZ20I, hZ20K, hZ20U⟩
        · replace hP := zE_n hP h19
          refine wz_i1 (Eq.trans (i3E (rfl : i3 a2 = i3 a2) (show (0 : Int32) = i3 0 from rfl) (by omega) (by omega) (by omega) (by omega)) (decide_eq_true (by omega))) ?_
          refine wz_i0 (i3O (n := 4400) (i3A (i3A (show (1210 : Int32) = i3 1210 from rfl) (i3M (show (12 : Int32) = i3 12 from rfl) (rfl : i3 a1 = i3 a1))) (show (4 : Int32) = i3 4 from rfl)) (by omega) (by omega) (by omega)) ?_
          obtain ⟨Z21, hZ21⟩ := zx (zu Z17 2 0 0 (1214 + 12 * a1) 0)
          replace hP := zl_e hP hZ21
          have hZ21I := zM_02 hZ17I hZ21 (by simp only [zsp]; omega)
          have hZ21U : zU [] Z Z21 := zU_u hZ17U hZ21 (Or.inl rfl)
          have hZ21K : zC [1, 2, 101, 102, 200] Z Z21 := zC_u hZ17K hZ21 (zcl_2w (by omega) rfl)
          intro μ9 e9
          replace e9 := e9.trans (zm_wI (Z := Z17) (ν := ν1) hZ21 (show ((0 : Nat) : Int) = 0 from rfl) (show ((0 : Nat) : Int) = 0 from rfl) (i3I (y := (1214 + 12 * a1)) (i3A (i3A (show (1210 : Int32) = i3 1210 from rfl) (i3M (show (12 : Int32) = i3 12 from rfl) (rfl : i3 a1 = i3 a1))) (show (4 : Int32) = i3 4 from rfl)) (by omega) (by omega) (by omega)) (show (0 : Int32) = i3 0 from rfl))
          subst e9
          exact zlY hP (show (1 : Int32) = i3 1 from rfl) (.inr rfl) ⟨hZ21I, hZ21K, hZ21U⟩
      · replace hP := zE_n hP h10
        have r22 := zM_k hZ9I 1 0 0 35 (lo := 0) (hi := 1) (by decide) rfl
        have q23 := zu_ne (k' := 1) (b' := 0) (i' := 0) (j' := 35) hZ9 (fun q => absurd q.2.2.2 (by decide))
        refine wz_i0 (Eq.trans (i3NE (zm_rd (Z := Z9) (ν := ν) (k := 1) (show ((0 : Nat) : Int) = 0 from rfl) (show ((0 : Nat) : Int) = 0 from rfl) (show ((35 : Nat) : Int) = 35 from rfl)) (show (0 : Int32) = i3 0 from rfl) (by omega) (by omega) (by omega) (by omega)) (decide_eq_false (by omega))) ?_
        have r24 := zM_k hZ9I 1 0 0 34 (lo := 0) (hi := 8) (by decide) rfl
        have q25 := zu_ne (k' := 1) (b' := 0) (i' := 0) (j' := 34) hZ9 (fun q => absurd q.2.2.2 (by decide))
        have r26 := zM_f hZ9I 1 0 0 37
        have q27 := zu_ne (k' := 1) (b' := 0) (i' := 0) (j' := 37) hZ9 (fun q => absurd q.2.2.2 (by decide))
        obtain ⟨c8, c9, hZ28I, dZ28⟩ := hdm Z9 7 a1 1 0 0 0 0 hZ9I (by omega) (by omega) (by omega) (by omega) (by omega) (by omega) (by omega) (by omega) (by omega) (by omega)
        obtain ⟨Z28, hZ28⟩ := zx (dm Z9 7 a1 1 0 0 0 0)
        rw [← hZ28] at c9 hZ28I dZ28
        replace hP := zl_e hP hZ28
        refine wz_cV_of (zas (zcons rfl (zcons (zvi (show (-1 : Int32) = i3 (-1) from rfl)) rfl)) c8) ?_
        refine wz_cV_of (zas (zcons rfl (zcons (zvi (show (7 : Int32) = i3 7 from rfl)) (zcons (zvi (rfl : i3 a1 = i3 a1)) (zcons (zvi (show (1 : Int32) = i3 1 from rfl)) (zcons (zvi (show (0 : Int32) = i3 0 from rfl)) (zcons (zvi (show (0 : Int32) = i3 0 from rfl)) (zcons (zvi (show (0 : Int32) = i3 0 from rfl)) (zcons (zvi (show (0 : Int32) = i3 0 from rfl)) rfl)))))))) c9) ?_
        clear c8 c9
        have hZ28K : zC [1, 2, 101, 102, 200] Z Z28 := zC_t hZ9K (zMd_C dZ28) (by decide)
        have hZ28U : zU [] Z Z28 := zU_t hZ9U (zMd_U dZ28) zU_b0
        refine wz_i0 (i3O (n := 4400) (i3A (i3A (show (1210 : Int32) = i3 1210 from rfl) (i3M (show (12 : Int32) = i3 12 from rfl) (rfl : i3 a1 = i3 a1))) (show (4 : Int32) = i3 4 from rfl)) (by omega) (by omega) (by omega)) ?_
        have r29 := zM_k hZ28I 2 0 0 (1214 + 12 * a1) (lo := 0) (hi := 1) (by decide) (zs_1210_4 (x := a1) (by omega) (by omega) (by omega))
        refine wz_br (i3NE (zm_rd (Z := Z28) (ν := ν1) (k := 2) (show ((0 : Nat) : Int) = 0 from rfl) (show ((0 : Nat) : Int) = 0 from rfl) (i3I (y := (1214 + 12 * a1)) (i3A (i3A (show (1210 : Int32) = i3 1210 from rfl) (i3M (show (12 : Int32) = i3 12 from rfl) (rfl : i3 a1 = i3 a1))) (show (4 : Int32) = i3 4 from rfl)) (by omega) (by omega) (by omega))) (show (1 : Int32) = i3 1 from rfl) (by omega) (by omega) (by omega) (by omega)) (fun h30 => ?_) (fun h30 => ?_)
        · replace hP := zE_p hP h30
          refine wz_i0 (Eq.trans (i3E (rfl : i3 a2 = i3 a2) (show (0 : Int32) = i3 0 from rfl) (by omega) (by omega) (by omega) (by omega)) (decide_eq_false (by omega))) ?_
          refine wz_i0 (i3O (n := 4400) (i3A (i3A (show (1210 : Int32) = i3 1210 from rfl) (i3M (show (12 : Int32) = i3 12 from rfl) (rfl : i3 a1 = i3 a1))) (show (4 : Int32) = i3 4 from rfl)) (by omega) (by omega) (by omega)) ?_
          obtain ⟨Z31, hZ31⟩ := zx (zu Z28 2 0 0 (1214 + 12 * a1) 1)
          replace hP := zl_e hP hZ31
          have hZ31I := zM_u2 hZ28I hZ31 (lo := 0) (hi := 1) (zs_1210_4 (x := a1) (by omega) (by omega) (by omega)) (by omega) ⟨by decide, by decide⟩ (by simp only [zsp]; omega)
          have hZ31U : zU [] Z Z31 := zU_u hZ28U hZ31 (Or.inl rfl)
          have hZ31K : zC [1, 2, 101, 102, 200] Z Z31 := zC_u hZ28K hZ31 (zcl_2w (by omega) rfl)
          intro μ9 e9
          replace e9 := e9.trans (zm_wI (Z := Z28) (ν := ν1) hZ31 (show ((0 : Nat) : Int) = 0 from rfl) (show ((0 : Nat) : Int) = 0 from rfl) (i3I (y := (1214 + 12 * a1)) (i3A (i3A (show (1210 : Int32) = i3 1210 from rfl) (i3M (show (12 : Int32) = i3 12 from rfl) (rfl : i3 a1 = i3 a1))) (show (4 : Int32) = i3 4 from rfl)) (by omega) (by omega) (by omega)) (show (1 : Int32) = i3 1 from rfl))
          subst e9
          exact zlY hP (show (0 : Int32) = i3 0 from rfl) (.inr rfl) ⟨hZ31I, hZ31K, hZ31U⟩
        · replace hP := zE_n hP h30
          refine wz_i0 (Eq.trans (i3E (rfl : i3 a2 = i3 a2) (show (0 : Int32) = i3 0 from rfl) (by omega) (by omega) (by omega) (by omega)) (decide_eq_false (by omega))) ?_
          refine wz_i0 (i3O (n := 4400) (i3A (i3A (show (1210 : Int32) = i3 1210 from rfl) (i3M (show (12 : Int32) = i3 12 from rfl) (rfl : i3 a1 = i3 a1))) (show (4 : Int32) = i3 4 from rfl)) (by omega) (by omega) (by omega)) ?_
          obtain ⟨Z32, hZ32⟩ := zx (zu Z28 2 0 0 (1214 + 12 * a1) 1)
          replace hP := zl_e hP hZ32
          have hZ32I := zM_u2 hZ28I hZ32 (lo := 0) (hi := 1) (zs_1210_4 (x := a1) (by omega) (by omega) (by omega)) (by omega) ⟨by decide, by decide⟩ (by simp only [zsp]; omega)
          have hZ32U : zU [] Z Z32 := zU_u hZ28U hZ32 (Or.inl rfl)
          have hZ32K : zC [1, 2, 101, 102, 200] Z Z32 := zC_u hZ28K hZ32 (zcl_2w (by omega) rfl)
          intro μ9 e9
          replace e9 := e9.trans (zm_wI (Z := Z28) (ν := ν1) hZ32 (show ((0 : Nat) : Int) = 0 from rfl) (show ((0 : Nat) : Int) = 0 from rfl) (i3I (y := (1214 + 12 * a1)) (i3A (i3A (show (1210 : Int32) = i3 1210 from rfl) (i3M (show (12 : Int32) = i3 12 from rfl) (rfl : i3 a1 = i3 a1))) (show (4 : Int32) = i3 4 from rfl)) (by omega) (by omega) (by omega)) (show (1 : Int32) = i3 1 from rfl))
          subst e9
          exact zlY hP (show (1 : Int32) = i3 1 from rfl) (.inr rfl) ⟨hZ32I, hZ32K, hZ32U⟩
/- yX12_dFound -/
def zl_322_1 (x1 : Int) (x2 : Int) (x3 : Int) : Nat → qz_Z → Int → Int → qz_Z × Int × Int
  | 0, Z, x4, x5 => (Z, x4, x5)
  | m + 1, Z, x4, x5 => (if x3 ≤ x5 then (Z, x4, x5) else (zlet (zu Z 1 0 0 3 (((25173 * (Z 1 0 0 3)) + 13849) % 65536)) (fun Z3 => (if (x2 - x4) ≤ (z2 (fun x y => x - x / y * y) ((Z3 1 0 0 3) / 16) (x1 - x5)) then zl_322_1 x1 x2 x3 m Z3 (x4 + 0) (x5 + 1) else zl_322_1 x1 x2 x3 m Z3 (x4 + 1) (x5 + 1)))))
theorem sl_322_1 {s : zSM} {Zs Z : qz_Z} {ν : qz_N} (hZ : zM s Z) (hM : s.2 + 0 ≤ 1000000000) (hK : zC [1] Zs Z) {x1 : Int} (gx1 : 1 ≤ x1 ∧ x1 ≤ 40) {x2 : Int} (gx2 : 0 ≤ x2 ∧ x2 ≤ 40) {x3 : Int} (gx3 : 1 ≤ x3 ∧ x3 ≤ 20) {x4 : Int} (gx4 : 0 ≤ x4 ∧ x4 ≤ 20) {x5 : Int} (gx5 : 0 ≤ x5 ∧ x5 ≤ 20) (hU : zU [] Zs Z) (gr0 : x4 ≤ x5) {k : wz_K} {R : wz_R} {L : qz_L} (hL : qz_fg [true, true, true, true, true, true] L = [some (.inr (.inr (some (1, 0, 0)))), some (.inl (i3 x1)), some (.inl (i3 x2)), some (.inl (i3 x3)), some (.inl (i3 x4)), some (.inl (i3 x5))]) {T : qz_Z × Int × Int} (hP : zE T (zl_322_1 x1 x2 x3 ((20 - x5).toNat + 1) Z x4 x5)) (hk : ∀ (L9 : qz_L) (Z9 : qz_Z) (yx4 yx5 : Int), qz_fg [false, false, false, false, true, false] L9 = [none, none, none, none, some (.inl (i3 yx4)), none] → zM s Z9 → zC [1] Zs Z9 → zU [] Zs Z9 → (0 ≤ yx4 ∧ yx4 ≤ 20) → (0 ≤ yx5 ∧ yx5 ≤ 20) → (yx4 ≤ yx5) → zE T ((Z9, yx4, yx5)) → k 0 (L9, [], zm Z9 ν)) : wz_loop qb_322_1 65536 k R (L, [], zm Z ν) := by sorry
/- yX12_dFound -/
def zf_322 (Z : qz_Z) (a1 : Int) (a2 : Int) (a3 : Int) : qz_Z × Int := (zlet3 (zl_322_1 a1 a2 a3 21 Z 0 0) (fun Z3 y1 y2 => (Z3, y1)))
theorem sp_322 {s : zSM} {Z : qz_Z} {ν : qz_N} (hZ : zM s Z) {a1 : Int} (ga1 : 1 ≤ a1 ∧ a1 ≤ 40) {a2 : Int} (ga2 : 0 ≤ a2 ∧ a2 ≤ 40) {a3 : Int} (ga3 : 1 ≤ a3 ∧ a3 ≤ 20) (hM : s.2 + 0 ≤ 1000000000) : ∃ (Z1 : qz_Z) (P : Int), (Z1, P) = zf_322 Z a1 a2 a3 ∧ (qf_322 [.inr (.inr (some (1, 0, 0))), .inl (i3 a1), .inl (i3 a2), .inl (i3 a3)] (zm Z ν) = some (zm Z1 ν, .inl (some (.inl (i3 P)))) ∧ zM s Z1 ∧ zC [1] Z Z1 ∧ zU [] Z Z1 ∧ 0 ≤ P ∧ P ≤ 20) := by
  obtain ⟨P, hP⟩ := zx (zf_322 Z a1 a2 a3)
  refine zc_W (Q := fun Z1 P => zM s Z1 ∧ zC [1] Z Z1 ∧ zU [] Z Z1 ∧ 0 ≤ P ∧ P ≤ 20) hP (fw_322 (i3 a1) (i3 a2) (i3 a3) _ _ ?_)
  replace hP : zE P (zf_322 Z a1 a2 a3) := hP
  unfold zf_322 at hP
  refine sl_322_1 (ν := ν) hZ (zbh (c := 0) (k := 0) hM (Nat.le_of_ble_eq_true rfl)) zC_r (x1 := a1) (by omega) (x2 := a2) (by omega) (x3 := a3) (by omega) (x4 := 0) (by omega) (x5 := 0) (by omega) zU_r (by omega) (zconso rfl (zconso (zvo (rfl : i3 a1 = i3 a1)) (zconso (zvo (rfl : i3 a2 = i3 a2)) (zconso (zvo (rfl : i3 a3 = i3 a3)) (zconso (zvo (show (0 : Int32) = i3 0 from rfl)) (zconso (zvo (show (0 : Int32) = i3 0 from rfl)) rfl)))))) rfl ?_
  intro L4 Z3 y1 y2 hL4 hZ3I kZ3 jZ3 gy1 gy2 gL4_0 q9
  replace hP := zl_e3 hP (Eq.symm q9)
  clear q9
  have hZ3U : zU [] Z Z3 := zU_t zU_r jZ3 zU_b0
  have hZ3K : zC [1] Z Z3 := zC_t zC_r kZ3 (by decide)
  refine fc_322_2 (i3 y1) _ _ _ _ hL4 ?_
  exact zlW hP (rfl : i3 y1 = i3 y1) ⟨hZ3I, hZ3K, hZ3U, by omega, by omega⟩
/- yX12_dLeast -/
def zf_326 (Z : qz_Z) (a1 : Int) : Int := (if ((Z 2 0 0 (113 + 5 * (Z 2 0 0 (201 + 20 * a1)))) - (Z 2 0 0 (114 + 5 * (Z 2 0 0 (201 + 20 * a1))))) ≤ (Z 2 0 0 (207 + 20 * a1)) then (if ((Z 2 0 0 (113 + 5 * (Z 2 0 0 (201 + 20 * a1)))) + (Z 2 0 0 (114 + 5 * (Z 2 0 0 (201 + 20 * a1))))) < (Z 2 0 0 (207 + 20 * a1)) then (if ((Z 2 0 0 (113 + 5 * (Z 2 0 0 (201 + 20 * a1)))) + (3 * (Z 2 0 0 (114 + 5 * (Z 2 0 0 (201 + 20 * a1)))))) < (Z 2 0 0 (207 + 20 * a1)) then 3 else 2) else 0) else 0)
theorem sp_326 {s : zSM} {Z : qz_Z} {ν : qz_N} (hZ : zM s Z) {a1 : Int} (ga1 : 0 ≤ a1 ∧ a1 ≤ 47) (hM : s.2 + 0 ≤ 1000000000) : ∃ P : Int, P = zf_326 Z a1 ∧ (qf_326 [.inr (.inr (some (1, 0, 0))), .inl (i3 a1)] (zm Z ν) = some (zm Z ν, .inl (some (.inl (i3 P)))) ∧ 0 ≤ P ∧ P ≤ 3) := by
  obtain ⟨P, hP⟩ := zx (zf_326 Z a1)
  refine zc_R (Q := fun P => 0 ≤ P ∧ P ≤ 3) hP (fw_326 (i3 a1) _ _ ?_)
  replace hP : zE P (zf_326 Z a1) := hP
  unfold zf_326 at hP
  refine wz_i0 (i3O (n := 4400) (i3A (i3A (show (200 : Int32) = i3 200 from rfl) (i3M (show (20 : Int32) = i3 20 from rfl) (rfl : i3 a1 = i3 a1))) (show (1 : Int32) = i3 1 from rfl)) (by omega) (by omega) (by omega)) ?_
  refine wz_i0 (i3O (n := 4400) (i3A (i3A (show (200 : Int32) = i3 200 from rfl) (i3M (show (20 : Int32) = i3 20 from rfl) (rfl : i3 a1 = i3 a1))) (show (7 : Int32) = i3 7 from rfl)) (by omega) (by omega) (by omega)) ?_
  have r1 := zM_k hZ 2 0 0 (201 + 20 * a1) (lo := 0) (hi := 4) (by decide) (zs_200_1 (x := a1) (by omega) (by omega) (by omega))
  refine wz_i0 (i3O (n := 4400) (i3A (i3A (show (110 : Int32) = i3 110 from rfl) (i3M (show (5 : Int32) = i3 5 from rfl) (zm_rd (Z := Z) (ν := ν) (k := 2) (show ((0 : Nat) : Int) = 0 from rfl) (show ((0 : Nat) : Int) = 0 from rfl) (i3I (y := (201 + 20 * a1)) (i3A (i3A (show (200 : Int32) = i3 200 from rfl) (i3M (show (20 : Int32) = i3 20 from rfl) (rfl : i3 a1 = i3 a1))) (show (1 : Int32) = i3 1 from rfl)) (by omega) (by omega) (by omega))))) (show (3 : Int32) = i3 3 from rfl)) (by omega) (by omega) (by omega)) ?_
  refine wz_i0 (i3O (n := 4400) (i3A (i3A (show (110 : Int32) = i3 110 from rfl) (i3M (show (5 : Int32) = i3 5 from rfl) (zm_rd (Z := Z) (ν := ν) (k := 2) (show ((0 : Nat) : Int) = 0 from rfl) (show ((0 : Nat) : Int) = 0 from rfl) (i3I (y := (201 + 20 * a1)) (i3A (i3A (show (200 : Int32) = i3 200 from rfl) (i3M (show (20 : Int32) = i3 20 from rfl) (rfl : i3 a1 = i3 a1))) (show (1 : Int32) = i3 1 from rfl)) (by omega) (by omega) (by omega))))) (show (4 : Int32) = i3 4 from rfl)) (by omega) (by omega) (by omega)) ?_
  have r2 := zM_k hZ 2 0 0 (113 + 5 * (Z 2 0 0 (201 + 20 * a1))) (lo := 0) (hi := 600) (by decide) (zs_110_3 (x := (Z 2 0 0 (201 + 20 * a1))) (by omega) (by omega) (by omega))
  have r3 := zM_k hZ 2 0 0 (114 + 5 * (Z 2 0 0 (201 + 20 * a1))) (lo := 0) (hi := 99) (by decide) (zs_110_4 (x := (Z 2 0 0 (201 + 20 * a1))) (by omega) (by omega) (by omega))
  have r4 := zM_k hZ 2 0 0 (207 + 20 * a1) (lo := 0) (hi := 2000) (by decide) (zs_200_7 (x := a1) (by omega) (by omega) (by omega))
  refine wz_br (i3Le (i3S (zm_rd (Z := Z) (ν := ν) (k := 2) (show ((0 : Nat) : Int) = 0 from rfl) (show ((0 : Nat) : Int) = 0 from rfl) (i3I (y := (113 + 5 * (Z 2 0 0 (201 + 20 * a1)))) (i3A (i3A (show (110 : Int32) = i3 110 from rfl) (i3M (show (5 : Int32) = i3 5 from rfl) (zm_rd (Z := Z) (ν := ν) (k := 2) (show ((0 : Nat) : Int) = 0 from rfl) (show ((0 : Nat) : Int) = 0 from rfl) (i3I (y := (201 + 20 * a1)) (i3A (i3A (show (200 : Int32) = i3 200 from rfl) (i3M (show (20 : Int32) = i3 20 from rfl) (rfl : i3 a1 = i3 a1))) (show (1 : Int32) = i3 1 from rfl)) (by omega) (by omega) (by omega))))) (show (3 : Int32) = i3 3 from rfl)) (by omega) (by omega) (by omega))) (zm_rd (Z := Z) (ν := ν) (k := 2) (show ((0 : Nat) : Int) = 0 from rfl) (show ((0 : Nat) : Int) = 0 from rfl) (i3I (y := (114 + 5 * (Z 2 0 0 (201 + 20 * a1)))) (i3A (i3A (show (110 : Int32) = i3 110 from rfl) (i3M (show (5 : Int32) = i3 5 from rfl) (zm_rd (Z := Z) (ν := ν) (k := 2) (show ((0 : Nat) : Int) = 0 from rfl) (show ((0 : Nat) : Int) = 0 from rfl) (i3I (y := (201 + 20 * a1)) (i3A (i3A (show (200 : Int32) = i3 200 from rfl) (i3M (show (20 : Int32) = i3 20 from rfl) (rfl : i3 a1 = i3 a1))) (show (1 : Int32) = i3 1 from rfl)) (by omega) (by omega) (by omega))))) (show (4 : Int32) = i3 4 from rfl)) (by omega) (by omega) (by omega)))) (zm_rd (Z := Z) (ν := ν) (k := 2) (show ((0 : Nat) : Int) = 0 from rfl) (show ((0 : Nat) : Int) = 0 from rfl) (i3I (y := (207 + 20 * a1)) (i3A (i3A (show (200 : Int32) = i3 200 from rfl) (i3M (show (20 : Int32) = i3 20 from rfl) (rfl : i3 a1 = i3 a1))) (show (7 : Int32) = i3 7 from rfl)) (by omega) (by omega) (by omega))) (by omega) (by omega) (by omega) (by omega)) (fun h5 => ?_) (fun h5 => ?_)
  · replace hP := zE_p hP h5
    refine wz_br (i3L (i3A (zm_rd (Z := Z) (ν := ν) (k := 2) (show ((0 : Nat) : Int) = 0 from rfl) (show ((0 : Nat) : Int) = 0 from rfl) (i3I (y := (113 + 5 * (Z 2 0 0 (201 + 20 * a1)))) (i3A (i3A (show (110 : Int32) = i3 110 from rfl) (i3M (show (5 : Int32) = i3 5 from rfl) (zm_rd (Z := Z) (ν := ν) (k := 2) (show ((0 : Nat) : Int) = 0 from rfl) (show ((0 : Nat) : Int) = 0 from rfl) (i3I (y := (201 + 20 * a1)) (i3A (i3A (show (200 : Int32) = i3 200 from rfl) (i3M (show (20 : Int32) = i3 20 from rfl) (rfl : i3 a1 = i3 a1))) (show (1 : Int32) = i3 1 from rfl)) (by omega) (by omega) (by omega))))) (show (3 : Int32) = i3 3 from rfl)) (by omega) (by omega) (by omega))) (zm_rd (Z := Z) (ν := ν) (k := 2) (show ((0 : Nat) : Int) = 0 from rfl) (show ((0 : Nat) : Int) = 0 from rfl) (i3I (y := (114 + 5 * (Z 2 0 0 (201 + 20 * a1)))) (i3A (i3A (show (110 : Int32) = i3 110 from rfl) (i3M (show (5 : Int32) = i3 5 from rfl) (zm_rd (Z := Z) (ν := ν) (k := 2) (show ((0 : Nat) : Int) = 0 from rfl) (show ((0 : Nat) : Int) = 0 from rfl) (i3I (y := (201 + 20 * a1)) (i3A (i3A (show (200 : Int32) = i3 200 from rfl) (i3M (show (20 : Int32) = i3 20 from rfl) (rfl : i3 a1 = i3 a1))) (show (1 : Int32) = i3 1 from rfl)) (by omega) (by omega) (by omega))))) (show (4 : Int32) = i3 4 from rfl)) (by omega) (by omega) (by omega)))) (zm_rd (Z := Z) (ν := ν) (k := 2) (show ((0 : Nat) : Int) = 0 from rfl) (show ((0 : Nat) : Int) = 0 from rfl) (i3I (y := (207 + 20 * a1)) (i3A (i3A (show (200 : Int32) = i3 200 from rfl) (i3M (show (20 : Int32) = i3 20 from rfl) (rfl : i3 a1 = i3 a1))) (show (7 : Int32) = i3 7 from rfl)) (by omega) (by omega) (by omega))) (by omega) (by omega) (by omega) (by omega)) (fun h6 => ?_) (fun h6 => ?_)
    · replace hP := zE_p hP h6
      refine wz_br (i3L (i3A (zm_rd (Z := Z) (ν := ν) (k := 2) (show ((0 : Nat) : Int) = 0 from rfl) (show ((0 : Nat) : Int) = 0 from rfl) (i3I (y := (113 + 5 * (Z 2 0 0 (201 + 20 * a1)))) (i3A (i3A (show (110 : Int32) = i3 110 from rfl) (i3M (show (5 : Int32) = i3 5 from rfl) (zm_rd (Z := Z) (ν := ν) (k := 2) (show ((0 : Nat) : Int) = 0 from rfl) (show ((0 : Nat) : Int) = 0 from rfl) (i3I (y := (201 + 20 * a1)) (i3A (i3A (show (200 : Int32) = i3 200 from rfl) (i3M (show (20 : Int32) = i3 20 from rfl) (rfl : i3 a1 = i3 a1))) (show (1 : Int32) = i3 1 from rfl)) (by omega) (by omega) (by omega))))) (show (3 : Int32) = i3 3 from rfl)) (by omega) (by omega) (by omega))) (i3M (show (3 : Int32) = i3 3 from rfl) (zm_rd (Z := Z) (ν := ν) (k := 2) (show ((0 : Nat) : Int) = 0 from rfl) (show ((0 : Nat) : Int) = 0 from rfl) (i3I (y := (114 + 5 * (Z 2 0 0 (201 + 20 * a1)))) (i3A (i3A (show (110 : Int32) = i3 110 from rfl) (i3M (show (5 : Int32) = i3 5 from rfl) (zm_rd (Z := Z) (ν := ν) (k := 2) (show ((0 : Nat) : Int) = 0 from rfl) (show ((0 : Nat) : Int) = 0 from rfl) (i3I (y := (201 + 20 * a1)) (i3A (i3A (show (200 : Int32) = i3 200 from rfl) (i3M (show (20 : Int32) = i3 20 from rfl) (rfl : i3 a1 = i3 a1))) (show (1 : Int32) = i3 1 from rfl)) (by omega) (by omega) (by omega))))) (show (4 : Int32) = i3 4 from rfl)) (by omega) (by omega) (by omega))))) (zm_rd (Z := Z) (ν := ν) (k := 2) (show ((0 : Nat) : Int) = 0 from rfl) (show ((0 : Nat) : Int) = 0 from rfl) (i3I (y := (207 + 20 * a1)) (i3A (i3A (show (200 : Int32) = i3 200 from rfl) (i3M (show (20 : Int32) = i3 20 from rfl) (rfl : i3 a1 = i3 a1))) (show (7 : Int32) = i3 7 from rfl)) (by omega) (by omega) (by omega))) (by omega) (by omega) (by omega) (by omega)) (fun h7 => ?_) (fun h7 => ?_)
      · replace hP := zE_p hP h7
        exact zlR hP (show (3 : Int32) = i3 3 from rfl) ⟨by omega, by omega⟩
      · replace hP := zE_n hP h7
        exact zlR hP (show (2 : Int32) = i3 2 from rfl) ⟨by omega, by omega⟩
    · replace hP := zE_n hP h6
      exact zlR hP (show (0 : Int32) = i3 0 from rfl) ⟨by omega, by omega⟩
  · replace hP := zE_n hP h5
    exact zlR hP (show (0 : Int32) = i3 0 from rfl) ⟨by omega, by omega⟩
/- yX12_grade -/
def zy_345 (Z : qz_Z) (dm : qz_Z → Int → Int → Int → Int → Int → Int → Int → qz_Z) (a1 : Int) (a2 : Int) (a3 : Int) (a4 : Int) : qz_Z × Int := (if a1 < 0 then (zlet (zu Z 1 0 0 2 1) (fun Z5 => (Z5, 0))) else (if ((Z 2 0 0 102) - 1) < a1 then (zlet (zu Z 1 0 0 2 1) (fun Z8 => (Z8, 0))) else (zlet (zu Z 1 0 0 2 0) (fun Z9 => (if a2 < 1 then (zlet (zu Z9 1 0 0 2 2) (fun Z11 => (Z11, 0))) else (if 20 < a2 then (zlet (zu Z9 1 0 0 2 2) (fun Z13 => (Z13, 0))) else (if a3 < 0 then (zlet (zu Z9 1 0 0 2 2) (fun Z15 => (Z15, 0))) else (if 9 < a3 then (zlet (zu Z9 1 0 0 2 2) (fun Z17 => (Z17, 0))) else (if a4 < 0 then (zlet (zu Z9 1 0 0 2 2) (fun Z19 => (Z19, 0))) else (if 65535 < a4 then (zlet (zu Z9 1 0 0 2 2) (fun Z21 => (Z21, 0))) else (zlet (zu Z9 1 0 0 2 0) (fun Z22 => (if (Z22 2 0 0 (210 + 20 * a1)) ≠ 0 then (zlet (zu Z22 1 0 0 2 3) (fun Z25 => (Z25, 0))) else (if (Z22 2 0 0 (204 + 20 * a1)) < a2 then (zlet (zu Z22 1 0 0 2 3) (fun Z28 => (Z28, 0))) else (zlet (zu Z22 1 0 0 2 0) (fun Z29 => (zlet (dm Z29 4 a1 a2 a3 a4 0 0) (fun Z36 => (zlet (zu Z36 1 0 0 3 a4) (fun Z37 => (zlet2 (zf_322 Z37 (Z37 2 0 0 (204 + 20 * a1)) (Z37 2 0 0 (205 + 20 * a1)) a2) (fun Z41 v42 => (if v42 ≠ 0 then (if a3 < v42 then (if ((2 * a3) + 1) < v42 then (zlet (zf_326 Z41 a1) (fun v46 => (zlet (zu Z41 2 0 0 (209 + 20 * a1) 3) (fun Z47 => (zlet (zu Z47 2 0 0 (212 + 20 * a1) (w3 ((Z47 2 0 0 (212 + 20 * a1)) + 1))) (fun Z50 => (zlet (zu Z50 2 0 0 (213 + 20 * a1) v42) (fun Z51 => (zlet (zf_403 Z51 0 6 ((Z51 2 0 0 3810) * a2) a1) (fun Z54 => (Z54, (Z54 2 0 0 (209 + 20 * a1))))))))))))) else (zlet (zf_326 Z41 a1) (fun v56 => (if v56 ≤ 2 then (zlet (zu Z41 2 0 0 (209 + 20 * a1) 2) (fun Z58 => (zlet (zu Z58 2 0 0 (212 + 20 * a1) (w3 ((Z58 2 0 0 (212 + 20 * a1)) + 1))) (fun Z61 => (zlet (zu Z61 2 0 0 (213 + 20 * a1) v42) (fun Z62 => (zlet (zf_403 Z62 0 6 ((Z62 2 0 0 3810) * a2) a1) (fun Z65 => (Z65, (Z65 2 0 0 (209 + 20 * a1))))))))))) else (zlet (zu Z41 2 0 0 (209 + 20 * a1) v56) (fun Z67 => (zlet (zu Z67 2 0 0 (212 + 20 * a1) (w3 ((Z67 2 0 0 (212 + 20 * a1)) + 1))) (fun Z70 => (zlet (zu Z70 2 0 0 (213 + 20 * a1) v42) (fun Z71 => (zlet (zf_403 Z71 0 6 ((Z71 2 0 0 3810) * a2) a1) (fun Z74 => (Z74, (Z74 2 0 0 (209 + 20 * a1))))))))))))))) else (zlet (zf_326 Z41 a1) (fun v76 => (if v76 ≤ 1 then (zlet (zu Z41 2 0 0 (209 + 20 * a1) 1) (fun Z78 => (zlet (zu Z78 2 0 0 (212 + 20 * a1) (w3 ((Z78 2 0 0 (212 + 20 * a1)) + 1))) (fun Z81 => (zlet (zu Z81 2 0 0 (213 + 20 * a1) v42) (fun Z82 => (zlet (zf_403 Z82 0 6 ((Z82 2 0 0 3810) * a2) a1) (fun Z85 => (Z85, (Z85 2 0 0 (209 + 20 * a1))))))))))) else (zlet (zu Z41 2 0 0 (209 + 20 * a1) v76) (fun Z87 => (zlet (zu Z87 2 0 0 (212 + 20 * a1) (w3 ((Z87 2 0 0 (212 + 20 * a1)) + 1))) (fun Z90 => (zlet (zu Z90 2 0 0 (213 + 20 * a1) v42) (fun Z91 => (zlet (zf_403 Z91 0 6 ((Z91 2 0 0 3810) * a2) a1) (fun Z94 => (Z94, (Z94 2 0 0 (209 + 20 * a1))))))))))))))) else (zlet (zf_326 Z41 a1) (fun v96 => (if v96 ≤ 0 then (zlet (zu Z41 2 0 0 (209 + 20 * a1) 0) (fun Z98 => (zlet (zu Z98 2 0 0 (212 + 20 * a1) (w3 ((Z98 2 0 0 (212 + 20 * a1)) + 1))) (fun Z101 => (zlet (zu Z101 2 0 0 (213 + 20 * a1) v42) (fun Z102 => (zlet (zf_403 Z102 0 6 ((Z102 2 0 0 3810) * a2) a1) (fun Z105 => (Z105, (Z105 2 0 0 (209 + 20 * a1))))))))))) else (zlet (zu Z41 2 0 0 (209 + 20 * a1) v96) (fun Z107 => (zlet (zu Z107 2 0 0 (212 + 20 * a1) (w3 ((Z107 2 0 0 (212 + 20 * a1)) + 1))) (fun Z110 => (zlet (zu Z110 2 0 0 (213 + 20 * a1) v42) (fun Z111 => (zlet (zf_403 Z111 0 6 ((Z111 2 0 0 3810) * a2) a1) (fun Z114 => (Z114, (Z114 2 0 0 (209 + 20 * a1)))))))))))))))))))))))))))))))))))))
theorem sy_345 {s : zSM} {Z : qz_Z} {ν : qz_N} (hZ : zM s Z) (gq : Z 1 0 0 35 = 0) (hM : s.2 + 1 ≤ 1000000000) {a1 : Int} (ga1 : -2147483648 ≤ a1 ∧ a1 ≤ 2147483647) {a2 : Int} (ga2 : -2147483648 ≤ a2 ∧ a2 ≤ 2147483647) {a3 : Int} (ga3 : -2147483648 ≤ a3 ∧ a3 ≤ 2147483647) {a4 : Int} (ga4 : -2147483648 ≤ a4 ∧ a4 ≤ 2147483647) {dk : qz_Z → qz_Z} {dm : qz_Z → Int → Int → Int → Int → Int → Int → Int → qz_Z} {ν1 : qz_N} (hdm : zDm s ν ν1 Z dk dm) : ∃ (Z1 : qz_Z) (ν2 : qz_N) (v : Int), (Z1, v) = zy_345 Z dm a1 a2 a3 a4 ∧ (ν2 = ν ∨ ν2 = ν1) ∧ qf_345 [.inr (.inr (some (1, 0, 0))), .inl (i3 a1), .inl (i3 a2), .inl (i3 a3), .inl (i3 a4)] (zm Z ν) = some (zm Z1 ν2, .inl (some (.inl (i3 v)))) ∧ (fun Z1 => zM (zb s 1) Z1 ∧ zC [1, 2, 101, 102, 200] Z Z1 ∧ zU [] Z Z1) Z1 := by
  obtain ⟨P, hP⟩ := zx (zy_345 Z dm a1 a2 a3 a4)
  refine zc_Y (Q := fun Z1 => zM (zb s 1) Z1 ∧ zC [1, 2, 101, 102, 200] Z Z1 ∧ zU [] Z Z1) hP (fw_345 (i3 a1) (i3 a2) (i3 a3) (i3 a4) _ _ ?_)
  replace hP : zE P (zy_345 Z dm a1 a2 a3 a4) := hP
  unfold zy_345 at hP
  have r1 := zM_k hZ 1 0 0 35 (lo := 0) (hi := 1) (by decide) rfl
  have r2 := zM_k hZ 1 0 0 34 (lo := 0) (hi := 8) (by decide) rfl
  have r3 := zM_f hZ 1 0 0 37
  refine wz_br (i3L (rfl : i3 a1 = i3 a1) (show (0 : Int32) = i3 0 from rfl) (by omega) (by omega) (by omega) (by omega)) (fun h4 => ?_) (fun h4 => ?_)
  · replace hP := zE_p hP h4
    obtain ⟨Z5, hZ5⟩ := zx (zu Z 1 0 0 2 1)
    replace hP := zl_e hP hZ5
    have hZ5I := zM_u hZ hZ5 (lo := -2147483648) (hi := 2147483647) (by decide) rfl (by omega) ⟨by decide, by decide⟩ (Or.inr (by decide)) rfl
    have hZ5U : zU [] Z Z5 := zU_u zU_r hZ5 (Or.inl rfl)
    have hZ5K : zC [1, 2, 101, 102, 200] Z Z5 := zC_u zC_r hZ5 (by decide)
    intro μ9 e9
    replace e9 := e9.trans (zm_wI (Z := Z) (ν := ν) hZ5 (show ((0 : Nat) : Int) = 0 from rfl) (show ((0 : Nat) : Int) = 0 from rfl) (show ((2 : Nat) : Int) = 2 from rfl) (show (1 : Int32) = i3 1 from rfl))
    subst e9
    exact zlY hP (show (0 : Int32) = i3 0 from rfl) (.inl rfl) ⟨(zmw (a := 0) (c := 1) hZ5I (Nat.le_of_ble_eq_true rfl)), hZ5K, hZ5U⟩
  · replace hP := zE_n hP h4
    have r6 := zM_k hZ 2 0 0 102 (lo := 0) (hi := 48) (by decide) rfl
    refine wz_br (i3L (i3S (zm_rd (Z := Z) (ν := ν) (k := 2) (show ((0 : Nat) : Int) = 0 from rfl) (show ((0 : Nat) : Int) = 0 from rfl) (show ((102 : Nat) : Int) = 102 from rfl)) (show (1 : Int32) = i3 1 from rfl)) (rfl : i3 a1 = i3 a1) (by omega) (by omega) (by omega) (by omega)) (fun h7 => ?_) (fun h7 => ?_)
    · replace hP := zE_p hP h7
      obtain ⟨Z8, hZ8⟩ := zx (zu Z 1 0 0 2 1)
      replace hP := zl_e hP hZ8
      have hZ8I := zM_u hZ hZ8 (lo := -2147483648) (hi := 2147483647) (by decide) rfl (by omega) ⟨by decide, by decide⟩ (Or.inr (by decide)) rfl
      have hZ8U : zU [] Z Z8 := zU_u zU_r hZ8 (Or.inl rfl)
      have hZ8K : zC [1, 2, 101, 102, 200] Z Z8 := zC_u zC_r hZ8 (by decide)
      intro μ9 e9
      replace e9 := e9.trans (zm_wI (Z := Z) (ν := ν) hZ8 (show ((0 : Nat) : Int) = 0 from rfl) (show ((0 : Nat) : Int) = 0 from rfl) (show ((2 : Nat) : Int) = 2 from rfl) (show (1 : Int32) = i3 1 from rfl))
      subst e9
      exact zlY hP (show (0 : Int32) = i3 0 from rfl) (.inl rfl) ⟨(zmw (a := 0) (c := 1) hZ8I (Nat.le_of_ble_eq_true rfl)), hZ8K, hZ8U⟩
    · replace hP := zE_n hP h7
      obtain ⟨Z9, hZ9⟩ := zx (zu Z 1 0 0 2 0)
      replace hP := zl_e hP hZ9
      have hZ9I := zM_0 hZ hZ9 (by decide) (Or.inr (by decide))
      have hZ9U : zU [] Z Z9 := zU_u zU_r hZ9 (Or.inl rfl)
      have hZ9K : zC [1, 2, 101, 102, 200] Z Z9 := zC_u zC_r hZ9 (by decide)
      intro μ9 e9
      replace e9 := e9.trans (zm_wI (Z := Z) (ν := ν) hZ9 (show ((0 : Nat) : Int) = 0 from rfl) (show ((0 : Nat) : Int) = 0 from rfl) (show ((2 : Nat) : Int) = 2 from rfl) (show (0 : Int32) = i3 0 from rfl))
      subst e9
      refine wz_br (i3L (rfl : i3 a2 = i3 a2) (show (1 : Int32) = i3 1 from rfl) (by omega) (by omega) (by omega) (by omega)) (fun h10 => ?_) (fun h10 => ?_)
      · replace hP := zE_p hP h10
        obtain ⟨Z11, hZ11⟩ := zx (zu Z9 1 0 0 2 2)
        replace hP := zl_e hP hZ11
        have hZ11I := zM_u hZ9I hZ11 (lo := -2147483648) (hi := 2147483647) (by decide) rfl (by omega) ⟨by decide, by decide⟩ (Or.inr (by decide)) rfl
        have hZ11U : zU [] Z Z11 := zU_u hZ9U hZ11 (Or.inl rfl)
        have hZ11K : zC [1, 2, 101, 102, 200] Z Z11 := zC_u hZ9K hZ11 (by decide)
        intro μ9 e9
        replace e9 := e9.trans (zm_wI (Z := Z9) (ν := ν) hZ11 (show ((0 : Nat) : Int) = 0 from rfl) (show ((0 : Nat) : Int) = 0 from rfl) (show ((2 : Nat) : Int) = 2 from rfl) (show (2 : Int32) = i3 2 from rfl))
        subst e9
        exact zlY hP (show (0 : Int32) = i3 0 from rfl) (.inl rfl) ⟨(zmw (a := 0) (c := 1) hZ11I (Nat.le_of_ble_eq_true rfl)), hZ11K, hZ11U⟩
      · replace hP := zE_n hP h10
        refine wz_br (i3L (show (20 : Int32) = i3 20 from rfl) (rfl : i3 a2 = i3 a2) (by omega) (by omega) (by omega) (by omega)) (fun h12 => ?_) (fun h12 => ?_)
        · replace hP := zE_p hP h12
          obtain ⟨Z13, hZ13⟩ := zx (zu Z9 1 0 0 2 2)
          replace hP := zl_e hP hZ13
          have hZ13I := zM_u hZ9I hZ13 (lo := -2147483648) (hi := 2147483647) (by decide) rfl (by omega) ⟨by decide, by decide⟩ (Or.inr (by decide)) rfl
          have hZ13U : zU [] Z Z13 := zU_u hZ9U hZ13 (Or.inl rfl)
          have hZ13K : zC [1, 2, 101, 102, 200] Z Z13 := zC_u hZ9K hZ13 (by decide)
          intro μ9 e9
          replace e9 := e9.trans (zm_wI (Z := Z9) (ν := ν) hZ13 (show ((0 : Nat) : Int) = 0 from rfl) (show ((0 : Nat) : Int) = 0 from rfl) (show ((2 : Nat) : Int) = 2 from rfl) (show (2 : Int32) = i3 2 from rfl))
          subst e9
          exact zlY hP (show (0 : Int32) = i3 0 from rfl) (.inl rfl) ⟨(zmw (a := 0) (c := 1) hZ13I (Nat.le_of_ble_eq_true rfl)), hZ13K, hZ13U⟩
        · replace hP := zE_n hP h12
          refine wz_br (i3L (rfl : i3 a3 = i3 a3) (show (0 : Int32) = i3 0 from rfl) (by omega) (by omega) (by omega) (by omega)) (fun h14 => ?_) (fun h14 => ?_)
          · replace hP := zE_p hP h14
            obtain ⟨Z15, hZ15⟩ := zx (zu Z9 1 0 0 2 2)
            replace hP := zl_e hP hZ15
            have hZ15I := zM_u hZ9I hZ15 (lo := -2147483648) (hi := 2147483647) (by decide) rfl (by omega) ⟨by decide, by decide⟩ (Or.inr (by decide)) rfl
            have hZ15U : zU [] Z Z15 := zU_u hZ9U hZ15 (Or.inl rfl)
            have hZ15K : zC [1, 2, 101, 102, 200] Z Z15 := zC_u hZ9K hZ15 (by decide)
            intro μ9 e9
            replace e9 := e9.trans (zm_wI (Z := Z9) (ν := ν) hZ15 (show ((0 : Nat) : Int) = 0 from rfl) (show ((0 : Nat) : Int) = 0 from rfl) (show ((2 : Nat) : Int) = 2 from rfl) (show (2 : Int32) = i3 2 from rfl))
            subst e9
            exact zlY hP (show (0 : Int32) = i3 0 from rfl) (.inl rfl) ⟨(zmw (a := 0) (c := 1) hZ15I (Nat.le_of_ble_eq_true rfl)), hZ15K, hZ15U⟩
          · replace hP := zE_n hP h14
            refine wz_br (i3L (show (9 : Int32) = i3 9 from rfl) (rfl : i3 a3 = i3 a3) (by omega) (by omega) (by omega) (by omega)) (fun h16 => ?_) (fun h16 => ?_)
            · replace hP := zE_p hP h16
              obtain ⟨Z17, hZ17⟩ := zx (zu Z9 1 0 0 2 2)
              replace hP := zl_e hP hZ17
              have hZ17I := zM_u hZ9I hZ17 (lo := -2147483648) (hi := 2147483647) (by decide) rfl (by omega) ⟨by decide, by decide⟩ (Or.inr (by decide)) rfl
              have hZ17U : zU [] Z Z17 := zU_u hZ9U hZ17 (Or.inl rfl)
              have hZ17K : zC [1, 2, 101, 102, 200] Z Z17 := zC_u hZ9K hZ17 (by decide)
              intro μ9 e9
              replace e9 := e9.trans (zm_wI (Z := Z9) (ν := ν) hZ17 (show ((0 : Nat) : Int) = 0 from rfl) (show ((0 : Nat) : Int) = 0 from rfl) (show ((2 : Nat) : Int) = 2 from rfl) (show (2 : Int32) = i3 2 from rfl))
              subst e9
              exact zlY hP (show (0 : Int32) = i3 0 from rfl) (.inl rfl) ⟨(zmw (a := 0) (c := 1) hZ17I (Nat.le_of_ble_eq_true rfl)), hZ17K, hZ17U⟩
            · replace hP := zE_n hP h16
              refine wz_br (i3L (rfl : i3 a4 = i3 a4) (show (0 : Int32) = i3 0 from rfl) (by omega) (by omega) (by omega) (by omega)) (fun h18 => ?_) (fun h18 => ?_)
              · replace hP := zE_p hP h18
                obtain ⟨Z19, hZ19⟩ := zx (zu Z9 1 0 0 2 2)
                replace hP := zl_e hP hZ19
                have hZ19I := zM_u hZ9I hZ19 (lo := -2147483648) (hi := 2147483647) (by decide) rfl (by omega) ⟨by decide, by decide⟩ (Or.inr (by decide)) rfl
                have hZ19U : zU [] Z Z19 := zU_u hZ9U hZ19 (Or.inl rfl)
                have hZ19K : zC [1, 2, 101, 102, 200] Z Z19 := zC_u hZ9K hZ19 (by decide)
                intro μ9 e9
                replace e9 := e9.trans (zm_wI (Z := Z9) (ν := ν) hZ19 (show ((0 : Nat) : Int) = 0 from rfl) (show ((0 : Nat) : Int) = 0 from rfl) (show ((2 : Nat) : Int) = 2 from rfl) (show (2 : Int32) = i3 2 from rfl))
                subst e9
                exact zlY hP (show (0 : Int32) = i3 0 from rfl) (.inl rfl) ⟨(zmw (a := 0) (c := 1) hZ19I (Nat.le_of_ble_eq_true rfl)), hZ19K, hZ19U⟩
              · replace hP := zE_n hP h18
                refine wz_br (i3L (show (65535 : Int32) = i3 65535 from rfl) (rfl : i3 a4 = i3 a4) (by omega) (by omega) (by omega) (by omega)) (fun h20 => ?_) (fun h20 => ?_)
                · replace hP := zE_p hP h20
                  obtain ⟨Z21, hZ21⟩ := zx (zu Z9 1 0 0 2 2)
                  replace hP := zl_e hP hZ21
                  have hZ21I := zM_u hZ9I hZ21 (lo := -2147483648) (hi := 2147483647) (by decide) rfl (by omega) ⟨by decide, by decide⟩ (Or.inr (by decide)) rfl
                  have hZ21U : zU [] Z Z21 := zU_u hZ9U hZ21 (Or.inl rfl)
                  have hZ21K : zC [1, 2, 101, 102, 200] Z Z21 := zC_u hZ9K hZ21 (by decide)
                  intro μ9 e9
                  replace e9 := e9.trans (zm_wI (Z := Z9) (ν := ν) hZ21 (show ((0 : Nat) : Int) = 0 from rfl) (show ((0 : Nat) : Int) = 0 from rfl) (show ((2 : Nat) : Int) = 2 from rfl) (show (2 : Int32) = i3 2 from rfl))
                  subst e9
                  exact zlY hP (show (0 : Int32) = i3 0 from rfl) (.inl rfl) ⟨(zmw (a := 0) (c := 1) hZ21I (Nat.le_of_ble_eq_true rfl)), hZ21K, hZ21U⟩
                · replace hP := zE_n hP h20
                  obtain ⟨Z22, hZ22⟩ := zx (zu Z9 1 0 0 2 0)
                  replace hP := zl_e hP hZ22
                  have hZ22I := zM_0 hZ9I hZ22 (by decide) (Or.inr (by decide))
                  have hZ22U : zU [] Z Z22 := zU_u hZ9U hZ22 (Or.inl rfl)
                  have hZ22K : zC [1, 2, 101, 102, 200] Z Z22 := zC_u hZ9K hZ22 (by decide)
                  intro μ9 e9
                  replace e9 := e9.trans (zm_wI (Z := Z9) (ν := ν) hZ22 (show ((0 : Nat) : Int) = 0 from rfl) (show ((0 : Nat) : Int) = 0 from rfl) (show ((2 : Nat) : Int) = 2 from rfl) (show (0 : Int32) = i3 0 from rfl))
                  subst e9
                  refine wz_i0 (i3O (n := 4400) (i3A (i3A (show (200 : Int32) = i3 200 from rfl) (i3M (show (20 : Int32) = i3 20 from rfl) (rfl : i3 a1 = i3 a1))) (show (10 : Int32) = i3 10 from rfl)) (by omega) (by omega) (by omega)) ?_
                  have r23 := zM_k hZ22I 2 0 0 (210 + 20 * a1) (lo := 0) (hi := 4) (by decide) (zs_200_10 (x := a1) (by omega) (by omega) (by omega))
                  refine wz_br (i3NE (zm_rd (Z := Z22) (ν := ν) (k := 2) (show ((0 : Nat) : Int) = 0 from rfl) (show ((0 : Nat) : Int) = 0 from rfl) (i3I (y := (210 + 20 * a1)) (i3A (i3A (show (200 : Int32) = i3 200 from rfl) (i3M (show (20 : Int32) = i3 20 from rfl) (rfl : i3 a1 = i3 a1))) (show (10 : Int32) = i3 10 from rfl)) (by omega) (by omega) (by omega))) (show (0 : Int32) = i3 0 from rfl) (by omega) (by omega) (by omega) (by omega)) (fun h24 => ?_) (fun h24 => ?_)
                  · replace hP := zE_p hP h24
                    obtain ⟨Z25, hZ25⟩ := zx (zu Z22 1 0 0 2 3)
                    replace hP := zl_e hP hZ25
                    have hZ25I := zM_u hZ22I hZ25 (lo := -2147483648) (hi := 2147483647) (by decide) rfl (by omega) ⟨by decide, by decide⟩ (Or.inr (by decide)) rfl
                    have hZ25U : zU [] Z Z25 := zU_u hZ22U hZ25 (Or.inl rfl)
                    have hZ25K : zC [1, 2, 101, 102, 200] Z Z25 := zC_u hZ22K hZ25 (by decide)
                    intro μ9 e9
                    replace e9 := e9.trans (zm_wI (Z := Z22) (ν := ν) hZ25 (show ((0 : Nat) : Int) = 0 from rfl) (show ((0 : Nat) : Int) = 0 from rfl) (show ((2 : Nat) : Int) = 2 from rfl) (show (3 : Int32) = i3 3 from rfl))
                    subst e9
                    exact zlY hP (show (0 : Int32) = i3 0 from rfl) (.inl rfl) ⟨(zmw (a := 0) (c := 1) hZ25I (Nat.le_of_ble_eq_true rfl)), hZ25K, hZ25U⟩
                  · replace hP := zE_n hP h24
                    refine wz_i0 (i3O (n := 4400) (i3A (i3A (show (200 : Int32) = i3 200 from rfl) (i3M (show (20 : Int32) = i3 20 from rfl) (rfl : i3 a1 = i3 a1))) (show (4 : Int32) = i3 4 from rfl)) (by omega) (by omega) (by omega)) ?_
                    have r26 := zM_k hZ22I 2 0 0 (204 + 20 * a1) (lo := 0) (hi := 40) (by decide) (zs_200_4 (x := a1) (by omega) (by omega) (by omega))
                    refine wz_br (i3L (zm_rd (Z := Z22) (ν := ν) (k := 2) (show ((0 : Nat) : Int) = 0 from rfl) (show ((0 : Nat) : Int) = 0 from rfl) (i3I (y := (204 + 20 * a1)) (i3A (i3A (show (200 : Int32) = i3 200 from rfl) (i3M (show (20 : Int32) = i3 20 from rfl) (rfl : i3 a1 = i3 a1))) (show (4 : Int32) = i3 4 from rfl)) (by omega) (by omega) (by omega))) (rfl : i3 a2 = i3 a2) (by omega) (by omega) (by omega) (by omega)) (fun h27 => ?_) (fun h27 => ?_)
                    · replace hP := zE_p hP h27
                      obtain ⟨Z28, hZ28⟩ := zx (zu Z22 1 0 0 2 3)
                      replace hP := zl_e hP hZ28
                      have hZ28I := zM_u hZ22I hZ28 (lo := -2147483648) (hi := 2147483647) (by decide) rfl (by omega) ⟨by decide, by decide⟩ (Or.inr (by decide)) rfl
                      have hZ28U : zU [] Z Z28 := zU_u hZ22U hZ28 (Or.inl rfl)
                      have hZ28K : zC [1, 2, 101, 102, 200] Z Z28 := zC_u hZ22K hZ28 (by decide)
                      intro μ9 e9
                      replace e9 := e9.trans (zm_wI (Z := Z22) (ν := ν) hZ28 (show ((0 : Nat) : Int) = 0 from rfl) (show ((0 : Nat) : Int) = 0 from rfl) (show ((2 : Nat) : Int) = 2 from rfl) (show (3 : Int32) = i3 3 from rfl))
                      subst e9
                      exact zlY hP (show (0 : Int32) = i3 0 from rfl) (.inl rfl) ⟨(zmw (a := 0) (c := 1) hZ28I (Nat.le_of_ble_eq_true rfl)), hZ28K, hZ28U⟩
                    · replace hP := zE_n hP h27
                      obtain ⟨Z29, hZ29⟩ := zx (zu Z22 1 0 0 2 0)
                      replace hP := zl_e hP hZ29
                      have hZ29I := zM_0 hZ22I hZ29 (by decide) (Or.inr (by decide))
                      have hZ29U : zU [] Z Z29 := zU_u hZ22U hZ29 (Or.inl rfl)
                      have hZ29K : zC [1, 2, 101, 102, 200] Z Z29 := zC_u hZ22K hZ29 (by decide)
                      intro μ9 e9
                      replace e9 := e9.trans (zm_wI (Z := Z22) (ν := ν) hZ29 (show ((0 : Nat) : Int) = 0 from rfl) (show ((0 : Nat) : Int) = 0 from rfl) (show ((2 : Nat) : Int) = 2 from rfl) (show (0 : Int32) = i3 0 from rfl))
                      subst e9
                      have r30 := zM_k hZ29I 1 0 0 35 (lo := 0) (hi := 1) (by decide) rfl
                      have q31 := (zu_ne (k' := 1) (b' := 0) (i' := 0) (j' := 35) hZ29 (fun q => absurd q.2.2.2 (by decide))).trans ((zu_ne (k' := 1) (b' := 0) (i' := 0) (j' := 35) hZ22 (fun q => absurd q.2.2.2 (by decide))).trans (zu_ne (k' := 1) (b' := 0) (i' := 0) (j' := 35) hZ9 (fun q => absurd q.2.2.2 (by decide))))
                      refine wz_i0 (Eq.trans (i3NE (zm_rd (Z := Z29) (ν := ν) (k := 1) (show ((0 : Nat) : Int) = 0 from rfl) (show ((0 : Nat) : Int) = 0 from rfl) (show ((35 : Nat) : Int) = 35 from rfl)) (show (0 : Int32) = i3 0 from rfl) (by omega) (by omega) (by omega) (by omega)) (decide_eq_false (by omega))) ?_
                      have r32 := zM_k hZ29I 1 0 0 34 (lo := 0) (hi := 8) (by decide) rfl
                      have q33 := (zu_ne (k' := 1) (b' := 0) (i' := 0) (j' := 34) hZ29 (fun q => absurd q.2.2.2 (by decide))).trans ((zu_ne (k' := 1) (b' := 0) (i' := 0) (j' := 34) hZ22 (fun q => absurd q.2.2.2 (by decide))).trans (zu_ne (k' := 1) (b' := 0) (i' := 0) (j' := 34) hZ9 (fun q => absurd q.2.2.2 (by decide))))
                      have r34 := zM_f hZ29I 1 0 0 37
                      have q35 := (zu_ne (k' := 1) (b' := 0) (i' := 0) (j' := 37) hZ29 (fun q => absurd q.2.2.2 (by decide))).trans ((zu_ne (k' := 1) (b' := 0) (i' := 0) (j' := 37) hZ22 (fun q => absurd q.2.2.2 (by decide))).trans (zu_ne (k' := 1) (b' := 0) (i' := 0) (j' := 37) hZ9 (fun q => absurd q.2.2.2 (by decide))))
                      obtain ⟨c8, c9, hZ36I, dZ36⟩ := hdm Z29 4 a1 a2 a3 a4 0 0 hZ29I (by omega) (by omega) (by omega) (by omega) (by omega) (by omega) (by omega) (by omega) (by omega) (by omega)
                      obtain ⟨Z36, hZ36⟩ := zx (dm Z29 4 a1 a2 a3 a4 0 0)
                      rw [← hZ36] at c9 hZ36I dZ36
                      replace hP := zl_e hP hZ36
                      refine wz_cV_of (zas (zcons rfl (zcons (zvi (show (-1 : Int32) = i3 (-1) from rfl)) rfl)) c8) ?_
                      refine wz_cV_of (zas (zcons rfl (zcons (zvi (show (4 : Int32) = i3 4 from rfl)) (zcons (zvi (rfl : i3 a1 = i3 a1)) (zcons (zvi (rfl : i3 a2 = i3 a2)) (zcons (zvi (rfl : i3 a3 = i3 a3)) (zcons (zvi (rfl : i3 a4 = i3 a4)) (zcons (zvi (show (0 : Int32) = i3 0 from rfl)) (zcons (zvi (show (0 : Int32) = i3 0 from rfl)) rfl)))))))) c9) ?_
                      clear c8 c9
                      have hZ36K : zC [1, 2, 101, 102, 200] Z Z36 := zC_t hZ29K (zMd_C dZ36) (by decide)
                      have hZ36U : zU [] Z Z36 := zU_t hZ29U (zMd_U dZ36) zU_b0
                      obtain ⟨Z37, hZ37⟩ := zx (zu Z36 1 0 0 3 a4)
                      replace hP := zl_e hP hZ37
                      have hZ37I := zM_u hZ36I hZ37 (lo := 0) (hi := 65535) (by decide) rfl (by omega) ⟨by decide, by decide⟩ (Or.inr (by decide)) rfl
                      have hZ37U : zU [] Z Z37 := zU_u hZ36U hZ37 (Or.inl rfl)
                      have hZ37K : zC [1, 2, 101, 102, 200] Z Z37 := zC_u hZ36K hZ37 (by decide)
                      intro μ9 e9
                      replace e9 := e9.trans (zm_wI (Z := Z36) (ν := ν1) hZ37 (show ((0 : Nat) : Int) = 0 from rfl) (show ((0 : Nat) : Int) = 0 from rfl) (show ((3 : Nat) : Int) = 3 from rfl) (rfl : i3 a4 = i3 a4))
                      subst e9
                      refine wz_i0 (i3O (n := 4400) (i3A (i3A (show (200 : Int32) = i3 200 from rfl) (i3M (show (20 : Int32) = i3 20 from rfl) (rfl : i3 a1 = i3 a1))) (show (4 : Int32) = i3 4 from rfl)) (by omega) (by omega) (by omega)) ?_
                      refine wz_i0 (i3O (n := 4400) (i3A (i3A (show (200 : Int32) = i3 200 from rfl) (i3M (show (20 : Int32) = i3 20 from rfl) (rfl : i3 a1 = i3 a1))) (show (5 : Int32) = i3 5 from rfl)) (by omega) (by omega) (by omega)) ?_
                      have r38 := zM_k hZ37I 2 0 0 (204 + 20 * a1) (lo := 0) (hi := 40) (by decide) (zs_200_4 (x := a1) (by omega) (by omega) (by omega))
                      have q39 := (zu_ne (k' := 2) (b' := 0) (i' := 0) (j' := (204 + 20 * a1)) hZ37 (fun q => absurd q.1 (by decide))).trans ((dZ36 2 0 0 (204 + 20 * a1) (by simp)).trans (zu_ne (k' := 2) (b' := 0) (i' := 0) (j' := (204 + 20 * a1)) hZ29 (fun q => absurd q.1 (by decide))))
                      have r40 := zM_k hZ37I 2 0 0 (205 + 20 * a1) (lo := 0) (hi := 40) (by decide) (zs_200_5 (x := a1) (by omega) (by omega) (by omega))
                      obtain ⟨Z41, v42, hv42, c9, hZ41I, kZ41, jZ41, lv42, uv42⟩ := sp_322 (ν := ν1) hZ37I (a1 := (Z37 2 0 0 (204 + 20 * a1))) (by omega) (a2 := (Z37 2 0 0 (205 + 20 * a1))) (by omega) (a3 := a2) (by omega) (zbh (c := 0) (k := 0) hM (Nat.le_of_ble_eq_true rfl))
                      have hZ41U : zU [] Z Z41 := zU_t hZ37U jZ41 zU_b0
                      have hZ41K : zC [1, 2, 101, 102, 200] Z Z41 := zC_t hZ37K kZ41 (by decide)
                      replace hP := zl_e2 hP hv42
                      refine wz_cI_of (zas (zcons rfl (zcons (zvi (zm_rd (Z := Z37) (ν := ν1) (k := 2) (show ((0 : Nat) : Int) = 0 from rfl) (show ((0 : Nat) : Int) = 0 from rfl) (i3I (y := (204 + 20 * a1)) (i3A (i3A (show (200 : Int32) = i3 200 from rfl) (i3M (show (20 : Int32) = i3 20 from rfl) (rfl : i3 a1 = i3 a1))) (show (4 : Int32) = i3 4 from rfl)) (by omega) (by omega) (by omega)))) (zcons (zvi (zm_rd (Z := Z37) (ν := ν1) (k := 2) (show ((0 : Nat) : Int) = 0 from rfl) (show ((0 : Nat) : Int) = 0 from rfl) (i3I (y := (205 + 20 * a1)) (i3A (i3A (show (200 : Int32) = i3 200 from rfl) (i3M (show (20 : Int32) = i3 20 from rfl) (rfl : i3 a1 = i3 a1))) (show (5 : Int32) = i3 5 from rfl)) (by omega) (by omega) (by omega)))) (zcons (zvi (rfl : i3 a2 = i3 a2)) rfl)))) c9) ?_
                      clear c9 hv42
                      refine wz_br (i3NE (rfl : i3 v42 = i3 v42) (show (0 : Int32) = i3 0 from rfl) (by omega) (by omega) (by omega) (by omega)) (fun h43 => ?_) (fun h43 => ?_)
                      · replace hP := zE_p hP h43
                        refine wz_br (i3L (rfl : i3 a3 = i3 a3) (rfl : i3 v42 = i3 v42) (by omega) (by omega) (by omega) (by omega)) (fun h44 => ?_) (fun h44 => ?_)
                        · replace hP := zE_p hP h44
                          refine wz_br (i3L (i3A (i3M (show (2 : Int32) = i3 2 from rfl) (rfl : i3 a3 = i3 a3)) (show (1 : Int32) = i3 1 from rfl)) (rfl : i3 v42 = i3 v42) (by omega) (by omega) (by omega) (by omega)) (fun h45 => ?_) (fun h45 => ?_)
                          · replace hP := zE_p hP h45
                            obtain ⟨v46, hv46, c9, lv46, uv46⟩ := sp_326 (ν := ν1) hZ41I (a1 := a1) (by omega) (zbh (c := 0) (k := 0) hM (Nat.le_of_ble_eq_true rfl))
                            replace hP := zl_e hP hv46
                            refine wz_cI_of (zas (zcons rfl (zcons (zvi (rfl : i3 a1 = i3 a1)) rfl)) c9) ?_
                            clear c9
                            refine wz_i1 (Eq.trans (i3Le (rfl : i3 v46 = i3 v46) (show (3 : Int32) = i3 3 from rfl) (by omega) (by omega) (by omega) (by omega)) (decide_eq_true (by omega))) ?_
                            refine wz_i0 (i3O (n := 4400) (i3A (i3A (show (200 : Int32) = i3 200 from rfl) (i3M (show (20 : Int32) = i3 20 from rfl) (rfl : i3 a1 = i3 a1))) (show (9 : Int32) = i3 9 from rfl)) (by omega) (by omega) (by omega)) ?_
                            obtain ⟨Z47, hZ47⟩ := zx (zu Z41 2 0 0 (209 + 20 * a1) 3)
                            replace hP := zl_e hP hZ47
                            have hZ47I := zM_u2 hZ41I hZ47 (lo := -1) (hi := 3) (zs_200_9 (x := a1) (by omega) (by omega) (by omega)) (by omega) ⟨by decide, by decide⟩ (by simp only [zsp]; omega)
                            have hZ47U : zU [] Z Z47 := zU_u hZ41U hZ47 (Or.inl rfl)
                            have hZ47K : zC [1, 2, 101, 102, 200] Z Z47 := zC_u hZ41K hZ47 (zcl_2w (by omega) rfl)
                            intro μ9 e9
                            replace e9 := e9.trans (zm_wI (Z := Z41) (ν := ν1) hZ47 (show ((0 : Nat) : Int) = 0 from rfl) (show ((0 : Nat) : Int) = 0 from rfl) (i3I (y := (209 + 20 * a1)) (i3A (i3A (show (200 : Int32) = i3 200 from rfl) (i3M (show (20 : Int32) = i3 20 from rfl) (rfl : i3 a1 = i3 a1))) (show (9 : Int32) = i3 9 from rfl)) (by omega) (by omega) (by omega)) (show (3 : Int32) = i3 3 from rfl))
                            subst e9
                            refine wz_i0 (i3O (n := 4400) (i3A (i3A (show (200 : Int32) = i3 200 from rfl) (i3M (show (20 : Int32) = i3 20 from rfl) (rfl : i3 a1 = i3 a1))) (show (12 : Int32) = i3 12 from rfl)) (by omega) (by omega) (by omega)) ?_
                            refine wz_i0 (i3O (n := 4400) (i3A (i3A (show (200 : Int32) = i3 200 from rfl) (i3M (show (20 : Int32) = i3 20 from rfl) (rfl : i3 a1 = i3 a1))) (show (12 : Int32) = i3 12 from rfl)) (by omega) (by omega) (by omega)) ?_
                            have r48 := zM_f hZ47I 2 0 0 (212 + 20 * a1)
                            have r49 := w3_r ((Z47 2 0 0 (212 + 20 * a1)) + 1)
                            obtain ⟨Z50, hZ50⟩ := zx (zu Z47 2 0 0 (212 + 20 * a1) (w3 ((Z47 2 0 0 (212 + 20 * a1)) + 1)))
                            replace hP := zl_e hP hZ50
                            have hZ50I := zM_u2 hZ47I hZ50 (lo := -2147483648) (hi := 2147483647) (zs_200_12 (x := a1) (by omega) (by omega) (by omega)) (by omega) ⟨by decide, by decide⟩ (by simp only [zsp]; omega)
                            have hZ50U : zU [] Z Z50 := zU_u hZ47U hZ50 (Or.inl rfl)
                            have hZ50K : zC [1, 2, 101, 102, 200] Z Z50 := zC_u hZ47K hZ50 (zcl_2w (by omega) rfl)
                            intro μ9 e9
                            replace e9 := e9.trans (zm_wI (Z := Z47) (ν := ν1) hZ50 (show ((0 : Nat) : Int) = 0 from rfl) (show ((0 : Nat) : Int) = 0 from rfl) (i3I (y := (212 + 20 * a1)) (i3A (i3A (show (200 : Int32) = i3 200 from rfl) (i3M (show (20 : Int32) = i3 20 from rfl) (rfl : i3 a1 = i3 a1))) (show (12 : Int32) = i3 12 from rfl)) (by omega) (by omega) (by omega)) (i3W (i3A (zm_rd (Z := Z47) (ν := ν1) (k := 2) (show ((0 : Nat) : Int) = 0 from rfl) (show ((0 : Nat) : Int) = 0 from rfl) (i3I (y := (212 + 20 * a1)) (i3A (i3A (show (200 : Int32) = i3 200 from rfl) (i3M (show (20 : Int32) = i3 20 from rfl) (rfl : i3 a1 = i3 a1))) (show (12 : Int32) = i3 12 from rfl)) (by omega) (by omega) (by omega))) (show (1 : Int32) = i3 1 from rfl))))
                            subst e9
                            refine wz_i0 (i3O (n := 4400) (i3A (i3A (show (200 : Int32) = i3 200 from rfl) (i3M (show (20 : Int32) = i3 20 from rfl) (rfl : i3 a1 = i3 a1))) (show (13 : Int32) = i3 13 from rfl)) (by omega) (by omega) (by omega)) ?_
                            obtain ⟨Z51, hZ51⟩ := zx (zu Z50 2 0 0 (213 + 20 * a1) v42)
                            replace hP := zl_e hP hZ51
                            have hZ51I := zM_u2 hZ50I hZ51 (lo := -1) (hi := 20) (zs_200_13 (x := a1) (by omega) (by omega) (by omega)) (by omega) ⟨by decide, by decide⟩ (by simp only [zsp]; omega)
                            have hZ51U : zU [] Z Z51 := zU_u hZ50U hZ51 (Or.inl rfl)
                            have hZ51K : zC [1, 2, 101, 102, 200] Z Z51 := zC_u hZ50K hZ51 (zcl_2w (by omega) rfl)
                            intro μ9 e9
                            replace e9 := e9.trans (zm_wI (Z := Z50) (ν := ν1) hZ51 (show ((0 : Nat) : Int) = 0 from rfl) (show ((0 : Nat) : Int) = 0 from rfl) (i3I (y := (213 + 20 * a1)) (i3A (i3A (show (200 : Int32) = i3 200 from rfl) (i3M (show (20 : Int32) = i3 20 from rfl) (rfl : i3 a1 = i3 a1))) (show (13 : Int32) = i3 13 from rfl)) (by omega) (by omega) (by omega)) (rfl : i3 v42 = i3 v42))
                            subst e9
                            have r52 := zM_k hZ51I 2 0 0 3810 (lo := 0) (hi := 99999) (by decide) rfl
                            have r53 := z_mul (x := (Z51 2 0 0 3810)) (y := a2) (a := 99999) (b := 20) (by omega) (by omega) (by omega) (by omega)
                            obtain ⟨Z54, hZ54, c9, hZ54I, kZ54, jZ54⟩ := sp_403 (ν := ν1) hZ51I (a1 := 0) (by omega) (a2 := 6) (by omega) (a3 := ((Z51 2 0 0 3810) * a2)) (by omega) (a4 := a1) (by omega) (zbh (c := 0) (k := 1) hM (Nat.le_of_ble_eq_true rfl))
                            have hZ54U : zU [] Z Z54 := zU_t hZ51U jZ54 zU_b0
                            have hZ54K : zC [1, 2, 101, 102, 200] Z Z54 := zC_t hZ51K kZ54 (by decide)
                            replace hP := zl_e hP hZ54
                            refine wz_cV_of (zas (zcons rfl (zcons (zvi (show (0 : Int32) = i3 0 from rfl)) (zcons (zvi (show (6 : Int32) = i3 6 from rfl)) (zcons (zvi (i3M (zm_rd (Z := Z51) (ν := ν1) (k := 2) (show ((0 : Nat) : Int) = 0 from rfl) (show ((0 : Nat) : Int) = 0 from rfl) (show ((3810 : Nat) : Int) = 3810 from rfl)) (rfl : i3 a2 = i3 a2))) (zcons (zvi (rfl : i3 a1 = i3 a1)) rfl))))) c9) ?_
                            clear c9
                            refine wz_i0 (i3O (n := 4400) (i3A (i3A (show (200 : Int32) = i3 200 from rfl) (i3M (show (20 : Int32) = i3 20 from rfl) (rfl : i3 a1 = i3 a1))) (show (9 : Int32) = i3 9 from rfl)) (by omega) (by omega) (by omega)) ?_
                            have r55 := zM_k hZ54I 2 0 0 (209 + 20 * a1) (lo := -1) (hi := 3) (by decide) (zs_200_9 (x := a1) (by omega) (by omega) (by omega))
                            exact zlY hP (zm_rd (Z := Z54) (ν := ν1) (k := 2) (show ((0 : Nat) : Int) = 0 from rfl) (show ((0 : Nat) : Int) = 0 from rfl) (i3I (y := (209 + 20 * a1)) (i3A (i3A (show (200 : Int32) = i3 200 from rfl) (i3M (show (20 : Int32) = i3 20 from rfl) (rfl : i3 a1 = i3 a1))) (show (9 : Int32) = i3 9 from rfl)) (by omega) (by omega) (by omega))) (.inr rfl) ⟨hZ54I, hZ54K, hZ54U⟩
                          · replace hP := zE_n hP h45
                            obtain ⟨v56, hv56, c9, lv56, uv56⟩ := sp_326 (ν := ν1) hZ41I (a1 := a1) (by omega) (zbh (c := 0) (k := 0) hM (Nat.le_of_ble_eq_true rfl))
                            replace hP := zl_e hP hv56
                            refine wz_cI_of (zas (zcons rfl (zcons (zvi (rfl : i3 a1 = i3 a1)) rfl)) c9) ?_
                            clear c9
                            refine wz_br (i3Le (rfl : i3 v56 = i3 v56) (show (2 : Int32) = i3 2 from rfl) (by omega) (by omega) (by omega) (by omega)) (fun h57 => ?_) (fun h57 => ?_)
                            · replace hP := zE_p hP h57
                              refine wz_i0 (i3O (n := 4400) (i3A (i3A (show (200 : Int32) = i3 200 from rfl) (i3M (show (20 : Int32) = i3 20 from rfl) (rfl : i3 a1 = i3 a1))) (show (9 : Int32) = i3 9 from rfl)) (by omega) (by omega) (by omega)) ?_
                              obtain ⟨Z58, hZ58⟩ := zx (zu Z41 2 0 0 (209 + 20 * a1) 2)
                              replace hP := zl_e hP hZ58
                              have hZ58I := zM_u2 hZ41I hZ58 (lo := -1) (hi := 3) (zs_200_9 (x := a1) (by omega) (by omega) (by omega)) (by omega) ⟨by decide, by decide⟩ (by simp only [zsp]; omega)
                              have hZ58U : zU [] Z Z58 := zU_u hZ41U hZ58 (Or.inl rfl)
                              have hZ58K : zC [1, 2, 101, 102, 200] Z Z58 := zC_u hZ41K hZ58 (zcl_2w (by omega) rfl)
                              intro μ9 e9
                              replace e9 := e9.trans (zm_wI (Z := Z41) (ν := ν1) hZ58 (show ((0 : Nat) : Int) = 0 from rfl) (show ((0 : Nat) : Int) = 0 from rfl) (i3I (y := (209 + 20 * a1)) (i3A (i3A (show (200 : Int32) = i3 200 from rfl) (i3M (show (20 : Int32) = i3 20 from rfl) (rfl : i3 a1 = i3 a1))) (show (9 : Int32) = i3 9 from rfl)) (by omega) (by omega) (by omega)) (show (2 : Int32) = i3 2 from rfl))
                              subst e9
                              refine wz_i0 (i3O (n := 4400) (i3A (i3A (show (200 : Int32) = i3 200 from rfl) (i3M (show (20 : Int32) = i3 20 from rfl) (rfl : i3 a1 = i3 a1))) (show (12 : Int32) = i3 12 from rfl)) (by omega) (by omega) (by omega)) ?_
                              refine wz_i0 (i3O (n := 4400) (i3A (i3A (show (200 : Int32) = i3 200 from rfl) (i3M (show (20 : Int32) = i3 20 from rfl) (rfl : i3 a1 = i3 a1))) (show (12 : Int32) = i3 12 from rfl)) (by omega) (by omega) (by omega)) ?_
                              have r59 := zM_f hZ58I 2 0 0 (212 + 20 * a1)
                              have r60 := w3_r ((Z58 2 0 0 (212 + 20 * a1)) + 1)
                              obtain ⟨Z61, hZ61⟩ := zx (zu Z58 2 0 0 (212 + 20 * a1) (w3 ((Z58 2 0 0 (212 + 20 * a1)) + 1)))
                              replace hP := zl_e hP hZ61
                              have hZ61I := zM_u2 hZ58I hZ61 (lo := -2147483648) (hi := 2147483647) (zs_200_12 (x := a1) (by omega) (by omega) (by omega)) (by omega) ⟨by decide, by decide⟩ (by simp only [zsp]; omega)
                              have hZ61U : zU [] Z Z61 := zU_u hZ58U hZ61 (Or.inl rfl)
                              have hZ61K : zC [1, 2, 101, 102, 200] Z Z61 := zC_u hZ58K hZ61 (zcl_2w (by omega) rfl)
                              intro μ9 e9
                              replace e9 := e9.trans (zm_wI (Z := Z58) (ν := ν1) hZ61 (show ((0 : Nat) : Int) = 0 from rfl) (show ((0 : Nat) : Int) = 0 from rfl) (i3I (y := (212 + 20 * a1)) (i3A (i3A (show (200 : Int32) = i3 200 from rfl) (i3M (show (20 : Int32) = i3 20 from rfl) (rfl : i3 a1 = i3 a1))) (show (12 : Int32) = i3 12 from rfl)) (by omega) (by omega) (by omega)) (i3W (i3A (zm_rd (Z := Z58) (ν := ν1) (k := 2) (show ((0 : Nat) : Int) = 0 from rfl) (show ((0 : Nat) : Int) = 0 from rfl) (i3I (y := (212 + 20 * a1)) (i3A (i3A (show (200 : Int32) = i3 200 from rfl) (i3M (show (20 : Int32) = i3 20 from rfl) (rfl : i3 a1 = i3 a1))) (show (12 : Int32) = i3 12 from rfl)) (by omega) (by omega) (by omega))) (show (1 : Int32) = i3 1 from rfl))))
                              subst e9
                              refine wz_i0 (i3O (n := 4400) (i3A (i3A (show (200 : Int32) = i3 200 from rfl) (i3M (show (20 : Int32) = i3 20 from rfl) (rfl : i3 a1 = i3 a1))) (show (13 : Int32) = i3 13 from rfl)) (by omega) (by omega) (by omega)) ?_
                              obtain ⟨Z62, hZ62⟩ := zx (zu Z61 2 0 0 (213 + 20 * a1) v42)
                              replace hP := zl_e hP hZ62
                              have hZ62I := zM_u2 hZ61I hZ62 (lo := -1) (hi := 20) (zs_200_13 (x := a1) (by omega) (by omega) (by omega)) (by omega) ⟨by decide, by decide⟩ (by simp only [zsp]; omega)
                              have hZ62U : zU [] Z Z62 := zU_u hZ61U hZ62 (Or.inl rfl)
                              have hZ62K : zC [1, 2, 101, 102, 200] Z Z62 := zC_u hZ61K hZ62 (zcl_2w (by omega) rfl)
                              intro μ9 e9
                              replace e9 := e9.trans (zm_wI (Z := Z61) (ν := ν1) hZ62 (show ((0 : Nat) : Int) = 0 from rfl) (show ((0 : Nat) : Int) = 0 from rfl) (i3I (y := (213 + 20 * a1)) (i3A (i3A (show (200 : Int32) = i3 200 from rfl) (i3M (show (20 : Int32) = i3 20 from rfl) (rfl : i3 a1 = i3 a1))) (show (13 : Int32) = i3 13 from rfl)) (by omega) (by omega) (by omega)) (rfl : i3 v42 = i3 v42))
                              subst e9
                              have r63 := zM_k hZ62I 2 0 0 3810 (lo := 0) (hi := 99999) (by decide) rfl
                              have r64 := z_mul (x := (Z62 2 0 0 3810)) (y := a2) (a := 99999) (b := 20) (by omega) (by omega) (by omega) (by omega)
                              obtain ⟨Z65, hZ65, c9, hZ65I, kZ65, jZ65⟩ := sp_403 (ν := ν1) hZ62I (a1 := 0) (by omega) (a2 := 6) (by omega) (a3 := ((Z62 2 0 0 3810) * a2)) (by omega) (a4 := a1) (by omega) (zbh (c := 0) (k := 1) hM (Nat.le_of_ble_eq_true rfl))
                              have hZ65U : zU [] Z Z65 := zU_t hZ62U jZ65 zU_b0
                              have hZ65K : zC [1, 2, 101, 102, 200] Z Z65 := zC_t hZ62K kZ65 (by decide)
                              replace hP := zl_e hP hZ65
                              refine wz_cV_of (zas (zcons rfl (zcons (zvi (show (0 : Int32) = i3 0 from rfl)) (zcons (zvi (show (6 : Int32) = i3 6 from rfl)) (zcons (zvi (i3M (zm_rd (Z := Z62) (ν := ν1) (k := 2) (show ((0 : Nat) : Int) = 0 from rfl) (show ((0 : Nat) : Int) = 0 from rfl) (show ((3810 : Nat) : Int) = 3810 from rfl)) (rfl : i3 a2 = i3 a2))) (zcons (zvi (rfl : i3 a1 = i3 a1)) rfl))))) c9) ?_
                              clear c9
                              refine wz_i0 (i3O (n := 4400) (i3A (i3A (show (200 : Int32) = i3 200 from rfl) (i3M (show (20 : Int32) = i3 20 from rfl) (rfl : i3 a1 = i3 a1))) (show (9 : Int32) = i3 9 from rfl)) (by omega) (by omega) (by omega)) ?_
                              have r66 := zM_k hZ65I 2 0 0 (209 + 20 * a1) (lo := -1) (hi := 3) (by decide) (zs_200_9 (x := a1) (by omega) (by omega) (by omega))
                              exact zlY hP (zm_rd (Z := Z65) (ν := ν1) (k := 2) (show ((0 : Nat) : Int) = 0 from rfl) (show ((0 : Nat) : Int) = 0 from rfl) (i3I (y := (209 + 20 * a1)) (i3A (i3A (show (200 : Int32) = i3 200 from rfl) (i3M (show (20 : Int32) = i3 20 from rfl) (rfl : i3 a1 = i3 a1))) (show (9 : Int32) = i3 9 from rfl)) (by omega) (by omega) (by omega))) (.inr rfl) ⟨hZ65I, hZ65K, hZ65U⟩
                            · replace hP := zE_n hP h57
                              refine wz_i0 (i3O (n := 4400) (i3A (i3A (show (200 : Int32) = i3 200 from rfl) (i3M (show (20 : Int32) = i3 20 from rfl) (rfl : i3 a1 = i3 a1))) (show (9 : Int32) = i3 9 from rfl)) (by omega) (by omega) (by omega)) ?_
                              obtain ⟨Z67, hZ67⟩ := zx (zu Z41 2 0 0 (209 + 20 * a1) v56)
                              replace hP := zl_e hP hZ67
                              have hZ67I := zM_u2 hZ41I hZ67 (lo := -1) (hi := 3) (zs_200_9 (x := a1) (by omega) (by omega) (by omega)) (by omega) ⟨by decide, by decide⟩ (by simp only [zsp]; omega)
                              have hZ67U : zU [] Z Z67 := zU_u hZ41U hZ67 (Or.inl rfl)
                              have hZ67K : zC [1, 2, 101, 102, 200] Z Z67 := zC_u hZ41K hZ67 (zcl_2w (by omega) rfl)
                              intro μ9 e9
                              replace e9 := e9.trans (zm_wI (Z := Z41) (ν := ν1) hZ67 (show ((0 : Nat) : Int) = 0 from rfl) (show ((0 : Nat) : Int) = 0 from rfl) (i3I (y := (209 + 20 * a1)) (i3A (i3A (show (200 : Int32) = i3 200 from rfl) (i3M (show (20 : Int32) = i3 20 from rfl) (rfl : i3 a1 = i3 a1))) (show (9 : Int32) = i3 9 from rfl)) (by omega) (by omega) (by omega)) (rfl : i3 v56 = i3 v56))
                              subst e9
                              refine wz_i0 (i3O (n := 4400) (i3A (i3A (show (200 : Int32) = i3 200 from rfl) (i3M (show (20 : Int32) = i3 20 from rfl) (rfl : i3 a1 = i3 a1))) (show (12 : Int32) = i3 12 from rfl)) (by omega) (by omega) (by omega)) ?_
                              refine wz_i0 (i3O (n := 4400) (i3A (i3A (show (200 : Int32) = i3 200 from rfl) (i3M (show (20 : Int32) = i3 20 from rfl) (rfl : i3 a1 = i3 a1))) (show (12 : Int32) = i3 12 from rfl)) (by omega) (by omega) (by omega)) ?_
                              have r68 := zM_f hZ67I 2 0 0 (212 + 20 * a1)
                              have r69 := w3_r ((Z67 2 0 0 (212 + 20 * a1)) + 1)
                              obtain ⟨Z70, hZ70⟩ := zx (zu Z67 2 0 0 (212 + 20 * a1) (w3 ((Z67 2 0 0 (212 + 20 * a1)) + 1)))
                              replace hP := zl_e hP hZ70
                              have hZ70I := zM_u2 hZ67I hZ70 (lo := -2147483648) (hi := 2147483647) (zs_200_12 (x := a1) (by omega) (by omega) (by omega)) (by omega) ⟨by decide, by decide⟩ (by simp only [zsp]; omega)
                              have hZ70U : zU [] Z Z70 := zU_u hZ67U hZ70 (Or.inl rfl)
                              have hZ70K : zC [1, 2, 101, 102, 200] Z Z70 := zC_u hZ67K hZ70 (zcl_2w (by omega) rfl)
                              intro μ9 e9
                              replace e9 := e9.trans (zm_wI (Z := Z67) (ν := ν1) hZ70 (show ((0 : Nat) : Int) = 0 from rfl) (show ((0 : Nat) : Int) = 0 from rfl) (i3I (y := (212 + 20 * a1)) (i3A (i3A (show (200 : Int32) = i3 200 from rfl) (i3M (show (20 : Int32) = i3 20 from rfl) (rfl : i3 a1 = i3 a1))) (show (12 : Int32) = i3 12 from rfl)) (by omega) (by omega) (by omega)) (i3W (i3A (zm_rd (Z := Z67) (ν := ν1) (k := 2) (show ((0 : Nat) : Int) = 0 from rfl) (show ((0 : Nat) : Int) = 0 from rfl) (i3I (y := (212 + 20 * a1)) (i3A (i3A (show (200 : Int32) = i3 200 from rfl) (i3M (show (20 : Int32) = i3 20 from rfl) (rfl : i3 a1 = i3 a1))) (show (12 : Int32) = i3 12 from rfl)) (by omega) (by omega) (by omega))) (show (1 : Int32) = i3 1 from rfl))))
                              subst e9
                              refine wz_i0 (i3O (n := 4400) (i3A (i3A (show (200 : Int32) = i3 200 from rfl) (i3M (show (20 : Int32) = i3 20 from rfl) (rfl : i3 a1 = i3 a1))) (show (13 : Int32) = i3 13 from rfl)) (by omega) (by omega) (by omega)) ?_
                              obtain ⟨Z71, hZ71⟩ := zx (zu Z70 2 0 0 (213 + 20 * a1) v42)
                              replace hP := zl_e hP hZ71
                              have hZ71I := zM_u2 hZ70I hZ71 (lo := -1) (hi := 20) (zs_200_13 (x := a1) (by omega) (by omega) (by omega)) (by omega) ⟨by decide, by decide⟩ (by simp only [zsp]; omega)
                              have hZ71U : zU [] Z Z71 := zU_u hZ70U hZ71 (Or.inl rfl)
                              have hZ71K : zC [1, 2, 101, 102, 200] Z Z71 := zC_u hZ70K hZ71 (zcl_2w (by omega) rfl)
                              intro μ9 e9
                              replace e9 := e9.trans (zm_wI (Z := Z70) (ν := ν1) hZ71 (show ((0 : Nat) : Int) = 0 from rfl) (show ((0 : Nat) : Int) = 0 from rfl) (i3I (y := (213 + 20 * a1)) (i3A (i3A (show (200 : Int32) = i3 200 from rfl) (i3M (show (20 : Int32) = i3 20 from rfl) (rfl : i3 a1 = i3 a1))) (show (13 : Int32) = i3 13 from rfl)) (by omega) (by omega) (by omega)) (rfl : i3 v42 = i3 v42))
                              subst e9
                              have r72 := zM_k hZ71I 2 0 0 3810 (lo := 0) (hi := 99999) (by decide) rfl
                              have r73 := z_mul (x := (Z71 2 0 0 3810)) (y := a2) (a := 99999) (b := 20) (by omega) (by omega) (by omega) (by omega)
                              obtain ⟨Z74, hZ74, c9, hZ74I, kZ74, jZ74⟩ := sp_403 (ν := ν1) hZ71I (a1 := 0) (by omega) (a2 := 6) (by omega) (a3 := ((Z71 2 0 0 3810) * a2)) (by omega) (a4 := a1) (by omega) (zbh (c := 0) (k := 1) hM (Nat.le_of_ble_eq_true rfl))
                              have hZ74U : zU [] Z Z74 := zU_t hZ71U jZ74 zU_b0
                              have hZ74K : zC [1, 2, 101, 102, 200] Z Z74 := zC_t hZ71K kZ74 (by decide)
                              replace hP := zl_e hP hZ74
                              refine wz_cV_of (zas (zcons rfl (zcons (zvi (show (0 : Int32) = i3 0 from rfl)) (zcons (zvi (show (6 : Int32) = i3 6 from rfl)) (zcons (zvi (i3M (zm_rd (Z := Z71) (ν := ν1) (k := 2) (show ((0 : Nat) : Int) = 0 from rfl) (show ((0 : Nat) : Int) = 0 from rfl) (show ((3810 : Nat) : Int) = 3810 from rfl)) (rfl : i3 a2 = i3 a2))) (zcons (zvi (rfl : i3 a1 = i3 a1)) rfl))))) c9) ?_
                              clear c9
                              refine wz_i0 (i3O (n := 4400) (i3A (i3A (show (200 : Int32) = i3 200 from rfl) (i3M (show (20 : Int32) = i3 20 from rfl) (rfl : i3 a1 = i3 a1))) (show (9 : Int32) = i3 9 from rfl)) (by omega) (by omega) (by omega)) ?_
                              have r75 := zM_k hZ74I 2 0 0 (209 + 20 * a1) (lo := -1) (hi := 3) (by decide) (zs_200_9 (x := a1) (by omega) (by omega) (by omega))
                              exact zlY hP (zm_rd (Z := Z74) (ν := ν1) (k := 2) (show ((0 : Nat) : Int) = 0 from rfl) (show ((0 : Nat) : Int) = 0 from rfl) (i3I (y := (209 + 20 * a1)) (i3A (i3A (show (200 : Int32) = i3 200 from rfl) (i3M (show (20 : Int32) = i3 20 from rfl) (rfl : i3 a1 = i3 a1))) (show (9 : Int32) = i3 9 from rfl)) (by omega) (by omega) (by omega))) (.inr rfl) ⟨hZ74I, hZ74K, hZ74U⟩
                        · replace hP := zE_n hP h44
                          obtain ⟨v76, hv76, c9, lv76, uv76⟩ := sp_326 (ν := ν1) hZ41I (a1 := a1) (by omega) (zbh (c := 0) (k := 0) hM (Nat.le_of_ble_eq_true rfl))
                          replace hP := zl_e hP hv76
                          refine wz_cI_of (zas (zcons rfl (zcons (zvi (rfl : i3 a1 = i3 a1)) rfl)) c9) ?_
                          clear c9
                          refine wz_br (i3Le (rfl : i3 v76 = i3 v76) (show (1 : Int32) = i3 1 from rfl) (by omega) (by omega) (by omega) (by omega)) (fun h77 => ?_) (fun h77 => ?_)
                          · replace hP := zE_p hP h77
                            refine wz_i0 (i3O (n := 4400) (i3A (i3A (show (200 : Int32) = i3 200 from rfl) (i3M (show (20 : Int32) = i3 20 from rfl) (rfl : i3 a1 = i3 a1))) (show (9 : Int32) = i3 9 from rfl)) (by omega) (by omega) (by omega)) ?_
                            obtain ⟨Z78, hZ78⟩ := zx (zu Z41 2 0 0 (209 + 20 * a1) 1)
                            replace hP := zl_e hP hZ78
                            have hZ78I := zM_u2 hZ41I hZ78 (lo := -1) (hi := 3) (zs_200_9 (x := a1) (by omega) (by omega) (by omega)) (by omega) ⟨by decide, by decide⟩ (by simp only [zsp]; omega)
                            have hZ78U : zU [] Z Z78 := zU_u hZ41U hZ78 (Or.inl rfl)
                            have hZ78K : zC [1, 2, 101, 102, 200] Z Z78 := zC_u hZ41K hZ78 (zcl_2w (by omega) rfl)
                            intro μ9 e9
                            replace e9 := e9.trans (zm_wI (Z := Z41) (ν := ν1) hZ78 (show ((0 : Nat) : Int) = 0 from rfl) (show ((0 : Nat) : Int) = 0 from rfl) (i3I (y := (209 + 20 * a1)) (i3A (i3A (show (200 : Int32) = i3 200 from rfl) (i3M (show (20 : Int32) = i3 20 from rfl) (rfl : i3 a1 = i3 a1))) (show (9 : Int32) = i3 9 from rfl)) (by omega) (by omega) (by omega)) (show (1 : Int32) = i3 1 from rfl))
                            subst e9
                            refine wz_i0 (i3O (n := 4400) (i3A (i3A (show (200 : Int32) = i3 200 from rfl) (i3M (show (20 : Int32) = i3 20 from rfl) (rfl : i3 a1 = i3 a1))) (show (12 : Int32) = i3 12 from rfl)) (by omega) (by omega) (by omega)) ?_
                            refine wz_i0 (i3O (n := 4400) (i3A (i3A (show (200 : Int32) = i3 200 from rfl) (i3M (show (20 : Int32) = i3 20 from rfl) (rfl : i3 a1 = i3 a1))) (show (12 : Int32) = i3 12 from rfl)) (by omega) (by omega) (by omega)) ?_
                            have r79 := zM_f hZ78I 2 0 0 (212 + 20 * a1)
                            have r80 := w3_r ((Z78 2 0 0 (212 + 20 * a1)) + 1)
                            obtain ⟨Z81, hZ81⟩ := zx (zu Z78 2 0 0 (212 + 20 * a1) (w3 ((Z78 2 0 0 (212 + 20 * a1)) + 1)))
                            replace hP := zl_e hP hZ81
                            have hZ81I := zM_u2 hZ78I hZ81 (lo := -2147483648) (hi := 2147483647) (zs_200_12 (x := a1) (by omega) (by omega) (by omega)) (by omega) ⟨by decide, by decide⟩ (by simp only [zsp]; omega)
                            have hZ81U : zU [] Z Z81 := zU_u hZ78U hZ81 (Or.inl rfl)
                            have hZ81K : zC [1, 2, 101, 102, 200] Z Z81 := zC_u hZ78K hZ81 (zcl_2w (by omega) rfl)
                            intro μ9 e9
                            replace e9 := e9.trans (zm_wI (Z := Z78) (ν := ν1) hZ81 (show ((0 : Nat) : Int) = 0 from rfl) (show ((0 : Nat) : Int) = 0 from rfl) (i3I (y := (212 + 20 * a1)) (i3A (i3A (show (200 : Int32) = i3 200 from rfl) (i3M (show (20 : Int32) = i3 20 from rfl) (rfl : i3 a1 = i3 a1))) (show (12 : Int32) = i3 12 from rfl)) (by omega) (by omega) (by omega)) (i3W (i3A (zm_rd (Z := Z78) (ν := ν1) (k := 2) (show ((0 : Nat) : Int) = 0 from rfl) (show ((0 : Nat) : Int) = 0 from rfl) (i3I (y := (212 + 20 * a1)) (i3A (i3A (show (200 : Int32) = i3 200 from rfl) (i3M (show (20 : Int32) = i3 20 from rfl) (rfl : i3 a1 = i3 a1))) (show (12 : Int32) = i3 12 from rfl)) (by omega) (by omega) (by omega))) (show (1 : Int32) = i3 1 from rfl))))
                            subst e9
                            refine wz_i0 (i3O (n := 4400) (i3A (i3A (show (200 : Int32) = i3 200 from rfl) (i3M (show (20 : Int32) = i3 20 from rfl) (rfl : i3 a1 = i3 a1))) (show (13 : Int32) = i3 13 from rfl)) (by omega) (by omega) (by omega)) ?_
                            obtain ⟨Z82, hZ82⟩ := zx (zu Z81 2 0 0 (213 + 20 * a1) v42)
                            replace hP := zl_e hP hZ82
                            have hZ82I := zM_u2 hZ81I hZ82 (lo := -1) (hi := 20) (zs_200_13 (x := a1) (by omega) (by omega) (by omega)) (by omega) ⟨by decide, by decide⟩ (by simp only [zsp]; omega)
                            have hZ82U : zU [] Z Z82 := zU_u hZ81U hZ82 (Or.inl rfl)
                            have hZ82K : zC [1, 2, 101, 102, 200] Z Z82 := zC_u hZ81K hZ82 (zcl_2w (by omega) rfl)
                            intro μ9 e9
                            replace e9 := e9.trans (zm_wI (Z := Z81) (ν := ν1) hZ82 (show ((0 : Nat) : Int) = 0 from rfl) (show ((0 : Nat) : Int) = 0 from rfl) (i3I (y := (213 + 20 * a1)) (i3A (i3A (show (200 : Int32) = i3 200 from rfl) (i3M (show (20 : Int32) = i3 20 from rfl) (rfl : i3 a1 = i3 a1))) (show (13 : Int32) = i3 13 from rfl)) (by omega) (by omega) (by omega)) (rfl : i3 v42 = i3 v42))
                            subst e9
                            have r83 := zM_k hZ82I 2 0 0 3810 (lo := 0) (hi := 99999) (by decide) rfl
                            have r84 := z_mul (x := (Z82 2 0 0 3810)) (y := a2) (a := 99999) (b := 20) (by omega) (by omega) (by omega) (by omega)
                            obtain ⟨Z85, hZ85, c9, hZ85I, kZ85, jZ85⟩ := sp_403 (ν := ν1) hZ82I (a1 := 0) (by omega) (a2 := 6) (by omega) (a3 := ((Z82 2 0 0 3810) * a2)) (by omega) (a4 := a1) (by omega) (zbh (c := 0) (k := 1) hM (Nat.le_of_ble_eq_true rfl))
                            have hZ85U : zU [] Z Z85 := zU_t hZ82U jZ85 zU_b0
                            have hZ85K : zC [1, 2, 101, 102, 200] Z Z85 := zC_t hZ82K kZ85 (by decide)
                            replace hP := zl_e hP hZ85
                            refine wz_cV_of (zas (zcons rfl (zcons (zvi (show (0 : Int32) = i3 0 from rfl)) (zcons (zvi (show (6 : Int32) = i3 6 from rfl)) (zcons (zvi (i3M (zm_rd (Z := Z82) (ν := ν1) (k := 2) (show ((0 : Nat) : Int) = 0 from rfl) (show ((0 : Nat) : Int) = 0 from rfl) (show ((3810 : Nat) : Int) = 3810 from rfl)) (rfl : i3 a2 = i3 a2))) (zcons (zvi (rfl : i3 a1 = i3 a1)) rfl))))) c9) ?_
                            clear c9
                            refine wz_i0 (i3O (n := 4400) (i3A (i3A (show (200 : Int32) = i3 200 from rfl) (i3M (show (20 : Int32) = i3 20 from rfl) (rfl : i3 a1 = i3 a1))) (show (9 : Int32) = i3 9 from rfl)) (by omega) (by omega) (by omega)) ?_
                            have r86 := zM_k hZ85I 2 0 0 (209 + 20 * a1) (lo := -1) (hi := 3) (by decide) (zs_200_9 (x := a1) (by omega) (by omega) (by omega))
                            exact zlY hP (zm_rd (Z := Z85) (ν := ν1) (k := 2) (show ((0 : Nat) : Int) = 0 from rfl) (show ((0 : Nat) : Int) = 0 from rfl) (i3I (y := (209 + 20 * a1)) (i3A (i3A (show (200 : Int32) = i3 200 from rfl) (i3M (show (20 : Int32) = i3 20 from rfl) (rfl : i3 a1 = i3 a1))) (show (9 : Int32) = i3 9 from rfl)) (by omega) (by omega) (by omega))) (.inr rfl) ⟨hZ85I, hZ85K, hZ85U⟩
                          · replace hP := zE_n hP h77
                            refine wz_i0 (i3O (n := 4400) (i3A (i3A (show (200 : Int32) = i3 200 from rfl) (i3M (show (20 : Int32) = i3 20 from rfl) (rfl : i3 a1 = i3 a1))) (show (9 : Int32) = i3 9 from rfl)) (by omega) (by omega) (by omega)) ?_
                            obtain ⟨Z87, hZ87⟩ := zx (zu Z41 2 0 0 (209 + 20 * a1) v76)
                            replace hP := zl_e hP hZ87
                            have hZ87I := zM_u2 hZ41I hZ87 (lo := -1) (hi := 3) (zs_200_9 (x := a1) (by omega) (by omega) (by omega)) (by omega) ⟨by decide, by decide⟩ (by simp only [zsp]; omega)
                            have hZ87U : zU [] Z Z87 := zU_u hZ41U hZ87 (Or.inl rfl)
                            have hZ87K : zC [1, 2, 101, 102, 200] Z Z87 := zC_u hZ41K hZ87 (zcl_2w (by omega) rfl)
                            intro μ9 e9
                            replace e9 := e9.trans (zm_wI (Z := Z41) (ν := ν1) hZ87 (show ((0 : Nat) : Int) = 0 from rfl) (show ((0 : Nat) : Int) = 0 from rfl) (i3I (y := (209 + 20 * a1)) (i3A (i3A (show (200 : Int32) = i3 200 from rfl) (i3M (show (20 : Int32) = i3 20 from rfl) (rfl : i3 a1 = i3 a1))) (show (9 : Int32) = i3 9 from rfl)) (by omega) (by omega) (by omega)) (rfl : i3 v76 = i3 v76))
                            subst e9
                            refine wz_i0 (i3O (n := 4400) (i3A (i3A (show (200 : Int32) = i3 200 from rfl) (i3M (show (20 : Int32) = i3 20 from rfl) (rfl : i3 a1 = i3 a1))) (show (12 : Int32) = i3 12 from rfl)) (by omega) (by omega) (by omega)) ?_
                            refine wz_i0 (i3O (n := 4400) (i3A (i3A (show (200 : Int32) = i3 200 from rfl) (i3M (show (20 : Int32) = i3 20 from rfl) (rfl : i3 a1 = i3 a1))) (show (12 : Int32) = i3 12 from rfl)) (by omega) (by omega) (by omega)) ?_
                            have r88 := zM_f hZ87I 2 0 0 (212 + 20 * a1)
                            have r89 := w3_r ((Z87 2 0 0 (212 + 20 * a1)) + 1)
                            obtain ⟨Z90, hZ90⟩ := zx (zu Z87 2 0 0 (212 + 20 * a1) (w3 ((Z87 2 0 0 (212 + 20 * a1)) + 1)))
                            replace hP := zl_e hP hZ90
                            have hZ90I := zM_u2 hZ87I hZ90 (lo := -2147483648) (hi := 2147483647) (zs_200_12 (x := a1) (by omega) (by omega) (by omega)) (by omega) ⟨by decide, by decide⟩ (by simp only [zsp]; omega)
                            have hZ90U : zU [] Z Z90 := zU_u hZ87U hZ90 (Or.inl rfl)
                            have hZ90K : zC [1, 2, 101, 102, 200] Z Z90 := zC_u hZ87K hZ90 (zcl_2w (by omega) rfl)
                            intro μ9 e9
                            replace e9 := e9.trans (zm_wI (Z := Z87) (ν := ν1) hZ90 (show ((0 : Nat) : Int) = 0 from rfl) (show ((0 : Nat) : Int) = 0 from rfl) (i3I (y := (212 + 20 * a1)) (i3A (i3A (show (200 : Int32) = i3 200 from rfl) (i3M (show (20 : Int32) = i3 20 from rfl) (rfl : i3 a1 = i3 a1))) (show (12 : Int32) = i3 12 from rfl)) (by omega) (by omega) (by omega)) (i3W (i3A (zm_rd (Z := Z87) (ν := ν1) (k := 2) (show ((0 : Nat) : Int) = 0 from rfl) (show ((0 : Nat) : Int) = 0 from rfl) (i3I (y := (212 + 20 * a1)) (i3A (i3A (show (200 : Int32) = i3 200 from rfl) (i3M (show (20 : Int32) = i3 20 from rfl) (rfl : i3 a1 = i3 a1))) (show (12 : Int32) = i3 12 from rfl)) (by omega) (by omega) (by omega))) (show (1 : Int32) = i3 1 from rfl))))
                            subst e9
                            refine wz_i0 (i3O (n := 4400) (i3A (i3A (show (200 : Int32) = i3 200 from rfl) (i3M (show (20 : Int32) = i3 20 from rfl) (rfl : i3 a1 = i3 a1))) (show (13 : Int32) = i3 13 from rfl)) (by omega) (by omega) (by omega)) ?_
                            obtain ⟨Z91, hZ91⟩ := zx (zu Z90 2 0 0 (213 + 20 * a1) v42)
                            replace hP := zl_e hP hZ91
                            have hZ91I := zM_u2 hZ90I hZ91 (lo := -1) (hi := 20) (zs_200_13 (x := a1) (by omega) (by omega) (by omega)) (by omega) ⟨by decide, by decide⟩ (by simp only [zsp]; omega)
                            have hZ91U : zU [] Z Z91 := zU_u hZ90U hZ91 (Or.inl rfl)
                            have hZ91K : zC [1, 2, 101, 102, 200] Z Z91 := zC_u hZ90K hZ91 (zcl_2w (by omega) rfl)
                            intro μ9 e9
                            replace e9 := e9.trans (zm_wI (Z := Z90) (ν := ν1) hZ91 (show ((0 : Nat) : Int) = 0 from rfl) (show ((0 : Nat) : Int) = 0 from rfl) (i3I (y := (213 + 20 * a1)) (i3A (i3A (show (200 : Int32) = i3 200 from rfl) (i3M (show (20 : Int32) = i3 20 from rfl) (rfl : i3 a1 = i3 a1))) (show (13 : Int32) = i3 13 from rfl)) (by omega) (by omega) (by omega)) (rfl : i3 v42 = i3 v42))
                            subst e9
                            have r92 := zM_k hZ91I 2 0 0 3810 (lo := 0) (hi := 99999) (by decide) rfl
                            have r93 := z_mul (x := (Z91 2 0 0 3810)) (y := a2) (a := 99999) (b := 20) (by omega) (by omega) (by omega) (by omega)
                            obtain ⟨Z94, hZ94, c9, hZ94I, kZ94, jZ94⟩ := sp_403 (ν := ν1) hZ91I (a1 := 0) (by omega) (a2 := 6) (by omega) (a3 := ((Z91 2 0 0 3810) * a2)) (by omega) (a4 := a1) (by omega) (zbh (c := 0) (k := 1) hM (Nat.le_of_ble_eq_true rfl))
                            have hZ94U : zU [] Z Z94 := zU_t hZ91U jZ94 zU_b0
                            have hZ94K : zC [1, 2, 101, 102, 200] Z Z94 := zC_t hZ91K kZ94 (by decide)
                            replace hP := zl_e hP hZ94
                            refine wz_cV_of (zas (zcons rfl (zcons (zvi (show (0 : Int32) = i3 0 from rfl)) (zcons (zvi (show (6 : Int32) = i3 6 from rfl)) (zcons (zvi (i3M (zm_rd (Z := Z91) (ν := ν1) (k := 2) (show ((0 : Nat) : Int) = 0 from rfl) (show ((0 : Nat) : Int) = 0 from rfl) (show ((3810 : Nat) : Int) = 3810 from rfl)) (rfl : i3 a2 = i3 a2))) (zcons (zvi (rfl : i3 a1 = i3 a1)) rfl))))) c9) ?_
                            clear c9
                            refine wz_i0 (i3O (n := 4400) (i3A (i3A (show (200 : Int32) = i3 200 from rfl) (i3M (show (20 : Int32) = i3 20 from rfl) (rfl : i3 a1 = i3 a1))) (show (9 : Int32) = i3 9 from rfl)) (by omega) (by omega) (by omega)) ?_
                            have r95 := zM_k hZ94I 2 0 0 (209 + 20 * a1) (lo := -1) (hi := 3) (by decide) (zs_200_9 (x := a1) (by omega) (by omega) (by omega))
                            exact zlY hP (zm_rd (Z := Z94) (ν := ν1) (k := 2) (show ((0 : Nat) : Int) = 0 from rfl) (show ((0 : Nat) : Int) = 0 from rfl) (i3I (y := (209 + 20 * a1)) (i3A (i3A (show (200 : Int32) = i3 200 from rfl) (i3M (show (20 : Int32) = i3 20 from rfl) (rfl : i3 a1 = i3 a1))) (show (9 : Int32) = i3 9 from rfl)) (by omega) (by omega) (by omega))) (.inr rfl) ⟨hZ94I, hZ94K, hZ94U⟩
                      · replace hP := zE_n hP h43
                        obtain ⟨v96, hv96, c9, lv96, uv96⟩ := sp_326 (ν := ν1) hZ41I (a1 := a1) (by omega) (zbh (c := 0) (k := 0) hM (Nat.le_of_ble_eq_true rfl))
                        replace hP := zl_e hP hv96
                        refine wz_cI_of (zas (zcons rfl (zcons (zvi (rfl : i3 a1 = i3 a1)) rfl)) c9) ?_
                        clear c9
                        refine wz_br (i3Le (rfl : i3 v96 = i3 v96) (show (0 : Int32) = i3 0 from rfl) (by omega) (by omega) (by omega) (by omega)) (fun h97 => ?_) (fun h97 => ?_)
                        · replace hP := zE_p hP h97
                          refine wz_i0 (i3O (n := 4400) (i3A (i3A (show (200 : Int32) = i3 200 from rfl) (i3M (show (20 : Int32) = i3 20 from rfl) (rfl : i3 a1 = i3 a1))) (show (9 : Int32) = i3 9 from rfl)) (by omega) (by omega) (by omega)) ?_
                          obtain ⟨Z98, hZ98⟩ := zx (zu Z41 2 0 0 (209 + 20 * a1) 0)
                          replace hP := zl_e hP hZ98
                          have hZ98I := zM_02 hZ41I hZ98 (by simp only [zsp]; omega)
                          have hZ98U : zU [] Z Z98 := zU_u hZ41U hZ98 (Or.inl rfl)
                          have hZ98K : zC [1, 2, 101, 102, 200] Z Z98 := zC_u hZ41K hZ98 (zcl_2w (by omega) rfl)
                          intro μ9 e9
                          replace e9 := e9.trans (zm_wI (Z := Z41) (ν := ν1) hZ98 (show ((0 : Nat) : Int) = 0 from rfl) (show ((0 : Nat) : Int) = 0 from rfl) (i3I (y := (209 + 20 * a1)) (i3A (i3A (show (200 : Int32) = i3 200 from rfl) (i3M (show (20 : Int32) = i3 20 from rfl) (rfl : i3 a1 = i3 a1))) (show (9 : Int32) = i3 9 from rfl)) (by omega) (by omega) (by omega)) (show (0 : Int32) = i3 0 from rfl))
                          subst e9
                          refine wz_i0 (i3O (n := 4400) (i3A (i3A (show (200 : Int32) = i3 200 from rfl) (i3M (show (20 : Int32) = i3 20 from rfl) (rfl : i3 a1 = i3 a1))) (show (12 : Int32) = i3 12 from rfl)) (by omega) (by omega) (by omega)) ?_
                          refine wz_i0 (i3O (n := 4400) (i3A (i3A (show (200 : Int32) = i3 200 from rfl) (i3M (show (20 : Int32) = i3 20 from rfl) (rfl : i3 a1 = i3 a1))) (show (12 : Int32) = i3 12 from rfl)) (by omega) (by omega) (by omega)) ?_
                          have r99 := zM_f hZ98I 2 0 0 (212 + 20 * a1)
                          have r100 := w3_r ((Z98 2 0 0 (212 + 20 * a1)) + 1)
                          obtain ⟨Z101, hZ101⟩ := zx (zu Z98 2 0 0 (212 + 20 * a1) (w3 ((Z98 2 0 0 (212 + 20 * a1)) + 1)))
                          replace hP := zl_e hP hZ101
                          have hZ101I := zM_u2 hZ98I hZ101 (lo := -2147483648) (hi := 2147483647) (zs_200_12 (x := a1) (by omega) (by omega) (by omega)) (by omega) ⟨by decide, by decide⟩ (by simp only [zsp]; omega)
                          have hZ101U : zU [] Z Z101 := zU_u hZ98U hZ101 (Or.inl rfl)
                          have hZ101K : zC [1, 2, 101, 102, 200] Z Z101 := zC_u hZ98K hZ101 (zcl_2w (by omega) rfl)
                          intro μ9 e9
                          replace e9 := e9.trans (zm_wI (Z := Z98) (ν := ν1) hZ101 (show ((0 : Nat) : Int) = 0 from rfl) (show ((0 : Nat) : Int) = 0 from rfl) (i3I (y := (212 + 20 * a1)) (i3A (i3A (show (200 : Int32) = i3 200 from rfl) (i3M (show (20 : Int32) = i3 20 from rfl) (rfl : i3 a1 = i3 a1))) (show (12 : Int32) = i3 12 from rfl)) (by omega) (by omega) (by omega)) (i3W (i3A (zm_rd (Z := Z98) (ν := ν1) (k := 2) (show ((0 : Nat) : Int) = 0 from rfl) (show ((0 : Nat) : Int) = 0 from rfl) (i3I (y := (212 + 20 * a1)) (i3A (i3A (show (200 : Int32) = i3 200 from rfl) (i3M (show (20 : Int32) = i3 20 from rfl) (rfl : i3 a1 = i3 a1))) (show (12 : Int32) = i3 12 from rfl)) (by omega) (by omega) (by omega))) (show (1 : Int32) = i3 1 from rfl))))
                          subst e9
                          refine wz_i0 (i3O (n := 4400) (i3A (i3A (show (200 : Int32) = i3 200 from rfl) (i3M (show (20 : Int32) = i3 20 from rfl) (rfl : i3 a1 = i3 a1))) (show (13 : Int32) = i3 13 from rfl)) (by omega) (by omega) (by omega)) ?_
                          obtain ⟨Z102, hZ102⟩ := zx (zu Z101 2 0 0 (213 + 20 * a1) v42)
                          replace hP := zl_e hP hZ102
                          have hZ102I := zM_u2 hZ101I hZ102 (lo := -1) (hi := 20) (zs_200_13 (x := a1) (by omega) (by omega) (by omega)) (by omega) ⟨by decide, by decide⟩ (by simp only [zsp]; omega)
                          have hZ102U : zU [] Z Z102 := zU_u hZ101U hZ102 (Or.inl rfl)
                          have hZ102K : zC [1, 2, 101, 102, 200] Z Z102 := zC_u hZ101K hZ102 (zcl_2w (by omega) rfl)
                          intro μ9 e9
                          replace e9 := e9.trans (zm_wI (Z := Z101) (ν := ν1) hZ102 (show ((0 : Nat) : Int) = 0 from rfl) (show ((0 : Nat) : Int) = 0 from rfl) (i3I (y := (213 + 20 * a1)) (i3A (i3A (show (200 : Int32) = i3 200 from rfl) (i3M (show (20 : Int32) = i3 20 from rfl) (rfl : i3 a1 = i3 a1))) (show (13 : Int32) = i3 13 from rfl)) (by omega) (by omega) (by omega)) (rfl : i3 v42 = i3 v42))
                          subst e9
                          have r103 := zM_k hZ102I 2 0 0 3810 (lo := 0) (hi := 99999) (by decide) rfl
                          have r104 := z_mul (x := (Z102 2 0 0 3810)) (y := a2) (a := 99999) (b := 20) (by omega) (by omega) (by omega) (by omega)
                          obtain ⟨Z105, hZ105, c9, hZ105I, kZ105, jZ105⟩ := sp_403 (ν := ν1) hZ102I (a1 := 0) (by omega) (a2 := 6) (by omega) (a3 := ((Z102 2 0 0 3810) * a2)) (by omega) (a4 := a1) (by omega) (zbh (c := 0) (k := 1) hM (Nat.le_of_ble_eq_true rfl))
                          have hZ105U : zU [] Z Z105 := zU_t hZ102U jZ105 zU_b0
                          have hZ105K : zC [1, 2, 101, 102, 200] Z Z105 := zC_t hZ102K kZ105 (by decide)
                          replace hP := zl_e hP hZ105
                          refine wz_cV_of (zas (zcons rfl (zcons (zvi (show (0 : Int32) = i3 0 from rfl)) (zcons (zvi (show (6 : Int32) = i3 6 from rfl)) (zcons (zvi (i3M (zm_rd (Z := Z102) (ν := ν1) (k := 2) (show ((0 : Nat) : Int) = 0 from rfl) (show ((0 : Nat) : Int) = 0 from rfl) (show ((3810 : Nat) : Int) = 3810 from rfl)) (rfl : i3 a2 = i3 a2))) (zcons (zvi (rfl : i3 a1 = i3 a1)) rfl))))) c9) ?_
                          clear c9
                          refine wz_i0 (i3O (n := 4400) (i3A (i3A (show (200 : Int32) = i3 200 from rfl) (i3M (show (20 : Int32) = i3 20 from rfl) (rfl : i3 a1 = i3 a1))) (show (9 : Int32) = i3 9 from rfl)) (by omega) (by omega) (by omega)) ?_
                          have r106 := zM_k hZ105I 2 0 0 (209 + 20 * a1) (lo := -1) (hi := 3) (by decide) (zs_200_9 (x := a1) (by omega) (by omega) (by omega))
                          exact zlY hP (zm_rd (Z := Z105) (ν := ν1) (k := 2) (show ((0 : Nat) : Int) = 0 from rfl) (show ((0 : Nat) : Int) = 0 from rfl) (i3I (y := (209 + 20 * a1)) (i3A (i3A (show (200 : Int32) = i3 200 from rfl) (i3M (show (20 : Int32) = i3 20 from rfl) (rfl : i3 a1 = i3 a1))) (show (9 : Int32) = i3 9 from rfl)) (by omega) (by omega) (by omega))) (.inr rfl) ⟨hZ105I, hZ105K, hZ105U⟩
                        · replace hP := zE_n hP h97
                          refine wz_i0 (i3O (n := 4400) (i3A (i3A (show (200 : Int32) = i3 200 from rfl) (i3M (show (20 : Int32) = i3 20 from rfl) (rfl : i3 a1 = i3 a1))) (show (9 : Int32) = i3 9 from rfl)) (by omega) (by omega) (by omega)) ?_
                          obtain ⟨Z107, hZ107⟩ := zx (zu Z41 2 0 0 (209 + 20 * a1) v96)
                          replace hP := zl_e hP hZ107
                          have hZ107I := zM_u2 hZ41I hZ107 (lo := -1) (hi := 3) (zs_200_9 (x := a1) (by omega) (by omega) (by omega)) (by omega) ⟨by decide, by decide⟩ (by simp only [zsp]; omega)
                          have hZ107U : zU [] Z Z107 := zU_u hZ41U hZ107 (Or.inl rfl)
                          have hZ107K : zC [1, 2, 101, 102, 200] Z Z107 := zC_u hZ41K hZ107 (zcl_2w (by omega) rfl)
                          intro μ9 e9
                          replace e9 := e9.trans (zm_wI (Z := Z41) (ν := ν1) hZ107 (show ((0 : Nat) : Int) = 0 from rfl) (show ((0 : Nat) : Int) = 0 from rfl) (i3I (y := (209 + 20 * a1)) (i3A (i3A (show (200 : Int32) = i3 200 from rfl) (i3M (show (20 : Int32) = i3 20 from rfl) (rfl : i3 a1 = i3 a1))) (show (9 : Int32) = i3 9 from rfl)) (by omega) (by omega) (by omega)) (rfl : i3 v96 = i3 v96))
                          subst e9
                          refine wz_i0 (i3O (n := 4400) (i3A (i3A (show (200 : Int32) = i3 200 from rfl) (i3M (show (20 : Int32) = i3 20 from rfl) (rfl : i3 a1 = i3 a1))) (show (12 : Int32) = i3 12 from rfl)) (by omega) (by omega) (by omega)) ?_
                          refine wz_i0 (i3O (n := 4400) (i3A (i3A (show (200 : Int32) = i3 200 from rfl) (i3M (show (20 : Int32) = i3 20 from rfl) (rfl : i3 a1 = i3 a1))) (show (12 : Int32) = i3 12 from rfl)) (by omega) (by omega) (by omega)) ?_
                          have r108 := zM_f hZ107I 2 0 0 (212 + 20 * a1)
                          have r109 := w3_r ((Z107 2 0 0 (212 + 20 * a1)) + 1)
                          obtain ⟨Z110, hZ110⟩ := zx (zu Z107 2 0 0 (212 + 20 * a1) (w3 ((Z107 2 0 0 (212 + 20 * a1)) + 1)))
                          replace hP := zl_e hP hZ110
                          have hZ110I := zM_u2 hZ107I hZ110 (lo := -2147483648) (hi := 2147483647) (zs_200_12 (x := a1) (by omega) (by omega) (by omega)) (by omega) ⟨by decide, by decide⟩ (by simp only [zsp]; omega)
                          have hZ110U : zU [] Z Z110 := zU_u hZ107U hZ110 (Or.inl rfl)
                          have hZ110K : zC [1, 2, 101, 102, 200] Z Z110 := zC_u hZ107K hZ110 (zcl_2w (by omega) rfl)
                          intro μ9 e9
                          replace e9 := e9.trans (zm_wI (Z := Z107) (ν := ν1) hZ110 (show ((0 : Nat) : Int) = 0 from rfl) (show ((0 : Nat) : Int) = 0 from rfl) (i3I (y := (212 + 20 * a1)) (i3A (i3A (show (200 : Int32) = i3 200 from rfl) (i3M (show (20 : Int32) = i3 20 from rfl) (rfl : i3 a1 = i3 a1))) (show (12 : Int32) = i3 12 from rfl)) (by omega) (by omega) (by omega)) (i3W (i3A (zm_rd (Z := Z107) (ν := ν1) (k := 2) (show ((0 : Nat) : Int) = 0 from rfl) (show ((0 : Nat) : Int) = 0 from rfl) (i3I (y := (212 + 20 * a1)) (i3A (i3A (show (200 : Int32) = i3 200 from rfl) (i3M (show (20 : Int32) = i3 20 from rfl) (rfl : i3 a1 = i3 a1))) (show (12 : Int32) = i3 12 from rfl)) (by omega) (by omega) (by omega))) (show (1 : Int32) = i3 1 from rfl))))
                          subst e9
                          refine wz_i0 (i3O (n := 4400) (i3A (i3A (show (200 : Int32) = i3 200 from rfl) (i3M (show (20 : Int32) = i3 20 from rfl) (rfl : i3 a1 = i3 a1))) (show (13 : Int32) = i3 13 from rfl)) (by omega) (by omega) (by omega)) ?_
                          obtain ⟨Z111, hZ111⟩ := zx (zu Z110 2 0 0 (213 + 20 * a1) v42)
                          replace hP := zl_e hP hZ111
                          have hZ111I := zM_u2 hZ110I hZ111 (lo := -1) (hi := 20) (zs_200_13 (x := a1) (by omega) (by omega) (by omega)) (by omega) ⟨by decide, by decide⟩ (by simp only [zsp]; omega)
                          have hZ111U : zU [] Z Z111 := zU_u hZ110U hZ111 (Or.inl rfl)
                          have hZ111K : zC [1, 2, 101, 102, 200] Z Z111 := zC_u hZ110K hZ111 (zcl_2w (by omega) rfl)
                          intro μ9 e9
                          replace e9 := e9.trans (zm_wI (Z := Z110) (ν := ν1) hZ111 (show ((0 : Nat) : Int) = 0 from rfl) (show ((0 : Nat) : Int) = 0 from rfl) (i3I (y := (213 + 20 * a1)) (i3A (i3A (show (200 : Int32) = i3 200 from rfl) (i3M (show (20 : Int32) = i3 20 from rfl) (rfl : i3 a1 = i3 a1))) (show (13 : Int32) = i3 13 from rfl)) (by omega) (by omega) (by omega)) (rfl : i3 v42 = i3 v42))
                          subst e9
                          have r112 := zM_k hZ111I 2 0 0 3810 (lo := 0) (hi := 99999) (by decide) rfl
                          have r113 := z_mul (x := (Z111 2 0 0 3810)) (y := a2) (a := 99999) (b := 20) (by omega) (by omega) (by omega) (by omega)
                          obtain ⟨Z114, hZ114, c9, hZ114I, kZ114, jZ114⟩ := sp_403 (ν := ν1) hZ111I (a1 := 0) (by omega) (a2 := 6) (by omega) (a3 := ((Z111 2 0 0 3810) * a2)) (by omega) (a4 := a1) (by omega) (zbh (c := 0) (k := 1) hM (Nat.le_of_ble_eq_true rfl))
                          have hZ114U : zU [] Z Z114 := zU_t hZ111U jZ114 zU_b0
                          have hZ114K : zC [1, 2, 101, 102, 200] Z Z114 := zC_t hZ111K kZ114 (by decide)
                          replace hP := zl_e hP hZ114
                          refine wz_cV_of (zas (zcons rfl (zcons (zvi (show (0 : Int32) = i3 0 from rfl)) (zcons (zvi (show (6 : Int32) = i3 6 from rfl)) (zcons (zvi (i3M (zm_rd (Z := Z111) (ν := ν1) (k := 2) (show ((0 : Nat) : Int) = 0 from rfl) (show ((0 : Nat) : Int) = 0 from rfl) (show ((3810 : Nat) : Int) = 3810 from rfl)) (rfl : i3 a2 = i3 a2))) (zcons (zvi (rfl : i3 a1 = i3 a1)) rfl))))) c9) ?_
                          clear c9
                          refine wz_i0 (i3O (n := 4400) (i3A (i3A (show (200 : Int32) = i3 200 from rfl) (i3M (show (20 : Int32) = i3 20 from rfl) (rfl : i3 a1 = i3 a1))) (show (9 : Int32) = i3 9 from rfl)) (by omega) (by omega) (by omega)) ?_
                          have r115 := zM_k hZ114I 2 0 0 (209 + 20 * a1) (lo := -1) (hi := 3) (by decide) (zs_200_9 (x := a1) (by omega) (by omega) (by omega))
                          exact zlY hP (zm_rd (Z := Z114) (ν := ν1) (k := 2) (show ((0 : Nat) : Int) = 0 from rfl) (show ((0 : Nat) : Int) = 0 from rfl) (i3I (y := (209 + 20 * a1)) (i3A (i3A (show (200 : Int32) = i3 200 from rfl) (i3M (show (20 : Int32) = i3 20 from rfl) (rfl : i3 a1 = i3 a1))) (show (9 : Int32) = i3 9 from rfl)) (by omega) (by omega) (by omega))) (.inr rfl) ⟨hZ114I, hZ114K, hZ114U⟩
/- yX12_grower -/
def zy_347 (Z : qz_Z) (dm : qz_Z → Int → Int → Int → Int → Int → Int → Int → qz_Z) (a1 : Int) (a2 : Int) : qz_Z × Int := (if a1 < 0 then (zlet (zu Z 1 0 0 2 1) (fun Z5 => (Z5, 0))) else (if 25 < a1 then (zlet (zu Z 1 0 0 2 1) (fun Z7 => (Z7, 0))) else (if a2 < 0 then (zlet (zu Z 1 0 0 2 1) (fun Z9 => (Z9, 0))) else (if 9 < a2 then (zlet (zu Z 1 0 0 2 1) (fun Z11 => (Z11, 0))) else (zlet (zu Z 1 0 0 2 0) (fun Z12 => (if 6 ≤ (Z12 2 0 0 101) then (zlet (zu Z12 1 0 0 2 2) (fun Z15 => (Z15, 0))) else (zlet (zu Z12 1 0 0 2 0) (fun Z16 => (zlet (dm Z16 2 a1 a2 0 0 0 0) (fun Z23 => (zlet (zu Z23 2 0 0 (140 + 2 * (Z23 2 0 0 101)) a1) (fun Z26 => (zlet (zu Z26 2 0 0 (141 + 2 * (Z23 2 0 0 101)) a2) (fun Z27 => (zlet (zu Z27 2 0 0 101 ((Z27 2 0 0 101) + 1)) (fun Z29 => (Z29, (Z23 2 0 0 101)))))))))))))))))))
theorem sy_347 {s : zSM} {Z : qz_Z} {ν : qz_N} (hZ : zM s Z) (gq : Z 1 0 0 35 = 0) (hM : s.2 + 0 ≤ 1000000000) {a1 : Int} (ga1 : -2147483648 ≤ a1 ∧ a1 ≤ 2147483647) {a2 : Int} (ga2 : -2147483648 ≤ a2 ∧ a2 ≤ 2147483647) {dk : qz_Z → qz_Z} {dm : qz_Z → Int → Int → Int → Int → Int → Int → Int → qz_Z} {ν1 : qz_N} (hdm : zDm s ν ν1 Z dk dm) : ∃ (Z1 : qz_Z) (ν2 : qz_N) (v : Int), (Z1, v) = zy_347 Z dm a1 a2 ∧ (ν2 = ν ∨ ν2 = ν1) ∧ qf_347 [.inr (.inr (some (1, 0, 0))), .inl (i3 a1), .inl (i3 a2)] (zm Z ν) = some (zm Z1 ν2, .inl (some (.inl (i3 v)))) ∧ (fun Z1 => zM s Z1 ∧ zC [1, 2, 101, 102, 200] Z Z1 ∧ zU [] Z Z1) Z1 := by sorry
/- yX12_dSoldOf -/
def zl_329_1 (x1 : Int) : Nat → qz_Z → Int → Int → Int × Int
  | 0, Z, x2, x3 => (x2, x3)
  | m + 1, Z, x2, x3 => (if (Z 2 0 0 2000) ≤ x3 then (x2, x3) else (if (Z 2 0 0 (2010 + 16 * x3)) ≠ x1 then zl_329_1 x1 m Z (x2 + 0) (x3 + 1) else zl_329_1 x1 m Z (w3 (x2 + (Z 2 0 0 (2013 + 16 * x3)))) (x3 + 1)))
theorem sl_329_1 {s : zSM} {Z : qz_Z} {ν : qz_N} (hZ : zM s Z) (hM : s.2 + 0 ≤ 1000000000) {x1 : Int} (gx1 : 0 ≤ x1 ∧ x1 ≤ 47) {x2 : Int} (gx2 : -2147483648 ≤ x2 ∧ x2 ≤ 2147483647) {x3 : Int} (gx3 : 0 ≤ x3 ∧ x3 ≤ 60) {k : wz_K} {R : wz_R} {L : qz_L} (hL : qz_fg [true, true, true, true] L = [some (.inr (.inr (some (1, 0, 0)))), some (.inl (i3 x1)), some (.inl (i3 x2)), some (.inl (i3 x3))]) {T : Int × Int} (hP : zE T (zl_329_1 x1 ((60 - x3).toNat + 1) Z x2 x3)) (hk : ∀ (L9 : qz_L) (yx2 yx3 : Int), qz_fg [false, false, true, false] L9 = [none, none, some (.inl (i3 yx2)), none] → (-2147483648 ≤ yx2 ∧ yx2 ≤ 2147483647) → (0 ≤ yx3 ∧ yx3 ≤ 60) → zE T ((yx2, yx3)) → k 0 (L9, [], zm Z ν)) : wz_loop qb_329_1 65536 k R (L, [], zm Z ν) := by
  refine wz_lp sb_329_1 (fun m x => ∃ x2 : Int, ∃ x3 : Int, qz_fg [true, true, true, true] x.1 = [some (.inr (.inr (some (1, 0, 0)))), some (.inl (i3 x1)), some (.inl (i3 x2)), some (.inl (i3 x3))] ∧ x.2 = ([], zm Z ν) ∧ m = (60 - x3).toNat ∧ (-2147483648 ≤ x2 ∧ x2 ≤ 2147483647) ∧ (0 ≤ x3 ∧ x3 ≤ 60) ∧ zE T (zl_329_1 x1 (m + 1) Z x2 x3)) ?_ 65536 ((60 - x3).toNat) _ (by omega) ⟨x2, x3, hL, rfl, rfl, gx2, gx3, hP⟩
  clear hP gx2 gx3 hL
  clear x2 x3
  rintro m ⟨L, st, μ⟩ ⟨x2, x3, hL, hx, hm, gx2, gx3, hP⟩
  cases hx
  refine fb_329_1 (i3 x1) (i3 x2) (i3 x3) _ _ _ _ hL ?_
  have r1 := zM_k hZ 2 0 0 2000 (lo := 0) (hi := 60) (by decide) rfl
  refine wz_br (i3Le (zm_rd (Z := Z) (ν := ν) (k := 2) (show ((0 : Nat) : Int) = 0 from rfl) (show ((0 : Nat) : Int) = 0 from rfl) (show ((2000 : Nat) : Int) = 2000 from rfl)) (rfl : i3 x3 = i3 x3) (by omega) (by omega) (by omega) (by omega)) (fun h2 => ?_) (fun h2 => ?_)
  · replace hP := zE_p hP h2
    exact hk _ _ _ (zconso rfl (zconso rfl (zconso (zvo (rfl : i3 x2 = i3 x2)) (zconso rfl rfl))))  (by omega) (by omega)  hP
  · replace hP := zE_n hP h2
    refine wz_i0 (i3O (n := 4400) (i3A (i3A (show (2010 : Int32) = i3 2010 from rfl) (i3M (show (16 : Int32) = i3 16 from rfl) (rfl : i3 x3 = i3 x3))) (show (0 : Int32) = i3 0 from rfl)) (by omega) (by omega) (by omega)) ?_
    have r3 := zM_k hZ 2 0 0 (2010 + 16 * x3) (lo := 0) (hi := 47) (by decide) (zs_2010_0 (x := x3) (by omega) (by omega) (by omega))
    refine wz_br (i3NE (zm_rd (Z := Z) (ν := ν) (k := 2) (show ((0 : Nat) : Int) = 0 from rfl) (show ((0 : Nat) : Int) = 0 from rfl) (i3I (y := (2010 + 16 * x3)) (i3A (i3A (show (2010 : Int32) = i3 2010 from rfl) (i3M (show (16 : Int32) = i3 16 from rfl) (rfl : i3 x3 = i3 x3))) (show (0 : Int32) = i3 0 from rfl)) (by omega) (by omega) (by omega))) (rfl : i3 x1 = i3 x1) (by omega) (by omega) (by omega) (by omega)) (fun h4 => ?_) (fun h4 => ?_)
    · replace hP := zE_p hP h4
      obtain ⟨m2, rfl⟩ : ∃ m2, m = m2 + 1 := ⟨m - 1, by omega⟩
      exact wz_k1 ⟨m2, by omega, (x2 + 0), (x3 + 1), (zconso rfl (zconso (zvo (rfl : i3 x1 = i3 x1)) (zconso (zvo (i3A (rfl : i3 x2 = i3 x2) (show (0 : Int32) = i3 0 from rfl))) (zconso (zvo (i3A (rfl : i3 x3 = i3 x3) (show (1 : Int32) = i3 1 from rfl))) rfl)))), rfl,  by omega, by omega, by omega,  hP⟩
    · replace hP := zE_n hP h4
      refine wz_i0 (i3O (n := 4400) (i3A (i3A (show (2010 : Int32) = i3 2010 from rfl) (i3M (show (16 : Int32) = i3 16 from rfl) (rfl : i3 x3 = i3 x3))) (show (3 : Int32) = i3 3 from rfl)) (by omega) (by omega) (by omega)) ?_
      have r5 := zM_k hZ 2 0 0 (2013 + 16 * x3) (lo := 0) (hi := 40) (by decide) (zs_2010_3 (x := x3) (by omega) (by omega) (by omega))
      have r6 := w3_r (x2 + (Z 2 0 0 (2013 + 16 * x3)))
      obtain ⟨m2, rfl⟩ : ∃ m2, m = m2 + 1 := ⟨m - 1, by omega⟩
      exact wz_k1 ⟨m2, by omega, (w3 (x2 + (Z 2 0 0 (2013 + 16 * x3)))), (x3 + 1), (zconso rfl (zconso (zvo (rfl : i3 x1 = i3 x1)) (zconso (zvo (i3W (i3A (rfl : i3 x2 = i3 x2) (zm_rd (Z := Z) (ν := ν) (k := 2) (show ((0 : Nat) : Int) = 0 from rfl) (show ((0 : Nat) : Int) = 0 from rfl) (i3I (y := (2013 + 16 * x3)) (i3A (i3A (show (2010 : Int32) = i3 2010 from rfl) (i3M (show (16 : Int32) = i3 16 from rfl) (rfl : i3 x3 = i3 x3))) (show (3 : Int32) = i3 3 from rfl)) (by omega) (by omega) (by omega)))))) (zconso (zvo (i3A (rfl : i3 x3 = i3 x3) (show (1 : Int32) = i3 1 from rfl))) rfl)))), rfl,  by omega, by omega, by omega,  hP⟩
/- yX12_dSoldOf -/
def zf_329 (Z : qz_Z) (a1 : Int) : Int := (zlet2 (zl_329_1 a1 61 Z 0 0) (fun y1 y2 => y1))
theorem sp_329 {s : zSM} {Z : qz_Z} {ν : qz_N} (hZ : zM s Z) {a1 : Int} (ga1 : 0 ≤ a1 ∧ a1 ≤ 47) (hM : s.2 + 0 ≤ 1000000000) : ∃ P : Int, P = zf_329 Z a1 ∧ (qf_329 [.inr (.inr (some (1, 0, 0))), .inl (i3 a1)] (zm Z ν) = some (zm Z ν, .inl (some (.inl (i3 P)))) ∧ -2147483648 ≤ P ∧ P ≤ 2147483647) := by
  obtain ⟨P, hP⟩ := zx (zf_329 Z a1)
  refine zc_R (Q := fun P => -2147483648 ≤ P ∧ P ≤ 2147483647) hP (fw_329 (i3 a1) _ _ ?_)
  replace hP : zE P (zf_329 Z a1) := hP
  unfold zf_329 at hP
  refine sl_329_1 (ν := ν) hZ (zbh (c := 0) (k := 0) hM (Nat.le_of_ble_eq_true rfl)) (x1 := a1) (by omega) (x2 := 0) (by omega) (x3 := 0) (by omega)  (zconso rfl (zconso (zvo (rfl : i3 a1 = i3 a1)) (zconso (zvo (show (0 : Int32) = i3 0 from rfl)) (zconso (zvo (show (0 : Int32) = i3 0 from rfl)) rfl)))) rfl ?_
  intro L3 y1 y2 hL3 gy1 gy2 q9
  replace hP := zl_e2 hP (Eq.symm q9)
  clear q9
  refine fc_329_2 (i3 y1) _ _ _ _ hL3 ?_
  exact zlR hP (rfl : i3 y1 = i3 y1) ⟨by omega, by omega⟩
/- yX12_dAdds -/
def zf_317 (Z : qz_Z) (a1 : Int) (a2 : Int) : Int := (if a2 < 2 ∨ 7 < a2 then (Z 2 0 0 (204 + 20 * a1)) else (if a2 = 2 then 1 else (if a2 = 3 then (Z 2 0 0 (203 + 20 * a1)) else (if a2 = 4 then (zlet (zf_329 Z a1) (fun v7 => v7)) else (if a2 = 5 then (Z 2 0 0 (206 + 20 * a1)) else (if a2 = 6 then (if 1 < (Z 2 0 0 (210 + 20 * a1)) then 0 else 1) else (if 1 < (Z 2 0 0 (210 + 20 * a1)) then 0 else (if (Z 2 0 0 (209 + 20 * a1)) ≠ (-1) then 0 else 1))))))))
theorem sp_317 {s : zSM} {Z : qz_Z} {ν : qz_N} (hZ : zM s Z) {a1 : Int} (ga1 : 0 ≤ a1 ∧ a1 ≤ 47) {a2 : Int} (ga2 : 2 ≤ a2 ∧ a2 ≤ 8) (hM : s.2 + 0 ≤ 1000000000) : ∃ P : Int, P = zf_317 Z a1 a2 ∧ (qf_317 [.inr (.inr (some (1, 0, 0))), .inl (i3 a1), .inl (i3 a2)] (zm Z ν) = some (zm Z ν, .inl (some (.inl (i3 P)))) ∧ -2147483648 ≤ P ∧ P ≤ 2147483647) := by
  obtain ⟨P, hP⟩ := zx (zf_317 Z a1 a2)
  refine zc_R (Q := fun P => -2147483648 ≤ P ∧ P ≤ 2147483647) hP (fw_317 (i3 a1) (i3 a2) _ _ ?_)
  replace hP : zE P (zf_317 Z a1 a2) := hP
  unfold zf_317 at hP
  refine wz_br (i3To (rfl : i3 a2 = i3 a2) (by omega) (by omega)) (fun h1 => ?_) (fun h1 => ?_)
  · replace hP := zE_p hP h1
    refine wz_i0 (i3O (n := 4400) (i3A (i3A (show (200 : Int32) = i3 200 from rfl) (i3M (show (20 : Int32) = i3 20 from rfl) (rfl : i3 a1 = i3 a1))) (show (4 : Int32) = i3 4 from rfl)) (by omega) (by omega) (by omega)) ?_
    have r2 := zM_k hZ 2 0 0 (204 + 20 * a1) (lo := 0) (hi := 40) (by decide) (zs_200_4 (x := a1) (by omega) (by omega) (by omega))
    exact zlR hP (zm_rd (Z := Z) (ν := ν) (k := 2) (show ((0 : Nat) : Int) = 0 from rfl) (show ((0 : Nat) : Int) = 0 from rfl) (i3I (y := (204 + 20 * a1)) (i3A (i3A (show (200 : Int32) = i3 200 from rfl) (i3M (show (20 : Int32) = i3 20 from rfl) (rfl : i3 a1 = i3 a1))) (show (4 : Int32) = i3 4 from rfl)) (by omega) (by omega) (by omega))) ⟨by omega, by omega⟩
  · replace hP := zE_n hP h1
    refine wz_br (i3T (rfl : i3 a2 = i3 a2) (by omega) (by omega)) (fun h3 => ?_) (fun h3 => ?_)
    · replace hP := zE_p hP h3
      exact zlR hP (show (1 : Int32) = i3 1 from rfl) ⟨by omega, by omega⟩
    · replace hP := zE_n hP h3
      refine wz_br (i3T (rfl : i3 a2 = i3 a2) (by omega) (by omega)) (fun h4 => ?_) (fun h4 => ?_)
      · replace hP := zE_p hP h4
        refine wz_i0 (i3O (n := 4400) (i3A (i3A (show (200 : Int32) = i3 200 from rfl) (i3M (show (20 : Int32) = i3 20 from rfl) (rfl : i3 a1 = i3 a1))) (show (3 : Int32) = i3 3 from rfl)) (by omega) (by omega) (by omega)) ?_
        have r5 := zM_k hZ 2 0 0 (203 + 20 * a1) (lo := 0) (hi := 40) (by decide) (zs_200_3 (x := a1) (by omega) (by omega) (by omega))
        exact zlR hP (zm_rd (Z := Z) (ν := ν) (k := 2) (show ((0 : Nat) : Int) = 0 from rfl) (show ((0 : Nat) : Int) = 0 from rfl) (i3I (y := (203 + 20 * a1)) (i3A (i3A (show (200 : Int32) = i3 200 from rfl) (i3M (show (20 : Int32) = i3 20 from rfl) (rfl : i3 a1 = i3 a1))) (show (3 : Int32) = i3 3 from rfl)) (by omega) (by omega) (by omega))) ⟨by omega, by omega⟩
      · replace hP := zE_n hP h4
        refine wz_br (i3T (rfl : i3 a2 = i3 a2) (by omega) (by omega)) (fun h6 => ?_) (fun h6 => ?_)
        · replace hP := zE_p hP h6
          obtain ⟨v7, hv7, c9, lv7, uv7⟩ := sp_329 (ν := ν) hZ (a1 := a1) (by omega) (zbh (c := 0) (k := 0) hM (Nat.le_of_ble_eq_true rfl))
          replace hP := zl_e hP hv7
          refine wz_cI_of (zas (zcons rfl (zcons (zvi (rfl : i3 a1 = i3 a1)) rfl)) c9) ?_
          clear c9
          exact zlR hP (rfl : i3 v7 = i3 v7) ⟨by omega, by omega⟩
        · replace hP := zE_n hP h6
          refine wz_br (i3T (rfl : i3 a2 = i3 a2) (by omega) (by omega)) (fun h8 => ?_) (fun h8 => ?_)
          · replace hP := zE_p hP h8
            refine wz_i0 (i3O (n := 4400) (i3A (i3A (show (200 : Int32) = i3 200 from rfl) (i3M (show (20 : Int32) = i3 20 from rfl) (rfl : i3 a1 = i3 a1))) (show (6 : Int32) = i3 6 from rfl)) (by omega) (by omega) (by omega)) ?_
            have r9 := zM_f hZ 2 0 0 (206 + 20 * a1)
            exact zlR hP (zm_rd (Z := Z) (ν := ν) (k := 2) (show ((0 : Nat) : Int) = 0 from rfl) (show ((0 : Nat) : Int) = 0 from rfl) (i3I (y := (206 + 20 * a1)) (i3A (i3A (show (200 : Int32) = i3 200 from rfl) (i3M (show (20 : Int32) = i3 20 from rfl) (rfl : i3 a1 = i3 a1))) (show (6 : Int32) = i3 6 from rfl)) (by omega) (by omega) (by omega))) ⟨by omega, by omega⟩
          · replace hP := zE_n hP h8
            refine wz_br (i3T (rfl : i3 a2 = i3 a2) (by omega) (by omega)) (fun h10 => ?_) (fun h10 => ?_)
            · replace hP := zE_p hP h10
              refine wz_i0 (i3O (n := 4400) (i3A (i3A (show (200 : Int32) = i3 200 from rfl) (i3M (show (20 : Int32) = i3 20 from rfl) (rfl : i3 a1 = i3 a1))) (show (10 : Int32) = i3 10 from rfl)) (by omega) (by omega) (by omega)) ?_
              have r11 := zM_k hZ 2 0 0 (210 + 20 * a1) (lo := 0) (hi := 4) (by decide) (zs_200_10 (x := a1) (by omega) (by omega) (by omega))
              refine wz_br (i3L (show (1 : Int32) = i3 1 from rfl) (zm_rd (Z := Z) (ν := ν) (k := 2) (show ((0 : Nat) : Int) = 0 from rfl) (show ((0 : Nat) : Int) = 0 from rfl) (i3I (y := (210 + 20 * a1)) (i3A (i3A (show (200 : Int32) = i3 200 from rfl) (i3M (show (20 : Int32) = i3 20 from rfl) (rfl : i3 a1 = i3 a1))) (show (10 : Int32) = i3 10 from rfl)) (by omega) (by omega) (by omega))) (by omega) (by omega) (by omega) (by omega)) (fun h12 => ?_) (fun h12 => ?_)
              · replace hP := zE_p hP h12
                exact zlR hP (show (0 : Int32) = i3 0 from rfl) ⟨by omega, by omega⟩
              · replace hP := zE_n hP h12
                exact zlR hP (show (1 : Int32) = i3 1 from rfl) ⟨by omega, by omega⟩
            · replace hP := zE_n hP h10
              refine wz_i1 (Eq.trans (i3T (rfl : i3 a2 = i3 a2) (by omega) (by omega)) (decide_eq_true (by omega))) ?_
              refine wz_i0 (i3O (n := 4400) (i3A (i3A (show (200 : Int32) = i3 200 from rfl) (i3M (show (20 : Int32) = i3 20 from rfl) (rfl : i3 a1 = i3 a1))) (show (10 : Int32) = i3 10 from rfl)) (by omega) (by omega) (by omega)) ?_
              have r13 := zM_k hZ 2 0 0 (210 + 20 * a1) (lo := 0) (hi := 4) (by decide) (zs_200_10 (x := a1) (by omega) (by omega) (by omega))
              refine wz_br (i3L (show (1 : Int32) = i3 1 from rfl) (zm_rd (Z := Z) (ν := ν) (k := 2) (show ((0 : Nat) : Int) = 0 from rfl) (show ((0 : Nat) : Int) = 0 from rfl) (i3I (y := (210 + 20 * a1)) (i3A (i3A (show (200 : Int32) = i3 200 from rfl) (i3M (show (20 : Int32) = i3 20 from rfl) (rfl : i3 a1 = i3 a1))) (show (10 : Int32) = i3 10 from rfl)) (by omega) (by omega) (by omega))) (by omega) (by omega) (by omega) (by omega)) (fun h14 => ?_) (fun h14 => ?_)
              · replace hP := zE_p hP h14
                exact zlR hP (show (0 : Int32) = i3 0 from rfl) ⟨by omega, by omega⟩
              · replace hP := zE_n hP h14
                refine wz_i0 (i3O (n := 4400) (i3A (i3A (show (200 : Int32) = i3 200 from rfl) (i3M (show (20 : Int32) = i3 20 from rfl) (rfl : i3 a1 = i3 a1))) (show (9 : Int32) = i3 9 from rfl)) (by omega) (by omega) (by omega)) ?_
                have r15 := zM_k hZ 2 0 0 (209 + 20 * a1) (lo := -1) (hi := 3) (by decide) (zs_200_9 (x := a1) (by omega) (by omega) (by omega))
                refine wz_br (i3NE (zm_rd (Z := Z) (ν := ν) (k := 2) (show ((0 : Nat) : Int) = 0 from rfl) (show ((0 : Nat) : Int) = 0 from rfl) (i3I (y := (209 + 20 * a1)) (i3A (i3A (show (200 : Int32) = i3 200 from rfl) (i3M (show (20 : Int32) = i3 20 from rfl) (rfl : i3 a1 = i3 a1))) (show (9 : Int32) = i3 9 from rfl)) (by omega) (by omega) (by omega))) (show (-1 : Int32) = i3 (-1) from rfl) (by omega) (by omega) (by omega) (by omega)) (fun h16 => ?_) (fun h16 => ?_)
                · replace hP := zE_p hP h16
                  exact zlR hP (show (0 : Int32) = i3 0 from rfl) ⟨by omega, by omega⟩
                · replace hP := zE_n hP h16
                  exact zlR hP (show (1 : Int32) = i3 1 from rfl) ⟨by omega, by omega⟩
/- yX12_dGrown -/
def zl_324_1 (x1 : Int) (x2 : Int) : Nat → qz_Z → Int → Int → Int × Int
  | 0, Z, x3, x4 => (x3, x4)
  | m + 1, Z, x3, x4 => (if (Z 2 0 0 102) ≤ x4 then (x3, x4) else (if (Z 2 0 0 (200 + 20 * x4)) ≠ x1 then zl_324_1 x1 x2 m Z (x3 + 0) (x4 + 1) else (zlet (zf_317 Z x4 x2) (fun v5 => zl_324_1 x1 x2 m Z (w3 (x3 + v5)) (x4 + 1)))))
theorem sl_324_1 {s : zSM} {Z : qz_Z} {ν : qz_N} (hZ : zM s Z) (hM : s.2 + 0 ≤ 1000000000) {x1 : Int} (gx1 : 0 ≤ x1 ∧ x1 ≤ 5) {x2 : Int} (gx2 : 2 ≤ x2 ∧ x2 ≤ 8) {x3 : Int} (gx3 : -2147483648 ≤ x3 ∧ x3 ≤ 2147483647) {x4 : Int} (gx4 : 0 ≤ x4 ∧ x4 ≤ 48) {k : wz_K} {R : wz_R} {L : qz_L} (hL : qz_fg [true, true, true, true, true] L = [some (.inr (.inr (some (1, 0, 0)))), some (.inl (i3 x1)), some (.inl (i3 x2)), some (.inl (i3 x3)), some (.inl (i3 x4))]) {T : Int × Int} (hP : zE T (zl_324_1 x1 x2 ((48 - x4).toNat + 1) Z x3 x4)) (hk : ∀ (L9 : qz_L) (yx3 yx4 : Int), qz_fg [false, false, false, true, false] L9 = [none, none, none, some (.inl (i3 yx3)), none] → (-2147483648 ≤ yx3 ∧ yx3 ≤ 2147483647) → (0 ≤ yx4 ∧ yx4 ≤ 48) → zE T ((yx3, yx4)) → k 0 (L9, [], zm Z ν)) : wz_loop qb_324_1 65536 k R (L, [], zm Z ν) := by
  refine wz_lp sb_324_1 (fun m x => ∃ x3 : Int, ∃ x4 : Int, qz_fg [true, true, true, true, true] x.1 = [some (.inr (.inr (some (1, 0, 0)))), some (.inl (i3 x1)), some (.inl (i3 x2)), some (.inl (i3 x3)), some (.inl (i3 x4))] ∧ x.2 = ([], zm Z ν) ∧ m = (48 - x4).toNat ∧ (-2147483648 ≤ x3 ∧ x3 ≤ 2147483647) ∧ (0 ≤ x4 ∧ x4 ≤ 48) ∧ zE T (zl_324_1 x1 x2 (m + 1) Z x3 x4)) ?_ 65536 ((48 - x4).toNat) _ (by omega) ⟨x3, x4, hL, rfl, rfl, gx3, gx4, hP⟩
  clear hP gx3 gx4 hL
  clear x3 x4
  rintro m ⟨L, st, μ⟩ ⟨x3, x4, hL, hx, hm, gx3, gx4, hP⟩
  cases hx
  refine fb_324_1 (i3 x1) (i3 x2) (i3 x3) (i3 x4) _ _ _ _ hL ?_
  have r1 := zM_k hZ 2 0 0 102 (lo := 0) (hi := 48) (by decide) rfl
  refine wz_br (i3Le (zm_rd (Z := Z) (ν := ν) (k := 2) (show ((0 : Nat) : Int) = 0 from rfl) (show ((0 : Nat) : Int) = 0 from rfl) (show ((102 : Nat) : Int) = 102 from rfl)) (rfl : i3 x4 = i3 x4) (by omega) (by omega) (by omega) (by omega)) (fun h2 => ?_) (fun h2 => ?_)
  · replace hP := zE_p hP h2
    exact hk _ _ _ (zconso rfl (zconso rfl (zconso rfl (zconso (zvo (rfl : i3 x3 = i3 x3)) (zconso rfl rfl)))))  (by omega) (by omega)  hP
  · replace hP := zE_n hP h2
    refine wz_i0 (i3O (n := 4400) (i3A (i3A (show (200 : Int32) = i3 200 from rfl) (i3M (show (20 : Int32) = i3 20 from rfl) (rfl : i3 x4 = i3 x4))) (show (0 : Int32) = i3 0 from rfl)) (by omega) (by omega) (by omega)) ?_
    have r3 := zM_k hZ 2 0 0 (200 + 20 * x4) (lo := 0) (hi := 5) (by decide) (zs_200_0 (x := x4) (by omega) (by omega) (by omega))
    refine wz_br (i3NE (zm_rd (Z := Z) (ν := ν) (k := 2) (show ((0 : Nat) : Int) = 0 from rfl) (show ((0 : Nat) : Int) = 0 from rfl) (i3I (y := (200 + 20 * x4)) (i3A (i3A (show (200 : Int32) = i3 200 from rfl) (i3M (show (20 : Int32) = i3 20 from rfl) (rfl : i3 x4 = i3 x4))) (show (0 : Int32) = i3 0 from rfl)) (by omega) (by omega) (by omega))) (rfl : i3 x1 = i3 x1) (by omega) (by omega) (by omega) (by omega)) (fun h4 => ?_) (fun h4 => ?_)
    · replace hP := zE_p hP h4
      obtain ⟨m2, rfl⟩ : ∃ m2, m = m2 + 1 := ⟨m - 1, by omega⟩
      exact wz_k1 ⟨m2, by omega, (x3 + 0), (x4 + 1), (zconso rfl (zconso (zvo (rfl : i3 x1 = i3 x1)) (zconso (zvo (rfl : i3 x2 = i3 x2)) (zconso (zvo (i3A (rfl : i3 x3 = i3 x3) (show (0 : Int32) = i3 0 from rfl))) (zconso (zvo (i3A (rfl : i3 x4 = i3 x4) (show (1 : Int32) = i3 1 from rfl))) rfl))))), rfl,  by omega, by omega, by omega,  hP⟩
    · replace hP := zE_n hP h4
      obtain ⟨v5, hv5, c9, lv5, uv5⟩ := sp_317 (ν := ν) hZ (a1 := x4) (by omega) (a2 := x2) (by omega) (zbh (c := 0) (k := 0) hM (Nat.le_of_ble_eq_true rfl))
      replace hP := zl_e hP hv5
      refine wz_cI_of (zas (zcons rfl (zcons (zvi (rfl : i3 x4 = i3 x4)) (zcons (zvi (rfl : i3 x2 = i3 x2)) rfl))) c9) ?_
      clear c9
      have r6 := w3_r (x3 + v5)
      obtain ⟨m2, rfl⟩ : ∃ m2, m = m2 + 1 := ⟨m - 1, by omega⟩
      exact wz_k1 ⟨m2, by omega, (w3 (x3 + v5)), (x4 + 1), (zconso rfl (zconso (zvo (rfl : i3 x1 = i3 x1)) (zconso (zvo (rfl : i3 x2 = i3 x2)) (zconso (zvo (i3W (i3A (rfl : i3 x3 = i3 x3) (rfl : i3 v5 = i3 v5)))) (zconso (zvo (i3A (rfl : i3 x4 = i3 x4) (show (1 : Int32) = i3 1 from rfl))) rfl))))), rfl,  by omega, by omega, by omega,  hP⟩
/- yX12_dGrown -/
def zf_324 (Z : qz_Z) (a1 : Int) (a2 : Int) : Int := (if 2 ≤ a2 then (zlet2 (zl_324_1 a1 a2 49 Z 0 0) (fun y2 y3 => y2)) else (Z 2 0 0 (140 + 2 * a1 + a2)))
theorem sp_324 {s : zSM} {Z : qz_Z} {ν : qz_N} (hZ : zM s Z) {a1 : Int} (ga1 : 0 ≤ a1 ∧ a1 ≤ 5) {a2 : Int} (ga2 : 0 ≤ a2 ∧ a2 ≤ 8) (hM : s.2 + 0 ≤ 1000000000) : ∃ P : Int, P = zf_324 Z a1 a2 ∧ (qf_324 [.inr (.inr (some (1, 0, 0))), .inl (i3 a1), .inl (i3 a2)] (zm Z ν) = some (zm Z ν, .inl (some (.inl (i3 P)))) ∧ -2147483648 ≤ P ∧ P ≤ 2147483647) := by
  obtain ⟨P, hP⟩ := zx (zf_324 Z a1 a2)
  refine zc_R (Q := fun P => -2147483648 ≤ P ∧ P ≤ 2147483647) hP (fw_324 (i3 a1) (i3 a2) _ _ ?_)
  replace hP : zE P (zf_324 Z a1 a2) := hP
  unfold zf_324 at hP
  refine wz_br (i3Le (show (2 : Int32) = i3 2 from rfl) (rfl : i3 a2 = i3 a2) (by omega) (by omega) (by omega) (by omega)) (fun h1 => ?_) (fun h1 => ?_)
  · replace hP := zE_p hP h1
    refine sl_324_1 (ν := ν) hZ (zbh (c := 0) (k := 0) hM (Nat.le_of_ble_eq_true rfl)) (x1 := a1) (by omega) (x2 := a2) (by omega) (x3 := 0) (by omega) (x4 := 0) (by omega)  (zconso rfl (zconso (zvo (rfl : i3 a1 = i3 a1)) (zconso (zvo (rfl : i3 a2 = i3 a2)) (zconso (zvo (show (0 : Int32) = i3 0 from rfl)) (zconso (zvo (show (0 : Int32) = i3 0 from rfl)) rfl))))) rfl ?_
    intro L4 y2 y3 hL4 gy2 gy3 q9
    replace hP := zl_e2 hP (Eq.symm q9)
    clear q9
    refine fc_324_2 (i3 y2) _ _ _ _ hL4 ?_
    exact zlR hP (rfl : i3 y2 = i3 y2) ⟨by omega, by omega⟩
  · replace hP := zE_n hP h1
    refine wz_i0 (i3O (n := 4400) (i3A (i3A (show (140 : Int32) = i3 140 from rfl) (i3M (show (2 : Int32) = i3 2 from rfl) (rfl : i3 a1 = i3 a1))) (rfl : i3 a2 = i3 a2)) (by omega) (by omega) (by omega)) ?_
    have r5 := zM_f hZ 2 0 0 (140 + 2 * a1 + a2)
    exact zlR hP (zm_rd (Z := Z) (ν := ν) (k := 2) (show ((0 : Nat) : Int) = 0 from rfl) (show ((0 : Nat) : Int) = 0 from rfl) (i3I (y := (140 + 2 * a1 + a2)) (i3A (i3A (show (140 : Int32) = i3 140 from rfl) (i3M (show (2 : Int32) = i3 2 from rfl) (rfl : i3 a1 = i3 a1))) (rfl : i3 a2 = i3 a2)) (by omega) (by omega) (by omega))) ⟨by omega, by omega⟩
/- yX12_grown -/
def zy_348 (Z : qz_Z) (a1 : Int) (a2 : Int) : qz_Z × Int := (if a1 < 0 then (zlet (zu Z 1 0 0 2 1) (fun Z5 => (Z5, 0))) else (if ((Z 2 0 0 101) - 1) < a1 then (zlet (zu Z 1 0 0 2 1) (fun Z8 => (Z8, 0))) else (zlet (zu Z 1 0 0 2 0) (fun Z9 => (if a2 < 0 then (zlet (zu Z9 1 0 0 2 2) (fun Z11 => (Z11, 0))) else (if 8 < a2 then (zlet (zu Z9 1 0 0 2 2) (fun Z13 => (Z13, 0))) else (zlet (zu Z9 1 0 0 2 0) (fun Z14 => (zlet (zf_324 Z14 a1 a2) (fun v15 => (Z14, v15)))))))))))
theorem sy_348 {s : zSM} {Z : qz_Z} {ν : qz_N} (hZ : zM s Z) (gq : Z 1 0 0 35 = 0) (hM : s.2 + 0 ≤ 1000000000) {a1 : Int} (ga1 : -2147483648 ≤ a1 ∧ a1 ≤ 2147483647) {a2 : Int} (ga2 : -2147483648 ≤ a2 ∧ a2 ≤ 2147483647) {ν1 : qz_N} : ∃ (Z1 : qz_Z) (ν2 : qz_N) (v : Int), (Z1, v) = zy_348 Z a1 a2 ∧ (ν2 = ν ∨ ν2 = ν1) ∧ qf_348 [.inr (.inr (some (1, 0, 0))), .inl (i3 a1), .inl (i3 a2)] (zm Z ν) = some (zm Z1 ν2, .inl (some (.inl (i3 v)))) ∧ (fun Z1 => zM s Z1 ∧ zC [1] Z Z1 ∧ zU [] Z Z1) Z1 := by
  obtain ⟨P, hP⟩ := zx (zy_348 Z a1 a2)
  refine zc_Y (Q := fun Z1 => zM s Z1 ∧ zC [1] Z Z1 ∧ zU [] Z Z1) hP (fw_348 (i3 a1) (i3 a2) _ _ ?_)
  replace hP : zE P (zy_348 Z a1 a2) := hP
  unfold zy_348 at hP
  have r1 := zM_k hZ 1 0 0 35 (lo := 0) (hi := 1) (by decide) rfl
  have r2 := zM_k hZ 1 0 0 34 (lo := 0) (hi := 8) (by decide) rfl
  have r3 := zM_f hZ 1 0 0 37
  refine wz_br (i3L (rfl : i3 a1 = i3 a1) (show (0 : Int32) = i3 0 from rfl) (by omega) (by omega) (by omega) (by omega)) (fun h4 => ?_) (fun h4 => ?_)
  · replace hP := zE_p hP h4
    obtain ⟨Z5, hZ5⟩ := zx (zu Z 1 0 0 2 1)
    replace hP := zl_e hP hZ5
    have hZ5I := zM_u hZ hZ5 (lo := -2147483648) (hi := 2147483647) (by decide) rfl (by omega) ⟨by decide, by decide⟩ (Or.inr (by decide)) rfl
    have hZ5U : zU [] Z Z5 := zU_u zU_r hZ5 (Or.inl rfl)
    have hZ5K : zC [1] Z Z5 := zC_u zC_r hZ5 (by decide)
    intro μ9 e9
    replace e9 := e9.trans (zm_wI (Z := Z) (ν := ν) hZ5 (show ((0 : Nat) : Int) = 0 from rfl) (show ((0 : Nat) : Int) = 0 from rfl) (show ((2 : Nat) : Int) = 2 from rfl) (show (1 : Int32) = i3 1 from rfl))
    subst e9
    exact zlY hP (show (0 : Int32) = i3 0 from rfl) (.inl rfl) ⟨hZ5I, hZ5K, hZ5U⟩
  · replace hP := zE_n hP h4
    have r6 := zM_k hZ 2 0 0 101 (lo := 0) (hi := 6) (by decide) rfl
    refine wz_br (i3L (i3S (zm_rd (Z := Z) (ν := ν) (k := 2) (show ((0 : Nat) : Int) = 0 from rfl) (show ((0 : Nat) : Int) = 0 from rfl) (show ((101 : Nat) : Int) = 101 from rfl)) (show (1 : Int32) = i3 1 from rfl)) (rfl : i3 a1 = i3 a1) (by omega) (by omega) (by omega) (by omega)) (fun h7 => ?_) (fun h7 => ?_)
    · replace hP := zE_p hP h7
      obtain ⟨Z8, hZ8⟩ := zx (zu Z 1 0 0 2 1)
      replace hP := zl_e hP hZ8
      have hZ8I := zM_u hZ hZ8 (lo := -2147483648) (hi := 2147483647) (by decide) rfl (by omega) ⟨by decide, by decide⟩ (Or.inr (by decide)) rfl
      have hZ8U : zU [] Z Z8 := zU_u zU_r hZ8 (Or.inl rfl)
      have hZ8K : zC [1] Z Z8 := zC_u zC_r hZ8 (by decide)
      intro μ9 e9
      replace e9 := e9.trans (zm_wI (Z := Z) (ν := ν) hZ8 (show ((0 : Nat) : Int) = 0 from rfl) (show ((0 : Nat) : Int) = 0 from rfl) (show ((2 : Nat) : Int) = 2 from rfl) (show (1 : Int32) = i3 1 from rfl))
      subst e9
      exact zlY hP (show (0 : Int32) = i3 0 from rfl) (.inl rfl) ⟨hZ8I, hZ8K, hZ8U⟩
    · replace hP := zE_n hP h7
      obtain ⟨Z9, hZ9⟩ := zx (zu Z 1 0 0 2 0)
      replace hP := zl_e hP hZ9
      have hZ9I := zM_0 hZ hZ9 (by decide) (Or.inr (by decide))
      have hZ9U : zU [] Z Z9 := zU_u zU_r hZ9 (Or.inl rfl)
      have hZ9K : zC [1] Z Z9 := zC_u zC_r hZ9 (by decide)
      intro μ9 e9
      replace e9 := e9.trans (zm_wI (Z := Z) (ν := ν) hZ9 (show ((0 : Nat) : Int) = 0 from rfl) (show ((0 : Nat) : Int) = 0 from rfl) (show ((2 : Nat) : Int) = 2 from rfl) (show (0 : Int32) = i3 0 from rfl))
      subst e9
      refine wz_br (i3L (rfl : i3 a2 = i3 a2) (show (0 : Int32) = i3 0 from rfl) (by omega) (by omega) (by omega) (by omega)) (fun h10 => ?_) (fun h10 => ?_)
      · replace hP := zE_p hP h10
        obtain ⟨Z11, hZ11⟩ := zx (zu Z9 1 0 0 2 2)
        replace hP := zl_e hP hZ11
        have hZ11I := zM_u hZ9I hZ11 (lo := -2147483648) (hi := 2147483647) (by decide) rfl (by omega) ⟨by decide, by decide⟩ (Or.inr (by decide)) rfl
        have hZ11U : zU [] Z Z11 := zU_u hZ9U hZ11 (Or.inl rfl)
        have hZ11K : zC [1] Z Z11 := zC_u hZ9K hZ11 (by decide)
        intro μ9 e9
        replace e9 := e9.trans (zm_wI (Z := Z9) (ν := ν) hZ11 (show ((0 : Nat) : Int) = 0 from rfl) (show ((0 : Nat) : Int) = 0 from rfl) (show ((2 : Nat) : Int) = 2 from rfl) (show (2 : Int32) = i3 2 from rfl))
        subst e9
        exact zlY hP (show (0 : Int32) = i3 0 from rfl) (.inl rfl) ⟨hZ11I, hZ11K, hZ11U⟩
      · replace hP := zE_n hP h10
        refine wz_br (i3L (show (8 : Int32) = i3 8 from rfl) (rfl : i3 a2 = i3 a2) (by omega) (by omega) (by omega) (by omega)) (fun h12 => ?_) (fun h12 => ?_)
        · replace hP := zE_p hP h12
          obtain ⟨Z13, hZ13⟩ := zx (zu Z9 1 0 0 2 2)
          replace hP := zl_e hP hZ13
          have hZ13I := zM_u hZ9I hZ13 (lo := -2147483648) (hi := 2147483647) (by decide) rfl (by omega) ⟨by decide, by decide⟩ (Or.inr (by decide)) rfl
          have hZ13U : zU [] Z Z13 := zU_u hZ9U hZ13 (Or.inl rfl)
          have hZ13K : zC [1] Z Z13 := zC_u hZ9K hZ13 (by decide)
          intro μ9 e9
          replace e9 := e9.trans (zm_wI (Z := Z9) (ν := ν) hZ13 (show ((0 : Nat) : Int) = 0 from rfl) (show ((0 : Nat) : Int) = 0 from rfl) (show ((2 : Nat) : Int) = 2 from rfl) (show (2 : Int32) = i3 2 from rfl))
          subst e9
          exact zlY hP (show (0 : Int32) = i3 0 from rfl) (.inl rfl) ⟨hZ13I, hZ13K, hZ13U⟩
        · replace hP := zE_n hP h12
          obtain ⟨Z14, hZ14⟩ := zx (zu Z9 1 0 0 2 0)
          replace hP := zl_e hP hZ14
          have hZ14I := zM_0 hZ9I hZ14 (by decide) (Or.inr (by decide))
          have hZ14U : zU [] Z Z14 := zU_u hZ9U hZ14 (Or.inl rfl)
          have hZ14K : zC [1] Z Z14 := zC_u hZ9K hZ14 (by decide)
          intro μ9 e9
          replace e9 := e9.trans (zm_wI (Z := Z9) (ν := ν) hZ14 (show ((0 : Nat) : Int) = 0 from rfl) (show ((0 : Nat) : Int) = 0 from rfl) (show ((2 : Nat) : Int) = 2 from rfl) (show (0 : Int32) = i3 0 from rfl))
          subst e9
          obtain ⟨v15, hv15, c9, lv15, uv15⟩ := sp_324 (ν := ν) hZ14I (a1 := a1) (by omega) (a2 := a2) (by omega) (zbh (c := 0) (k := 0) hM (Nat.le_of_ble_eq_true rfl))
          replace hP := zl_e hP hv15
          refine wz_cI_of (zas (zcons rfl (zcons (zvi (rfl : i3 a1 = i3 a1)) (zcons (zvi (rfl : i3 a2 = i3 a2)) rfl))) c9) ?_
          clear c9
          exact zlY hP (rfl : i3 v15 = i3 v15) (.inl rfl) ⟨hZ14I, hZ14K, hZ14U⟩
/- yX12_hand -/
def zy_349 (Z : qz_Z) (a1 : Int) (a2 : Int) : qz_Z × Int := (if a1 < 0 then (zlet (zu Z 1 0 0 2 1) (fun Z5 => (Z5, 0))) else (if ((Z 2 0 0 3000) - 1) < a1 then (zlet (zu Z 1 0 0 2 1) (fun Z8 => (Z8, 0))) else (zlet (zu Z 1 0 0 2 0) (fun Z9 => (if a2 < 0 then (zlet (zu Z9 1 0 0 2 2) (fun Z11 => (Z11, 0))) else (if 12 < a2 then (zlet (zu Z9 1 0 0 2 2) (fun Z13 => (Z13, 0))) else (zlet (zu Z9 1 0 0 2 0) (fun Z14 => (if a2 ≠ 12 then (Z14, (Z14 2 0 0 (3010 + 60 * a1 + a2))) else (if ((Z14 2 0 0 0) % 24) < (Z14 2 0 0 (3010 + 60 * a1)) then (Z14, 0) else (if (((Z14 2 0 0 (3010 + 60 * a1)) + (Z14 2 0 0 (3011 + 60 * a1))) - 1) < ((Z14 2 0 0 0) % 24) then (Z14, 0) else (Z14, 1))))))))))))
theorem sy_349 {s : zSM} {Z : qz_Z} {ν : qz_N} (hZ : zM s Z) (gq : Z 1 0 0 35 = 0) (hM : s.2 + 0 ≤ 1000000000) {a1 : Int} (ga1 : -2147483648 ≤ a1 ∧ a1 ≤ 2147483647) {a2 : Int} (ga2 : -2147483648 ≤ a2 ∧ a2 ≤ 2147483647) {ν1 : qz_N} : ∃ (Z1 : qz_Z) (ν2 : qz_N) (v : Int), (Z1, v) = zy_349 Z a1 a2 ∧ (ν2 = ν ∨ ν2 = ν1) ∧ qf_349 [.inr (.inr (some (1, 0, 0))), .inl (i3 a1), .inl (i3 a2)] (zm Z ν) = some (zm Z1 ν2, .inl (some (.inl (i3 v)))) ∧ (fun Z1 => zM s Z1 ∧ zC [1] Z Z1 ∧ zU [] Z Z1) Z1 := by
  obtain ⟨P, hP⟩ := zx (zy_349 Z a1 a2)
  refine zc_Y (Q := fun Z1 => zM s Z1 ∧ zC [1] Z Z1 ∧ zU [] Z Z1) hP (fw_349 (i3 a1) (i3 a2) _ _ ?_)
  replace hP : zE P (zy_349 Z a1 a2) := hP
  unfold zy_349 at hP
  have r1 := zM_k hZ 1 0 0 35 (lo := 0) (hi := 1) (by decide) rfl
  have r2 := zM_k hZ 1 0 0 34 (lo := 0) (hi := 8) (by decide) rfl
  have r3 := zM_f hZ 1 0 0 37
  refine wz_br (i3L (rfl : i3 a1 = i3 a1) (show (0 : Int32) = i3 0 from rfl) (by omega) (by omega) (by omega) (by omega)) (fun h4 => ?_) (fun h4 => ?_)
  · replace hP := zE_p hP h4
    obtain ⟨Z5, hZ5⟩ := zx (zu Z 1 0 0 2 1)
    replace hP := zl_e hP hZ5
    have hZ5I := zM_u hZ hZ5 (lo := -2147483648) (hi := 2147483647) (by decide) rfl (by omega) ⟨by decide, by decide⟩ (Or.inr (by decide)) rfl
    have hZ5U : zU [] Z Z5 := zU_u zU_r hZ5 (Or.inl rfl)
    have hZ5K : zC [1] Z Z5 := zC_u zC_r hZ5 (by decide)
    intro μ9 e9
    replace e9 := e9.trans (zm_wI (Z := Z) (ν := ν) hZ5 (show ((0 : Nat) : Int) = 0 from rfl) (show ((0 : Nat) : Int) = 0 from rfl) (show ((2 : Nat) : Int) = 2 from rfl) (show (1 : Int32) = i3 1 from rfl))
    subst e9
    exact zlY hP (show (0 : Int32) = i3 0 from rfl) (.inl rfl) ⟨hZ5I, hZ5K, hZ5U⟩
  · replace hP := zE_n hP h4
    have r6 := zM_k hZ 2 0 0 3000 (lo := 0) (hi := 2) (by decide) rfl
    refine wz_br (i3L (i3S (zm_rd (Z := Z) (ν := ν) (k := 2) (show ((0 : Nat) : Int) = 0 from rfl) (show ((0 : Nat) : Int) = 0 from rfl) (show ((3000 : Nat) : Int) = 3000 from rfl)) (show (1 : Int32) = i3 1 from rfl)) (rfl : i3 a1 = i3 a1) (by omega) (by omega) (by omega) (by omega)) (fun h7 => ?_) (fun h7 => ?_)
    · replace hP := zE_p hP h7
      obtain ⟨Z8, hZ8⟩ := zx (zu Z 1 0 0 2 1)
      replace hP := zl_e hP hZ8
      have hZ8I := zM_u hZ hZ8 (lo := -2147483648) (hi := 2147483647) (by decide) rfl (by omega) ⟨by decide, by decide⟩ (Or.inr (by decide)) rfl
      have hZ8U : zU [] Z Z8 := zU_u zU_r hZ8 (Or.inl rfl)
      have hZ8K : zC [1] Z Z8 := zC_u zC_r hZ8 (by decide)
      intro μ9 e9
      replace e9 := e9.trans (zm_wI (Z := Z) (ν := ν) hZ8 (show ((0 : Nat) : Int) = 0 from rfl) (show ((0 : Nat) : Int) = 0 from rfl) (show ((2 : Nat) : Int) = 2 from rfl) (show (1 : Int32) = i3 1 from rfl))
      subst e9
      exact zlY hP (show (0 : Int32) = i3 0 from rfl) (.inl rfl) ⟨hZ8I, hZ8K, hZ8U⟩
    · replace hP := zE_n hP h7
      obtain ⟨Z9, hZ9⟩ := zx (zu Z 1 0 0 2 0)
      replace hP := zl_e hP hZ9
      have hZ9I := zM_0 hZ hZ9 (by decide) (Or.inr (by decide))
      have hZ9U : zU [] Z Z9 := zU_u zU_r hZ9 (Or.inl rfl)
      have hZ9K : zC [1] Z Z9 := zC_u zC_r hZ9 (by decide)
      intro μ9 e9
      replace e9 := e9.trans (zm_wI (Z := Z) (ν := ν) hZ9 (show ((0 : Nat) : Int) = 0 from rfl) (show ((0 : Nat) : Int) = 0 from rfl) (show ((2 : Nat) : Int) = 2 from rfl) (show (0 : Int32) = i3 0 from rfl))
      subst e9
      refine wz_br (i3L (rfl : i3 a2 = i3 a2) (show (0 : Int32) = i3 0 from rfl) (by omega) (by omega) (by omega) (by omega)) (fun h10 => ?_) (fun h10 => ?_)
      · replace hP := zE_p hP h10
        obtain ⟨Z11, hZ11⟩ := zx (zu Z9 1 0 0 2 2)
        replace hP := zl_e hP hZ11
        have hZ11I := zM_u hZ9I hZ11 (lo := -2147483648) (hi := 2147483647) (by decide) rfl (by omega) ⟨by decide, by decide⟩ (Or.inr (by decide)) rfl
        have hZ11U : zU [] Z Z11 := zU_u hZ9U hZ11 (Or.inl rfl)
        have hZ11K : zC [1] Z Z11 := zC_u hZ9K hZ11 (by decide)
        intro μ9 e9
        replace e9 := e9.trans (zm_wI (Z := Z9) (ν := ν) hZ11 (show ((0 : Nat) : Int) = 0 from rfl) (show ((0 : Nat) : Int) = 0 from rfl) (show ((2 : Nat) : Int) = 2 from rfl) (show (2 : Int32) = i3 2 from rfl))
        subst e9
        exact zlY hP (show (0 : Int32) = i3 0 from rfl) (.inl rfl) ⟨hZ11I, hZ11K, hZ11U⟩
      · replace hP := zE_n hP h10
        refine wz_br (i3L (show (12 : Int32) = i3 12 from rfl) (rfl : i3 a2 = i3 a2) (by omega) (by omega) (by omega) (by omega)) (fun h12 => ?_) (fun h12 => ?_)
        · replace hP := zE_p hP h12
          obtain ⟨Z13, hZ13⟩ := zx (zu Z9 1 0 0 2 2)
          replace hP := zl_e hP hZ13
          have hZ13I := zM_u hZ9I hZ13 (lo := -2147483648) (hi := 2147483647) (by decide) rfl (by omega) ⟨by decide, by decide⟩ (Or.inr (by decide)) rfl
          have hZ13U : zU [] Z Z13 := zU_u hZ9U hZ13 (Or.inl rfl)
          have hZ13K : zC [1] Z Z13 := zC_u hZ9K hZ13 (by decide)
          intro μ9 e9
          replace e9 := e9.trans (zm_wI (Z := Z9) (ν := ν) hZ13 (show ((0 : Nat) : Int) = 0 from rfl) (show ((0 : Nat) : Int) = 0 from rfl) (show ((2 : Nat) : Int) = 2 from rfl) (show (2 : Int32) = i3 2 from rfl))
          subst e9
          exact zlY hP (show (0 : Int32) = i3 0 from rfl) (.inl rfl) ⟨hZ13I, hZ13K, hZ13U⟩
        · replace hP := zE_n hP h12
          obtain ⟨Z14, hZ14⟩ := zx (zu Z9 1 0 0 2 0)
          replace hP := zl_e hP hZ14
          have hZ14I := zM_0 hZ9I hZ14 (by decide) (Or.inr (by decide))
          have hZ14U : zU [] Z Z14 := zU_u hZ9U hZ14 (Or.inl rfl)
          have hZ14K : zC [1] Z Z14 := zC_u hZ9K hZ14 (by decide)
          intro μ9 e9
          replace e9 := e9.trans (zm_wI (Z := Z9) (ν := ν) hZ14 (show ((0 : Nat) : Int) = 0 from rfl) (show ((0 : Nat) : Int) = 0 from rfl) (show ((2 : Nat) : Int) = 2 from rfl) (show (0 : Int32) = i3 0 from rfl))
          subst e9
          refine wz_br (i3NE (rfl : i3 a2 = i3 a2) (show (12 : Int32) = i3 12 from rfl) (by omega) (by omega) (by omega) (by omega)) (fun h15 => ?_) (fun h15 => ?_)
          · replace hP := zE_p hP h15
            refine wz_i0 (i3O (n := 4400) (i3A (i3A (show (3010 : Int32) = i3 3010 from rfl) (i3M (show (60 : Int32) = i3 60 from rfl) (rfl : i3 a1 = i3 a1))) (rfl : i3 a2 = i3 a2)) (by omega) (by omega) (by omega)) ?_
            have r16 := zM_f hZ14I 2 0 0 (3010 + 60 * a1 + a2)
            exact zlY hP (zm_rd (Z := Z14) (ν := ν) (k := 2) (show ((0 : Nat) : Int) = 0 from rfl) (show ((0 : Nat) : Int) = 0 from rfl) (i3I (y := (3010 + 60 * a1 + a2)) (i3A (i3A (show (3010 : Int32) = i3 3010 from rfl) (i3M (show (60 : Int32) = i3 60 from rfl) (rfl : i3 a1 = i3 a1))) (rfl : i3 a2 = i3 a2)) (by omega) (by omega) (by omega))) (.inl rfl) ⟨hZ14I, hZ14K, hZ14U⟩
          · replace hP := zE_n hP h15
            refine wz_i0 (i3O (n := 4400) (i3A (i3A (show (3010 : Int32) = i3 3010 from rfl) (i3M (show (60 : Int32) = i3 60 from rfl) (rfl : i3 a1 = i3 a1))) (show (0 : Int32) = i3 0 from rfl)) (by omega) (by omega) (by omega)) ?_
            refine wz_i0 (i3O (n := 4400) (i3A (i3A (show (3010 : Int32) = i3 3010 from rfl) (i3M (show (60 : Int32) = i3 60 from rfl) (rfl : i3 a1 = i3 a1))) (show (0 : Int32) = i3 0 from rfl)) (by omega) (by omega) (by omega)) ?_
            refine wz_i0 (i3O (n := 4400) (i3A (i3A (show (3010 : Int32) = i3 3010 from rfl) (i3M (show (60 : Int32) = i3 60 from rfl) (rfl : i3 a1 = i3 a1))) (show (1 : Int32) = i3 1 from rfl)) (by omega) (by omega) (by omega)) ?_
            have r17 := zM_k hZ14I 2 0 0 0 (lo := 0) (hi := 671) (by decide) rfl
            have r18 := zM_k hZ14I 2 0 0 (3010 + 60 * a1) (lo := 0) (hi := 23) (by decide) (zs_3010_0 (x := (a1 + 0)) (by omega) (by omega) (by omega))
            refine wz_br (i3L (i3R (zm_rd (Z := Z14) (ν := ν) (k := 2) (show ((0 : Nat) : Int) = 0 from rfl) (show ((0 : Nat) : Int) = 0 from rfl) (show ((0 : Nat) : Int) = 0 from rfl)) (show (24 : Int32) = i3 24 from rfl) (by omega) (by omega) (by omega) (by omega)) (zm_rd (Z := Z14) (ν := ν) (k := 2) (show ((0 : Nat) : Int) = 0 from rfl) (show ((0 : Nat) : Int) = 0 from rfl) (i3I (y := (3010 + 60 * a1)) (i3A (i3A (show (3010 : Int32) = i3 3010 from rfl) (i3M (show (60 : Int32) = i3 60 from rfl) (rfl : i3 a1 = i3 a1))) (show (0 : Int32) = i3 0 from rfl)) (by omega) (by omega) (by omega))) (by omega) (by omega) (by omega) (by omega)) (fun h19 => ?_) (fun h19 => ?_)
            · replace hP := zE_p hP h19
              exact zlY hP (show (0 : Int32) = i3 0 from rfl) (.inl rfl) ⟨hZ14I, hZ14K, hZ14U⟩
            · replace hP := zE_n hP h19
              have r20 := zM_k hZ14I 2 0 0 (3011 + 60 * a1) (lo := 0) (hi := 6) (by decide) (zs_3010_1 (x := (a1 + 0)) (by omega) (by omega) (by omega))
              refine wz_br (i3L (i3S (i3A (zm_rd (Z := Z14) (ν := ν) (k := 2) (show ((0 : Nat) : Int) = 0 from rfl) (show ((0 : Nat) : Int) = 0 from rfl) (i3I (y := (3010 + 60 * a1)) (i3A (i3A (show (3010 : Int32) = i3 3010 from rfl) (i3M (show (60 : Int32) = i3 60 from rfl) (rfl : i3 a1 = i3 a1))) (show (0 : Int32) = i3 0 from rfl)) (by omega) (by omega) (by omega))) (zm_rd (Z := Z14) (ν := ν) (k := 2) (show ((0 : Nat) : Int) = 0 from rfl) (show ((0 : Nat) : Int) = 0 from rfl) (i3I (y := (3011 + 60 * a1)) (i3A (i3A (show (3010 : Int32) = i3 3010 from rfl) (i3M (show (60 : Int32) = i3 60 from rfl) (rfl : i3 a1 = i3 a1))) (show (1 : Int32) = i3 1 from rfl)) (by omega) (by omega) (by omega)))) (show (1 : Int32) = i3 1 from rfl)) (i3R (zm_rd (Z := Z14) (ν := ν) (k := 2) (show ((0 : Nat) : Int) = 0 from rfl) (show ((0 : Nat) : Int) = 0 from rfl) (show ((0 : Nat) : Int) = 0 from rfl)) (show (24 : Int32) = i3 24 from rfl) (by omega) (by omega) (by omega) (by omega)) (by omega) (by omega) (by omega) (by omega)) (fun h21 => ?_) (fun h21 => ?_)
              · replace hP := zE_p hP h21
                exact zlY hP (show (0 : Int32) = i3 0 from rfl) (.inl rfl) ⟨hZ14I, hZ14K, hZ14U⟩
              · replace hP := zE_n hP h21
                exact zlY hP (show (1 : Int32) = i3 1 from rfl) (.inl rfl) ⟨hZ14I, hZ14K, hZ14U⟩
/- yX12_tHoursOfRow -/
def zl_514_1 : Nat → qz_Z → Int → Int → Int → Int × Int × Int
  | 0, Z, x1, x2, x3 => (x1, x2, x3)
  | m + 1, Z, x1, x2, x3 => (if (Z 1 0 0 24) ≤ x3 then (x1, x2, x3) else zl_514_1 m Z (w3 (x1 + (Z 2 0 0 (3210 + 6 * x2 + (Z 95 0 0 x3))))) (Z 95 0 0 x3) (x3 + 1))
theorem sl_514_1 {s : zSM} {Z : qz_Z} {ν : qz_N} (hZ : zM s Z) (hM : s.2 + 0 ≤ 1000000000) {x1 : Int} (gx1 : -2147483648 ≤ x1 ∧ x1 ≤ 2147483647) {x2 : Int} (gx2 : 0 ≤ x2 ∧ x2 ≤ 5) {x3 : Int} (gx3 : 0 ≤ x3 ∧ x3 ≤ 5) {k : wz_K} {R : wz_R} {L : qz_L} (hL : qz_fg [true, true, true, true] L = [some (.inr (.inr (some (1, 0, 0)))), some (.inl (i3 x1)), some (.inl (i3 x2)), some (.inl (i3 x3))]) {T : Int × Int × Int} (hP : zE T (zl_514_1 ((5 - x3).toNat + 1) Z x1 x2 x3)) (hk : ∀ (L9 : qz_L) (yx1 yx2 yx3 : Int), qz_fg [true, true, true, false] L9 = [some (.inr (.inr (some (1, 0, 0)))), some (.inl (i3 yx1)), some (.inl (i3 yx2)), none] → (-2147483648 ≤ yx1 ∧ yx1 ≤ 2147483647) → (0 ≤ yx2 ∧ yx2 ≤ 5) → (0 ≤ yx3 ∧ yx3 ≤ 5) → zE T ((yx1, yx2, yx3)) → k 0 (L9, [], zm Z ν)) : wz_loop qb_514_1 65536 k R (L, [], zm Z ν) := by
  refine wz_lp sb_514_1 (fun m x => ∃ x1 : Int, ∃ x2 : Int, ∃ x3 : Int, qz_fg [true, true, true, true] x.1 = [some (.inr (.inr (some (1, 0, 0)))), some (.inl (i3 x1)), some (.inl (i3 x2)), some (.inl (i3 x3))] ∧ x.2 = ([], zm Z ν) ∧ m = (5 - x3).toNat ∧ (-2147483648 ≤ x1 ∧ x1 ≤ 2147483647) ∧ (0 ≤ x2 ∧ x2 ≤ 5) ∧ (0 ≤ x3 ∧ x3 ≤ 5) ∧ zE T (zl_514_1 (m + 1) Z x1 x2 x3)) ?_ 65536 ((5 - x3).toNat) _ (by omega) ⟨x1, x2, x3, hL, rfl, rfl, gx1, gx2, gx3, hP⟩
  clear hP gx1 gx2 gx3 hL
  clear x1 x2 x3
  rintro m ⟨L, st, μ⟩ ⟨x1, x2, x3, hL, hx, hm, gx1, gx2, gx3, hP⟩
  cases hx
  refine fb_514_1 (i3 x1) (i3 x2) (i3 x3) _ _ _ _ hL ?_
  have r1 := zM_k hZ 1 0 0 24 (lo := 0) (hi := 5) (by decide) rfl
  refine wz_br (i3Le (zm_rd (Z := Z) (ν := ν) (k := 1) (show ((0 : Nat) : Int) = 0 from rfl) (show ((0 : Nat) : Int) = 0 from rfl) (show ((24 : Nat) : Int) = 24 from rfl)) (rfl : i3 x3 = i3 x3) (by omega) (by omega) (by omega) (by omega)) (fun h2 => ?_) (fun h2 => ?_)
  · replace hP := zE_p hP h2
    exact hk _ _ _ _ (zconso rfl (zconso (zvo (rfl : i3 x1 = i3 x1)) (zconso (zvo (rfl : i3 x2 = i3 x2)) (zconso rfl rfl))))  (by omega) (by omega) (by omega)  hP
  · replace hP := zE_n hP h2
    refine wz_i0 (i3O (n := 5) (rfl : i3 x3 = i3 x3) (by omega) (by omega) (by omega)) ?_
    have r3 := zM_k hZ 95 0 0 x3 (lo := 0) (hi := 4) (by decide) rfl
    refine wz_i0 (i3O (n := 4400) (i3A (i3A (show (3210 : Int32) = i3 3210 from rfl) (i3M (show (6 : Int32) = i3 6 from rfl) (rfl : i3 x2 = i3 x2))) (zm_rd (Z := Z) (ν := ν) (k := 95) (show ((0 : Nat) : Int) = 0 from rfl) (show ((0 : Nat) : Int) = 0 from rfl) (i3I (y := x3) (rfl : i3 x3 = i3 x3) (by omega) (by omega) (by omega)))) (by omega) (by omega) (by omega)) ?_
    refine wz_i0 (i3O (n := 5) (rfl : i3 x3 = i3 x3) (by omega) (by omega) (by omega)) ?_
    have r4 := zM_k hZ 2 0 0 (3210 + 6 * x2 + (Z 95 0 0 x3)) (lo := 0) (hi := 12) (by decide) (zs_3210 (by omega) (by omega))
    have r5 := w3_r (x1 + (Z 2 0 0 (3210 + 6 * x2 + (Z 95 0 0 x3))))
    obtain ⟨m2, rfl⟩ : ∃ m2, m = m2 + 1 := ⟨m - 1, by omega⟩
    exact wz_k1 ⟨m2, by omega, (w3 (x1 + (Z 2 0 0 (3210 + 6 * x2 + (Z 95 0 0 x3))))), (Z 95 0 0 x3), (x3 + 1), (zconso rfl (zconso (zvo (i3W (i3A (rfl : i3 x1 = i3 x1) (zm_rd (Z := Z) (ν := ν) (k := 2) (show ((0 : Nat) : Int) = 0 from rfl) (show ((0 : Nat) : Int) = 0 from rfl) (i3I (y := (3210 + 6 * x2 + (Z 95 0 0 x3))) (i3A (i3A (show (3210 : Int32) = i3 3210 from rfl) (i3M (show (6 : Int32) = i3 6 from rfl) (rfl : i3 x2 = i3 x2))) (zm_rd (Z := Z) (ν := ν) (k := 95) (show ((0 : Nat) : Int) = 0 from rfl) (show ((0 : Nat) : Int) = 0 from rfl) (i3I (y := x3) (rfl : i3 x3 = i3 x3) (by omega) (by omega) (by omega)))) (by omega) (by omega) (by omega)))))) (zconso (zvo (zm_rd (Z := Z) (ν := ν) (k := 95) (show ((0 : Nat) : Int) = 0 from rfl) (show ((0 : Nat) : Int) = 0 from rfl) (i3I (y := x3) (rfl : i3 x3 = i3 x3) (by omega) (by omega) (by omega)))) (zconso (zvo (i3A (rfl : i3 x3 = i3 x3) (show (1 : Int32) = i3 1 from rfl))) rfl)))), rfl,  by omega, by omega, by omega, by omega,  hP⟩
/- yX12_tHoursOfRow -/
def zf_514 (Z : qz_Z) : Int := (zlet3 (zl_514_1 6 Z 0 5 0) (fun y1 y2 y3 => (if (Z 1 0 0 24) ≠ 0 then (w3 (y1 + (Z 2 0 0 (3215 + 6 * y2)))) else 0)))
theorem sp_514 {s : zSM} {Z : qz_Z} {ν : qz_N} (hZ : zM s Z) (hM : s.2 + 0 ≤ 1000000000) : ∃ P : Int, P = zf_514 Z ∧ (qf_514 [.inr (.inr (some (1, 0, 0)))] (zm Z ν) = some (zm Z ν, .inl (some (.inl (i3 P)))) ∧ -2147483648 ≤ P ∧ P ≤ 2147483647) := by
  obtain ⟨P, hP⟩ := zx (zf_514 Z)
  refine zc_R (Q := fun P => -2147483648 ≤ P ∧ P ≤ 2147483647) hP (fw_514  _ _ ?_)
  replace hP : zE P (zf_514 Z) := hP
  unfold zf_514 at hP
  refine sl_514_1 (ν := ν) hZ (zbh (c := 0) (k := 0) hM (Nat.le_of_ble_eq_true rfl)) (x1 := 0) (by omega) (x2 := 5) (by omega) (x3 := 0) (by omega)  (zconso rfl (zconso (zvo (show (0 : Int32) = i3 0 from rfl)) (zconso (zvo (show (5 : Int32) = i3 5 from rfl)) (zconso (zvo (show (0 : Int32) = i3 0 from rfl)) rfl)))) rfl ?_
  intro L4 y1 y2 y3 hL4 gy1 gy2 gy3 q9
  replace hP := zl_e3 hP (Eq.symm q9)
  clear q9
  refine fc_514_2 (i3 y1) (i3 y2) _ _ _ _ hL4 ?_
  have r5 := zM_k hZ 1 0 0 24 (lo := 0) (hi := 5) (by decide) rfl
  refine wz_br (i3NE (zm_rd (Z := Z) (ν := ν) (k := 1) (show ((0 : Nat) : Int) = 0 from rfl) (show ((0 : Nat) : Int) = 0 from rfl) (show ((24 : Nat) : Int) = 24 from rfl)) (show (0 : Int32) = i3 0 from rfl) (by omega) (by omega) (by omega) (by omega)) (fun h6 => ?_) (fun h6 => ?_)
  · replace hP := zE_p hP h6
    refine wz_i0 (i3O (n := 4400) (i3A (i3A (show (3210 : Int32) = i3 3210 from rfl) (i3M (show (6 : Int32) = i3 6 from rfl) (rfl : i3 y2 = i3 y2))) (show (5 : Int32) = i3 5 from rfl)) (by omega) (by omega) (by omega)) ?_
    have r7 := zM_k hZ 2 0 0 (3215 + 6 * y2) (lo := 0) (hi := 12) (by decide) (zs_3210 (by omega) (by omega))
    have r8 := w3_r (y1 + (Z 2 0 0 (3215 + 6 * y2)))
    exact zlR hP (i3W (i3A (rfl : i3 y1 = i3 y1) (zm_rd (Z := Z) (ν := ν) (k := 2) (show ((0 : Nat) : Int) = 0 from rfl) (show ((0 : Nat) : Int) = 0 from rfl) (i3I (y := (3215 + 6 * y2)) (i3A (i3A (show (3210 : Int32) = i3 3210 from rfl) (i3M (show (6 : Int32) = i3 6 from rfl) (rfl : i3 y2 = i3 y2))) (show (5 : Int32) = i3 5 from rfl)) (by omega) (by omega) (by omega))))) ⟨by omega, by omega⟩
  · replace hP := zE_n hP h6
    exact zlR hP (show (0 : Int32) = i3 0 from rfl) ⟨by omega, by omega⟩
/- yX12_tNextRow -/
def zl_522_1 : Nat → qz_Z → Int → Int
  | 0, Z, x1 => x1
  | m + 1, Z, x1 => (if x1 < 0 then x1 else (if (Z 95 0 0 x1) ≤ (Z 95 0 0 (1 + x1)) then x1 else zl_522_1 m Z (x1 + (-1))))
theorem sl_522_1 {s : zSM} {Z : qz_Z} {ν : qz_N} (hZ : zM s Z) (hM : s.2 + 0 ≤ 1000000000) {x1 : Int} (gx1 : -2 ≤ x1 ∧ x1 ≤ 3) (gr0 : x1 + 2 ≤ Z 1 0 0 24) {k : wz_K} {R : wz_R} {L : qz_L} (hL : qz_fg [true, true, false, false, false, false] L = [some (.inr (.inr (some (1, 0, 0)))), some (.inl (i3 x1)), none, none, none, none]) {T : Int} (hP : zE T (zl_522_1 ((x1 - (-2)).toNat + 1) Z x1)) (hk : ∀ (L9 : qz_L) (yx1 : Int), qz_fg [true, true, false, false, false, false] L9 = [some (.inr (.inr (some (1, 0, 0)))), some (.inl (i3 yx1)), none, none, none, none] → (-2 ≤ yx1 ∧ yx1 ≤ 3) → (yx1 + 2 ≤ Z 1 0 0 24) → zE T (yx1) → k 0 (L9, [], zm Z ν)) : wz_loop qb_522_1 65536 k R (L, [], zm Z ν) := by
  refine wz_lp sb_522_1 (fun m x => ∃ x1 : Int, qz_fg [true, true, false, false, false, false] x.1 = [some (.inr (.inr (some (1, 0, 0)))), some (.inl (i3 x1)), none, none, none, none] ∧ x.2 = ([], zm Z ν) ∧ m = (x1 - (-2)).toNat ∧ (-2 ≤ x1 ∧ x1 ≤ 3) ∧ (x1 + 2 ≤ Z 1 0 0 24) ∧ zE T (zl_522_1 (m + 1) Z x1)) ?_ 65536 ((x1 - (-2)).toNat) _ (by omega) ⟨x1, hL, rfl, rfl, gx1, gr0, hP⟩
  clear hP gr0 gx1 hL
  clear x1
  rintro m ⟨L, st, μ⟩ ⟨x1, hL, hx, hm, gx1, gr0, hP⟩
  cases hx
  refine fb_522_1 (i3 x1) _ _ _ _ hL ?_
  have r1 := zM_k hZ 1 0 0 24 (lo := 0) (hi := 5) (by decide) rfl
  refine wz_br (i3L (rfl : i3 x1 = i3 x1) (show (0 : Int32) = i3 0 from rfl) (by omega) (by omega) (by omega) (by omega)) (fun h2 => ?_) (fun h2 => ?_)
  · replace hP := zE_p hP h2
    exact hk _ _ (zconso rfl (zconso (zvo (rfl : i3 x1 = i3 x1)) (zconso rfl (zconso rfl (zconso rfl (zconso rfl rfl))))))  (by omega) (by omega) hP
  · replace hP := zE_n hP h2
    refine wz_i0 (i3O (n := 5) (rfl : i3 x1 = i3 x1) (by omega) (by omega) (by omega)) ?_
    refine wz_i0 (i3O (n := 5) (i3A (rfl : i3 x1 = i3 x1) (show (1 : Int32) = i3 1 from rfl)) (by omega) (by omega) (by omega)) ?_
    have r3 := zM_k hZ 95 0 0 x1 (lo := 0) (hi := 4) (by decide) rfl
    have r4 := zM_k hZ 95 0 0 (1 + x1) (lo := 0) (hi := 4) (by decide) rfl
    refine wz_br (i3Le (zm_rd (Z := Z) (ν := ν) (k := 95) (show ((0 : Nat) : Int) = 0 from rfl) (show ((0 : Nat) : Int) = 0 from rfl) (i3I (y := x1) (rfl : i3 x1 = i3 x1) (by omega) (by omega) (by omega))) (zm_rd (Z := Z) (ν := ν) (k := 95) (show ((0 : Nat) : Int) = 0 from rfl) (show ((0 : Nat) : Int) = 0 from rfl) (i3I (y := (1 + x1)) (i3A (rfl : i3 x1 = i3 x1) (show (1 : Int32) = i3 1 from rfl)) (by omega) (by omega) (by omega))) (by omega) (by omega) (by omega) (by omega)) (fun h5 => ?_) (fun h5 => ?_)
    · replace hP := zE_p hP h5
      exact hk _ _ (zconso rfl (zconso (zvo (rfl : i3 x1 = i3 x1)) (zconso rfl (zconso rfl (zconso rfl (zconso rfl rfl))))))  (by omega) (by omega) hP
    · replace hP := zE_n hP h5
      obtain ⟨m2, rfl⟩ : ∃ m2, m = m2 + 1 := ⟨m - 1, by omega⟩
      exact wz_k1 ⟨m2, by omega, (x1 + (-1)), (zconso rfl (zconso (zvo (i3A (rfl : i3 x1 = i3 x1) (show (-1 : Int32) = i3 (-1) from rfl))) (zconso rfl (zconso rfl (zconso rfl (zconso rfl rfl)))))), rfl,  by omega, by omega, by omega,  hP⟩
/- yX12_tNextRow -/
def zl_522_2 (x1 : Int) : Nat → qz_Z → Int → Int
  | 0, Z, x2 => x2
  | m + 1, Z, x2 => (if (Z 95 0 0 x1) ≤ (Z 95 0 0 x2) then x2 else zl_522_2 x1 m Z (x2 + (-1)))
theorem sl_522_2 {s : zSM} {Z : qz_Z} {ν : qz_N} (hZ : zM s Z) (hM : s.2 + 0 ≤ 1000000000) {x1 : Int} (gx1 : 0 ≤ x1 ∧ x1 ≤ 3) {x2 : Int} (gx2 : 0 ≤ x2 ∧ x2 ≤ 4) (gr0 : x1 ≤ x2) {k : wz_K} {R : wz_R} {L : qz_L} (hL : qz_fg [true, true, true, false, false, false] L = [some (.inr (.inr (some (1, 0, 0)))), some (.inl (i3 x1)), some (.inl (i3 x2)), none, none, none]) {T : Int} (hP : zE T (zl_522_2 x1 ((x2 + 1).toNat + 1) Z x2)) (hk : ∀ (L9 : qz_L) (yx2 : Int), qz_fg [true, true, true, false, false, false] L9 = [some (.inr (.inr (some (1, 0, 0)))), some (.inl (i3 x1)), some (.inl (i3 yx2)), none, none, none] → (0 ≤ yx2 ∧ yx2 ≤ 4) → (x1 ≤ yx2) → zE T (yx2) → k 0 (L9, [], zm Z ν)) : wz_loop qb_522_2 65536 k R (L, [], zm Z ν) := by
  refine wz_lp sb_522_2 (fun m x => ∃ x2 : Int, qz_fg [true, true, true, false, false, false] x.1 = [some (.inr (.inr (some (1, 0, 0)))), some (.inl (i3 x1)), some (.inl (i3 x2)), none, none, none] ∧ x.2 = ([], zm Z ν) ∧ m = (x2 + 1).toNat ∧ (0 ≤ x2 ∧ x2 ≤ 4) ∧ (x1 ≤ x2) ∧ zE T (zl_522_2 x1 (m + 1) Z x2)) ?_ 65536 ((x2 + 1).toNat) _ (by omega) ⟨x2, hL, rfl, rfl, gx2, gr0, hP⟩
  clear hP gr0 gx2 hL
  clear x2
  rintro m ⟨L, st, μ⟩ ⟨x2, hL, hx, hm, gx2, gr0, hP⟩
  cases hx
  refine fb_522_2 (i3 x1) (i3 x2) _ _ _ _ hL ?_
  have r1 := (fun q => by rw [q] : x2 = x1 → Z 95 0 0 x2 = Z 95 0 0 x1)
  refine wz_i0 (i3O (n := 5) (rfl : i3 x2 = i3 x2) (by omega) (by omega) (by omega)) ?_
  refine wz_i0 (i3O (n := 5) (rfl : i3 x1 = i3 x1) (by omega) (by omega) (by omega)) ?_
  have r2 := zM_k hZ 95 0 0 x1 (lo := 0) (hi := 4) (by decide) rfl
  have r3 := zM_k hZ 95 0 0 x2 (lo := 0) (hi := 4) (by decide) rfl
  refine wz_br (i3Le (zm_rd (Z := Z) (ν := ν) (k := 95) (show ((0 : Nat) : Int) = 0 from rfl) (show ((0 : Nat) : Int) = 0 from rfl) (i3I (y := x1) (rfl : i3 x1 = i3 x1) (by omega) (by omega) (by omega))) (zm_rd (Z := Z) (ν := ν) (k := 95) (show ((0 : Nat) : Int) = 0 from rfl) (show ((0 : Nat) : Int) = 0 from rfl) (i3I (y := x2) (rfl : i3 x2 = i3 x2) (by omega) (by omega) (by omega))) (by omega) (by omega) (by omega) (by omega)) (fun h4 => ?_) (fun h4 => ?_)
  · replace hP := zE_p hP h4
    exact hk _ _ (zconso rfl (zconso (zvo (rfl : i3 x1 = i3 x1)) (zconso (zvo (rfl : i3 x2 = i3 x2)) (zconso rfl (zconso rfl (zconso rfl rfl))))))  (by omega) (by omega) hP
  · replace hP := zE_n hP h4
    obtain ⟨m2, rfl⟩ : ∃ m2, m = m2 + 1 := ⟨m - 1, by omega⟩
    exact wz_k1 ⟨m2, by omega, (x2 + (-1)), (zconso rfl (zconso (zvo (rfl : i3 x1 = i3 x1)) (zconso (zvo (i3A (rfl : i3 x2 = i3 x2) (show (-1 : Int32) = i3 (-1) from rfl))) (zconso rfl (zconso rfl (zconso rfl rfl)))))), rfl,  by omega, by omega, by omega,  hP⟩
/- yX12_tNextRow -/
def zl_522_3 : Nat → qz_Z → Int → Int → qz_Z × Int × Int
  | 0, Z, x4, x5 => (Z, x4, x5)
  | m + 1, Z, x4, x5 => (if x4 ≤ x5 then (Z, x4, x5) else (zlet (zu Z 95 0 0 x5 (Z 95 0 0 x4)) (fun Z3 => (zlet (zu Z3 95 0 0 x4 (Z 95 0 0 x5)) (fun Z5 => zl_522_3 m Z5 (x4 + (-1)) (x5 + 1))))))
theorem sl_522_3 {s : zSM} {Zs Z : qz_Z} {ν : qz_N} (hZ : zM s Z) (hM : s.2 + 0 ≤ 1000000000) (hK : zC [95] Zs Z) {x4 : Int} (gx4 : -1 ≤ x4 ∧ x4 ≤ 4) {x5 : Int} (gx5 : 0 ≤ x5 ∧ x5 ≤ 5) (hU : zU [] Zs Z) {k : wz_K} {R : wz_R} {L : qz_L} (hL : qz_fg [true, false, false, false, true, true] L = [some (.inr (.inr (some (1, 0, 0)))), none, none, none, some (.inl (i3 x4)), some (.inl (i3 x5))]) {T : qz_Z × Int × Int} (hP : zE T (zl_522_3 ((5 - x5).toNat + 1) Z x4 x5)) (hk : ∀ (L9 : qz_L) (Z9 : qz_Z) (yx4 yx5 : Int), qz_fg [false, false, false, false, false, false] L9 = [none, none, none, none, none, none] → zM s Z9 → zC [95] Zs Z9 → zU [] Zs Z9 → (-1 ≤ yx4 ∧ yx4 ≤ 4) → (0 ≤ yx5 ∧ yx5 ≤ 5) → zE T ((Z9, yx4, yx5)) → k 0 (L9, [], zm Z9 ν)) : wz_loop qb_522_3 65536 k R (L, [], zm Z ν) := by
  refine wz_lp sb_522_3 (fun m x => ∃ Z : qz_Z, ∃ x4 : Int, ∃ x5 : Int, qz_fg [true, false, false, false, true, true] x.1 = [some (.inr (.inr (some (1, 0, 0)))), none, none, none, some (.inl (i3 x4)), some (.inl (i3 x5))] ∧ x.2 = ([], zm Z ν) ∧ zM s Z ∧ zC [95] Zs Z ∧ zU [] Zs Z ∧ m = (5 - x5).toNat ∧ (-1 ≤ x4 ∧ x4 ≤ 4) ∧ (0 ≤ x5 ∧ x5 ≤ 5) ∧ zE T (zl_522_3 (m + 1) Z x4 x5)) ?_ 65536 ((5 - x5).toNat) _ (by omega) ⟨Z, x4, x5, hL, rfl, hZ, hK, hU, rfl, gx4, gx5, hP⟩
  clear hP gx4 gx5 hZ hK hU hL
  clear x4 x5
  clear Z
  rintro m ⟨L, st, μ⟩ ⟨Z, x4, x5, hL, hx, hZ, hK, hU, hm, gx4, gx5, hP⟩
  cases hx
  refine fb_522_3 (i3 x4) (i3 x5) _ _ _ _ hL ?_
  refine wz_br (i3Le (rfl : i3 x4 = i3 x4) (rfl : i3 x5 = i3 x5) (by omega) (by omega) (by omega) (by omega)) (fun h1 => ?_) (fun h1 => ?_)
  · replace hP := zE_p hP h1
    exact hk _ _ _ _ (zconso rfl (zconso rfl (zconso rfl (zconso rfl (zconso rfl (zconso rfl rfl)))))) hZ hK hU (by omega) (by omega)  hP
  · replace hP := zE_n hP h1
    refine wz_i0 (i3O (n := 5) (rfl : i3 x5 = i3 x5) (by omega) (by omega) (by omega)) ?_
    refine wz_i0 (i3O (n := 5) (rfl : i3 x4 = i3 x4) (by omega) (by omega) (by omega)) ?_
    refine wz_i0 (i3O (n := 5) (rfl : i3 x5 = i3 x5) (by omega) (by omega) (by omega)) ?_
    have r2 := zM_k hZ 95 0 0 x4 (lo := 0) (hi := 4) (by decide) rfl
    obtain ⟨Z3, hZ3⟩ := zx (zu Z 95 0 0 x5 (Z 95 0 0 x4))
    replace hP := zl_e hP hZ3
    have hZ3I := zM_u hZ hZ3 (lo := 0) (hi := 4) (by decide) rfl (by omega) ⟨by decide, by decide⟩ (Or.inl (by decide)) rfl
    have hZ3U : zU [] Zs Z3 := zU_u hU hZ3 (Or.inl rfl)
    have hZ3K : zC [95] Zs Z3 := zC_u hK hZ3 rfl
    intro μ9 e9
    replace e9 := e9.trans (zm_wI (Z := Z) (ν := ν) hZ3 (show ((0 : Nat) : Int) = 0 from rfl) (show ((0 : Nat) : Int) = 0 from rfl) (i3I (y := x5) (rfl : i3 x5 = i3 x5) (by omega) (by omega) (by omega)) (zm_rd (Z := Z) (ν := ν) (k := 95) (show ((0 : Nat) : Int) = 0 from rfl) (show ((0 : Nat) : Int) = 0 from rfl) (i3I (y := x4) (rfl : i3 x4 = i3 x4) (by omega) (by omega) (by omega))))
    subst e9
    refine wz_i0 (i3O (n := 5) (rfl : i3 x4 = i3 x4) (by omega) (by omega) (by omega)) ?_
    have r4 := zM_k hZ 95 0 0 x5 (lo := 0) (hi := 4) (by decide) rfl
    obtain ⟨Z5, hZ5⟩ := zx (zu Z3 95 0 0 x4 (Z 95 0 0 x5))
    replace hP := zl_e hP hZ5
    have hZ5I := zM_u hZ3I hZ5 (lo := 0) (hi := 4) (by decide) rfl (by omega) ⟨by decide, by decide⟩ (Or.inl (by decide)) rfl
    have hZ5U : zU [] Zs Z5 := zU_u hZ3U hZ5 (Or.inl rfl)
    have hZ5K : zC [95] Zs Z5 := zC_u hZ3K hZ5 rfl
    intro μ9 e9
    replace e9 := e9.trans (zm_wI (Z := Z3) (ν := ν) hZ5 (show ((0 : Nat) : Int) = 0 from rfl) (show ((0 : Nat) : Int) = 0 from rfl) (i3I (y := x4) (rfl : i3 x4 = i3 x4) (by omega) (by omega) (by omega)) (zm_rd (Z := Z) (ν := ν) (k := 95) (show ((0 : Nat) : Int) = 0 from rfl) (show ((0 : Nat) : Int) = 0 from rfl) (i3I (y := x5) (rfl : i3 x5 = i3 x5) (by omega) (by omega) (by omega))))
    subst e9
    obtain ⟨m2, rfl⟩ : ∃ m2, m = m2 + 1 := ⟨m - 1, by omega⟩
    exact wz_k1 ⟨m2, by omega, Z5, (x4 + (-1)), (x5 + 1), (zconso rfl (zconso rfl (zconso rfl (zconso rfl (zconso (zvo (i3A (rfl : i3 x4 = i3 x4) (show (-1 : Int32) = i3 (-1) from rfl))) (zconso (zvo (i3A (rfl : i3 x5 = i3 x5) (show (1 : Int32) = i3 1 from rfl))) rfl)))))), rfl, hZ5I, hZ5K, hZ5U, by omega, by omega, by omega,  hP⟩
/- yX12_tNextRow -/
def zf_522 (Z : qz_Z) : qz_Z × Int := (zlet (zl_522_1 ((((Z 1 0 0 24) - 2) - (-2)).toNat + 1) Z ((Z 1 0 0 24) - 2)) (fun y2 => (if 0 ≤ y2 then (zlet (zl_522_2 y2 ((((Z 1 0 0 24) - 1) + 1).toNat + 1) Z ((Z 1 0 0 24) - 1)) (fun y5 => (zlet (zu Z 95 0 0 y2 (Z 95 0 0 y5)) (fun Z8 => (zlet (zu Z8 95 0 0 y5 (Z 95 0 0 y2)) (fun Z10 => (zlet3 (zl_522_3 ((5 - (y2 + 1)).toNat + 1) Z10 ((Z10 1 0 0 24) - 1) (y2 + 1)) (fun Z15 y13 y14 => (Z15, 1))))))))) else (Z, 0))))
theorem sp_522 {s : zSM} {Z : qz_Z} {ν : qz_N} (hZ : zM s Z) (hM : s.2 + 0 ≤ 1000000000) : ∃ (Z1 : qz_Z) (P : Int), (Z1, P) = zf_522 Z ∧ (qf_522 [.inr (.inr (some (1, 0, 0)))] (zm Z ν) = some (zm Z1 ν, .inl (some (.inl (i3 P)))) ∧ zM s Z1 ∧ zC [95] Z Z1 ∧ zU [] Z Z1 ∧ 0 ≤ P ∧ P ≤ 1) := by
  obtain ⟨P, hP⟩ := zx (zf_522 Z)
  refine zc_W (Q := fun Z1 P => zM s Z1 ∧ zC [95] Z Z1 ∧ zU [] Z Z1 ∧ 0 ≤ P ∧ P ≤ 1) hP (fw_522  _ _ ?_)
  replace hP : zE P (zf_522 Z) := hP
  unfold zf_522 at hP
  have r1 := zM_k hZ 1 0 0 24 (lo := 0) (hi := 5) (by decide) rfl
  refine sl_522_1 (ν := ν) hZ (zbh (c := 0) (k := 0) hM (Nat.le_of_ble_eq_true rfl)) (x1 := ((Z 1 0 0 24) - 2)) (by omega) (by omega) (zconso rfl (zconso (zvo (i3S (zm_rd (Z := Z) (ν := ν) (k := 1) (show ((0 : Nat) : Int) = 0 from rfl) (show ((0 : Nat) : Int) = 0 from rfl) (show ((24 : Nat) : Int) = 24 from rfl)) (show (2 : Int32) = i3 2 from rfl))) (zconso rfl (zconso rfl (zconso rfl (zconso rfl rfl)))))) rfl ?_
  intro L3 y2 hL3 gy2 gL3_0 q9
  replace hP := zl_e hP (Eq.symm q9)
  clear q9
  refine fc_522_6 (i3 y2) _ _ _ _ hL3 ?_
  refine wz_br (i3Le (show (0 : Int32) = i3 0 from rfl) (rfl : i3 y2 = i3 y2) (by omega) (by omega) (by omega) (by omega)) (fun h4 => ?_) (fun h4 => ?_)
  · replace hP := zE_p hP h4
    refine sl_522_2 (ν := ν) hZ (zbh (c := 0) (k := 0) hM (Nat.le_of_ble_eq_true rfl)) (x1 := y2) (by omega) (x2 := ((Z 1 0 0 24) - 1)) (by omega) (by omega) (zconso rfl (zconso (zvo (rfl : i3 y2 = i3 y2)) (zconso (zvo (i3S (zm_rd (Z := Z) (ν := ν) (k := 1) (show ((0 : Nat) : Int) = 0 from rfl) (show ((0 : Nat) : Int) = 0 from rfl) (show ((24 : Nat) : Int) = 24 from rfl)) (show (1 : Int32) = i3 1 from rfl))) (zconso rfl (zconso rfl (zconso rfl rfl)))))) rfl ?_
    intro L6 y5 hL6 gy5 gL6_0 q9
    replace hP := zl_e hP (Eq.symm q9)
    clear q9
    refine fc_522_5 (i3 y2) (i3 y5) _ _ _ _ hL6 ?_
    refine wz_i0 (i3O (n := 5) (rfl : i3 y2 = i3 y2) (by omega) (by omega) (by omega)) ?_
    refine wz_i0 (i3O (n := 5) (rfl : i3 y5 = i3 y5) (by omega) (by omega) (by omega)) ?_
    refine wz_i0 (i3O (n := 5) (rfl : i3 y2 = i3 y2) (by omega) (by omega) (by omega)) ?_
    have r7 := zM_k hZ 95 0 0 y5 (lo := 0) (hi := 4) (by decide) rfl
    obtain ⟨Z8, hZ8⟩ := zx (zu Z 95 0 0 y2 (Z 95 0 0 y5))
    replace hP := zl_e hP hZ8
    have hZ8I := zM_u hZ hZ8 (lo := 0) (hi := 4) (by decide) rfl (by omega) ⟨by decide, by decide⟩ (Or.inl (by decide)) rfl
    have hZ8U : zU [] Z Z8 := zU_u zU_r hZ8 (Or.inl rfl)
    have hZ8K : zC [95] Z Z8 := zC_u zC_r hZ8 rfl
    intro μ9 e9
    replace e9 := e9.trans (zm_wI (Z := Z) (ν := ν) hZ8 (show ((0 : Nat) : Int) = 0 from rfl) (show ((0 : Nat) : Int) = 0 from rfl) (i3I (y := y2) (rfl : i3 y2 = i3 y2) (by omega) (by omega) (by omega)) (zm_rd (Z := Z) (ν := ν) (k := 95) (show ((0 : Nat) : Int) = 0 from rfl) (show ((0 : Nat) : Int) = 0 from rfl) (i3I (y := y5) (rfl : i3 y5 = i3 y5) (by omega) (by omega) (by omega))))
    subst e9
    refine wz_i0 (i3O (n := 5) (rfl : i3 y5 = i3 y5) (by omega) (by omega) (by omega)) ?_
    have r9 := zM_k hZ 95 0 0 y2 (lo := 0) (hi := 4) (by decide) rfl
    obtain ⟨Z10, hZ10⟩ := zx (zu Z8 95 0 0 y5 (Z 95 0 0 y2))
    replace hP := zl_e hP hZ10
    have hZ10I := zM_u hZ8I hZ10 (lo := 0) (hi := 4) (by decide) rfl (by omega) ⟨by decide, by decide⟩ (Or.inl (by decide)) rfl
    have hZ10U : zU [] Z Z10 := zU_u hZ8U hZ10 (Or.inl rfl)
    have hZ10K : zC [95] Z Z10 := zC_u hZ8K hZ10 rfl
    intro μ9 e9
    replace e9 := e9.trans (zm_wI (Z := Z8) (ν := ν) hZ10 (show ((0 : Nat) : Int) = 0 from rfl) (show ((0 : Nat) : Int) = 0 from rfl) (i3I (y := y5) (rfl : i3 y5 = i3 y5) (by omega) (by omega) (by omega)) (zm_rd (Z := Z) (ν := ν) (k := 95) (show ((0 : Nat) : Int) = 0 from rfl) (show ((0 : Nat) : Int) = 0 from rfl) (i3I (y := y2) (rfl : i3 y2 = i3 y2) (by omega) (by omega) (by omega))))
    subst e9
    have r11 := zM_k hZ10I 1 0 0 24 (lo := 0) (hi := 5) (by decide) rfl
    have q12 := (zu_ne (k' := 1) (b' := 0) (i' := 0) (j' := 24) hZ10 (fun q => absurd q.1 (by decide))).trans (zu_ne (k' := 1) (b' := 0) (i' := 0) (j' := 24) hZ8 (fun q => absurd q.1 (by decide)))
    refine sl_522_3 (ν := ν) hZ10I (zbh (c := 0) (k := 0) hM (Nat.le_of_ble_eq_true rfl)) zC_r (x4 := ((Z10 1 0 0 24) - 1)) (by omega) (x5 := (y2 + 1)) (by omega) zU_r  (zconso rfl (zconso rfl (zconso rfl (zconso rfl (zconso (zvo (i3S (zm_rd (Z := Z10) (ν := ν) (k := 1) (show ((0 : Nat) : Int) = 0 from rfl) (show ((0 : Nat) : Int) = 0 from rfl) (show ((24 : Nat) : Int) = 24 from rfl)) (show (1 : Int32) = i3 1 from rfl))) (zconso (zvo (i3A (rfl : i3 y2 = i3 y2) (show (1 : Int32) = i3 1 from rfl))) rfl)))))) rfl ?_
    intro L16 Z15 y13 y14 hL16 hZ15I kZ15 jZ15 gy13 gy14 q9
    replace hP := zl_e3 hP (Eq.symm q9)
    clear q9
    have hZ15U : zU [] Z Z15 := zU_t hZ10U jZ15 zU_b0
    have hZ15K : zC [95] Z Z15 := zC_t hZ10K kZ15 (by decide)
    refine fc_522_4  _ _ _ _ hL16 ?_
    exact zlW hP (show (1 : Int32) = i3 1 from rfl) ⟨hZ15I, hZ15K, hZ15U, by omega, by omega⟩
  · replace hP := zE_n hP h4
    exact zlW hP (show (0 : Int32) = i3 0 from rfl) ⟨hZ, zC_r, zU_r, by omega, by omega⟩
/- yX12_tFindTrip -/
def zl_511_1 (x1 : Int) : Nat → qz_Z → Int → qz_Z × Int
  | 0, Z, x2 => (Z, x2)
  | m + 1, Z, x2 => (if 5 ≤ x2 then (Z, x2) else (if (z2 (fun x y => x &&& y) (z2 (fun x y => x >>> (y &&& 31)) x1 x2) 1) ≠ 1 then zl_511_1 x1 m Z (x2 + 1) else (zlet (zu Z 95 0 0 (Z 1 0 0 24) x2) (fun Z7 => (zlet (zu Z7 1 0 0 24 ((Z7 1 0 0 24) + 1)) (fun Z10 => zl_511_1 x1 m Z10 (x2 + 1)))))))
theorem sl_511_1 {s : zSM} {Zs Z : qz_Z} {ν : qz_N} (hZ : zM s Z) (hM : s.2 + 0 ≤ 1000000000) (hK : zC [1, 95] Zs Z) {x1 : Int} (gx1 : 0 ≤ x1 ∧ x1 ≤ 31) {x2 : Int} (gx2 : 0 ≤ x2 ∧ x2 ≤ 5) (hU : zU [] Zs Z) (gr0 : Z 1 0 0 24 ≤ x2) {k : wz_K} {R : wz_R} {L : qz_L} (hL : qz_fg [true, true, true, false, false] L = [some (.inr (.inr (some (1, 0, 0)))), some (.inl (i3 x1)), some (.inl (i3 x2)), none, none]) {T : qz_Z × Int} (hP : zE T (zl_511_1 x1 ((5 - x2).toNat + 1) Z x2)) (hk : ∀ (L9 : qz_L) (Z9 : qz_Z) (yx2 : Int), qz_fg [true, false, false, false, false] L9 = [some (.inr (.inr (some (1, 0, 0)))), none, none, none, none] → zM s Z9 → zC [1, 95] Zs Z9 → zU [] Zs Z9 → (0 ≤ yx2 ∧ yx2 ≤ 5) → (Z9 1 0 0 24 ≤ yx2) → zE T ((Z9, yx2)) → k 0 (L9, [], zm Z9 ν)) : wz_loop qb_511_1 65536 k R (L, [], zm Z ν) := by
  refine wz_lp sb_511_1 (fun m x => ∃ Z : qz_Z, ∃ x2 : Int, qz_fg [true, true, true, false, false] x.1 = [some (.inr (.inr (some (1, 0, 0)))), some (.inl (i3 x1)), some (.inl (i3 x2)), none, none] ∧ x.2 = ([], zm Z ν) ∧ zM s Z ∧ zC [1, 95] Zs Z ∧ zU [] Zs Z ∧ m = (5 - x2).toNat ∧ (0 ≤ x2 ∧ x2 ≤ 5) ∧ (Z 1 0 0 24 ≤ x2) ∧ zE T (zl_511_1 x1 (m + 1) Z x2)) ?_ 65536 ((5 - x2).toNat) _ (by omega) ⟨Z, x2, hL, rfl, hZ, hK, hU, rfl, gx2, gr0, hP⟩
  clear hP gr0 gx2 hZ hK hU hL
  clear x2
  clear Z
  rintro m ⟨L, st, μ⟩ ⟨Z, x2, hL, hx, hZ, hK, hU, hm, gx2, gr0, hP⟩
  cases hx
  refine fb_511_1 (i3 x1) (i3 x2) _ _ _ _ hL ?_
  have r1 := zM_k hZ 1 0 0 24 (lo := 0) (hi := 5) (by decide) rfl
  refine wz_br (i3Le (show (5 : Int32) = i3 5 from rfl) (rfl : i3 x2 = i3 x2) (by omega) (by omega) (by omega) (by omega)) (fun h2 => ?_) (fun h2 => ?_)
  · replace hP := zE_p hP h2
    exact hk _ _ _ (zconso rfl (zconso rfl (zconso rfl (zconso rfl (zconso rfl rfl))))) hZ hK hU (by omega) (by omega) hP
  · replace hP := zE_n hP h2
    have r3 := z2_r (fun x y => x >>> (y &&& 31)) x1 x2
    have r4 := z2_r (fun x y => x &&& y) (z2 (fun x y => x >>> (y &&& 31)) x1 x2) 1
    have r5 := z2_and (z2 (fun x y => x >>> (y &&& 31)) x1 x2) (y := 1) (by omega) (by omega)
    refine wz_br (i3NE (i3Z (fun x y => x &&& y) (i3Z (fun x y => x >>> (y &&& 31)) (rfl : i3 x1 = i3 x1) (rfl : i3 x2 = i3 x2)) (show (1 : Int32) = i3 1 from rfl)) (show (1 : Int32) = i3 1 from rfl) (by omega) (by omega) (by omega) (by omega)) (fun h6 => ?_) (fun h6 => ?_)
    · replace hP := zE_p hP h6
      obtain ⟨m2, rfl⟩ : ∃ m2, m = m2 + 1 := ⟨m - 1, by omega⟩
      exact wz_k1 ⟨m2, by omega, Z, (x2 + 1), (zconso rfl (zconso (zvo (rfl : i3 x1 = i3 x1)) (zconso (zvo (i3A (rfl : i3 x2 = i3 x2) (show (1 : Int32) = i3 1 from rfl))) (zconso rfl (zconso rfl rfl))))), rfl, hZ, hK, hU, by omega, by omega, by omega,  hP⟩
    · replace hP := zE_n hP h6
      refine wz_i0 (i3O (n := 5) (zm_rd (Z := Z) (ν := ν) (k := 1) (show ((0 : Nat) : Int) = 0 from rfl) (show ((0 : Nat) : Int) = 0 from rfl) (show ((24 : Nat) : Int) = 24 from rfl)) (by omega) (by omega) (by omega)) ?_
      obtain ⟨Z7, hZ7⟩ := zx (zu Z 95 0 0 (Z 1 0 0 24) x2)
      replace hP := zl_e hP hZ7
      have hZ7I := zM_u hZ hZ7 (lo := 0) (hi := 4) (by decide) rfl (by omega) ⟨by decide, by decide⟩ (Or.inl (by decide)) rfl
      have hZ7U : zU [] Zs Z7 := zU_u hU hZ7 (Or.inl rfl)
      have hZ7K : zC [1, 95] Zs Z7 := zC_u hK hZ7 rfl
      intro μ9 e9
      replace e9 := e9.trans (zm_wI (Z := Z) (ν := ν) hZ7 (show ((0 : Nat) : Int) = 0 from rfl) (show ((0 : Nat) : Int) = 0 from rfl) (i3I (y := (Z 1 0 0 24)) (zm_rd (Z := Z) (ν := ν) (k := 1) (show ((0 : Nat) : Int) = 0 from rfl) (show ((0 : Nat) : Int) = 0 from rfl) (show ((24 : Nat) : Int) = 24 from rfl)) (by omega) (by omega) (by omega)) (rfl : i3 x2 = i3 x2))
      subst e9
      have r8 := zM_k hZ7I 1 0 0 24 (lo := 0) (hi := 5) (by decide) rfl
      have q9 := zu_ne (k' := 1) (b' := 0) (i' := 0) (j' := 24) hZ7 (fun q => absurd q.1 (by decide))
      obtain ⟨Z10, hZ10⟩ := zx (zu Z7 1 0 0 24 ((Z7 1 0 0 24) + 1))
      replace hP := zl_e hP hZ10
      have hZ10I := zM_u hZ7I hZ10 (lo := 0) (hi := 5) (by decide) rfl (by omega) ⟨by decide, by decide⟩ (Or.inr (by decide)) rfl
      have hZ10U : zU [] Zs Z10 := zU_u hZ7U hZ10 (Or.inl rfl)
      have hZ10K : zC [1, 95] Zs Z10 := zC_u hZ7K hZ10 (by decide)
      intro μ9 e9
      replace e9 := e9.trans (zm_wI (Z := Z7) (ν := ν) hZ10 (show ((0 : Nat) : Int) = 0 from rfl) (show ((0 : Nat) : Int) = 0 from rfl) (show ((24 : Nat) : Int) = 24 from rfl) (i3A (zm_rd (Z := Z7) (ν := ν) (k := 1) (show ((0 : Nat) : Int) = 0 from rfl) (show ((0 : Nat) : Int) = 0 from rfl) (show ((24 : Nat) : Int) = 24 from rfl)) (show (1 : Int32) = i3 1 from rfl)))
      subst e9
      have r11 := zM_k hZ10I 1 0 0 24 (lo := 0) (hi := 5) (by decide) rfl
      have q12 := zu_at hZ10
      obtain ⟨m2, rfl⟩ : ∃ m2, m = m2 + 1 := ⟨m - 1, by omega⟩
      exact wz_k1 ⟨m2, by omega, Z10, (x2 + 1), (zconso rfl (zconso (zvo (rfl : i3 x1 = i3 x1)) (zconso (zvo (i3A (rfl : i3 x2 = i3 x2) (show (1 : Int32) = i3 1 from rfl))) (zconso rfl (zconso rfl rfl))))), rfl, hZ10I, hZ10K, hZ10U, by omega, by omega, by omega,  hP⟩
/- yX12_tFindTrip -/
def zl_511_2 : Nat → qz_Z → Int → qz_Z × Int
  | 0, Z, x4 => (Z, x4)
  | m + 1, Z, x4 => (if (Z 1 0 0 24) ≤ x4 then (Z, x4) else (zlet (zu Z 96 0 0 x4 (Z 95 0 0 x4)) (fun Z4 => zl_511_2 m Z4 (x4 + 1))))
theorem sl_511_2 {s : zSM} {Zs Z : qz_Z} {ν : qz_N} (hZ : zM s Z) (hM : s.2 + 0 ≤ 1000000000) (hK : zC [96] Zs Z) {x4 : Int} (gx4 : 0 ≤ x4 ∧ x4 ≤ 5) (hU : zU [] Zs Z) {k : wz_K} {R : wz_R} {L : qz_L} (hL : qz_fg [true, false, false, false, true] L = [some (.inr (.inr (some (1, 0, 0)))), none, none, none, some (.inl (i3 x4))]) {T : qz_Z × Int} (hP : zE T (zl_511_2 ((5 - x4).toNat + 1) Z x4)) (hk : ∀ (L9 : qz_L) (Z9 : qz_Z) (yx4 : Int), qz_fg [true, false, false, false, false] L9 = [some (.inr (.inr (some (1, 0, 0)))), none, none, none, none] → zM s Z9 → zC [96] Zs Z9 → zU [] Zs Z9 → (0 ≤ yx4 ∧ yx4 ≤ 5) → zE T ((Z9, yx4)) → k 1 (L9, [], zm Z9 ν)) : wz_loop qb_511_2 65536 k R (L, [], zm Z ν) := by
  refine wz_lp sb_511_2 (fun m x => ∃ Z : qz_Z, ∃ x4 : Int, qz_fg [true, false, false, false, true] x.1 = [some (.inr (.inr (some (1, 0, 0)))), none, none, none, some (.inl (i3 x4))] ∧ x.2 = ([], zm Z ν) ∧ zM s Z ∧ zC [96] Zs Z ∧ zU [] Zs Z ∧ m = (5 - x4).toNat ∧ (0 ≤ x4 ∧ x4 ≤ 5) ∧ zE T (zl_511_2 (m + 1) Z x4)) ?_ 65536 ((5 - x4).toNat) _ (by omega) ⟨Z, x4, hL, rfl, hZ, hK, hU, rfl, gx4, hP⟩
  clear hP gx4 hZ hK hU hL
  clear x4
  clear Z
  rintro m ⟨L, st, μ⟩ ⟨Z, x4, hL, hx, hZ, hK, hU, hm, gx4, hP⟩
  cases hx
  refine fb_511_2 (i3 x4) _ _ _ _ hL ?_
  have r1 := zM_k hZ 1 0 0 24 (lo := 0) (hi := 5) (by decide) rfl
  refine wz_br (i3Le (zm_rd (Z := Z) (ν := ν) (k := 1) (show ((0 : Nat) : Int) = 0 from rfl) (show ((0 : Nat) : Int) = 0 from rfl) (show ((24 : Nat) : Int) = 24 from rfl)) (rfl : i3 x4 = i3 x4) (by omega) (by omega) (by omega) (by omega)) (fun h2 => ?_) (fun h2 => ?_)
  · replace hP := zE_p hP h2
    exact hk _ _ _ (zconso rfl (zconso rfl (zconso rfl (zconso rfl (zconso rfl rfl))))) hZ hK hU (by omega)  hP
  · replace hP := zE_n hP h2
    refine wz_i0 (i3O (n := 5) (rfl : i3 x4 = i3 x4) (by omega) (by omega) (by omega)) ?_
    refine wz_i0 (i3O (n := 5) (rfl : i3 x4 = i3 x4) (by omega) (by omega) (by omega)) ?_
    have r3 := zM_k hZ 95 0 0 x4 (lo := 0) (hi := 4) (by decide) rfl
    obtain ⟨Z4, hZ4⟩ := zx (zu Z 96 0 0 x4 (Z 95 0 0 x4))
    replace hP := zl_e hP hZ4
    have hZ4I := zM_u hZ hZ4 (lo := 0) (hi := 4) (by decide) rfl (by omega) ⟨by decide, by decide⟩ (Or.inl (by decide)) rfl
    have hZ4U : zU [] Zs Z4 := zU_u hU hZ4 (Or.inl rfl)
    have hZ4K : zC [96] Zs Z4 := zC_u hK hZ4 rfl
    intro μ9 e9
    replace e9 := e9.trans (zm_wI (Z := Z) (ν := ν) hZ4 (show ((0 : Nat) : Int) = 0 from rfl) (show ((0 : Nat) : Int) = 0 from rfl) (i3I (y := x4) (rfl : i3 x4 = i3 x4) (by omega) (by omega) (by omega)) (zm_rd (Z := Z) (ν := ν) (k := 95) (show ((0 : Nat) : Int) = 0 from rfl) (show ((0 : Nat) : Int) = 0 from rfl) (i3I (y := x4) (rfl : i3 x4 = i3 x4) (by omega) (by omega) (by omega))))
    subst e9
    obtain ⟨m2, rfl⟩ : ∃ m2, m = m2 + 1 := ⟨m - 1, by omega⟩
    exact wz_k1 ⟨m2, by omega, Z4, (x4 + 1), (zconso rfl (zconso rfl (zconso rfl (zconso rfl (zconso (zvo (i3A (rfl : i3 x4 = i3 x4) (show (1 : Int32) = i3 1 from rfl))) rfl))))), rfl, hZ4I, hZ4K, hZ4U, by omega, by omega,  hP⟩
/- yX12_tFindTrip -/
def zl_511_4 : Nat → qz_Z → Int → qz_Z × Int
  | 0, Z, x2 => (Z, x2)
  | m + 1, Z, x2 => (if x2 = 0 then (Z, x2) else (zlet (zf_514 Z) (fun v7 => (if (Z 1 0 0 25) = (-1) then (zlet (zu Z 1 0 0 25 v7) (fun Z10 => (zlet2 (zl_511_2 6 Z10 0) (fun Z12 y11 => (zlet2 (zf_522 Z12) (fun Z14 v15 => zl_511_4 m Z14 v15)))))) else (if (Z 1 0 0 25) ≤ v7 then (zlet2 (zf_522 Z) (fun Z22 v23 => zl_511_4 m Z22 v23)) else (zlet (zu Z 1 0 0 25 v7) (fun Z29 => (zlet2 (zl_511_2 6 Z29 0) (fun Z31 y30 => (zlet2 (zf_522 Z31) (fun Z33 v34 => zl_511_4 m Z33 v34)))))))))))
theorem sl_511_4 {s : zSM} {Zs Z : qz_Z} {ν : qz_N} (hZ : zM s Z) (hM : s.2 + 0 ≤ 1000000000) (hK : zC [1, 95, 96] Zs Z) {x2 : Int} (gx2 : 0 ≤ x2 ∧ x2 ≤ 1) (hU : zU [] Zs Z) (gm9 : (3125 - (625 * Z 95 0 0 0 + 125 * Z 95 0 0 1 + 25 * Z 95 0 0 2 + 5 * Z 95 0 0 3 + Z 95 0 0 4)).toNat ≤ 3125) {k : wz_K} {R : wz_R} {L : qz_L} (hL : qz_fg [true, false, true, false, false] L = [some (.inr (.inr (some (1, 0, 0)))), none, some (.inl (i3 x2)), none, none]) {T : qz_Z × Int} (hP : zE T (zl_511_4 (3125 + 1) Z x2)) (hk : ∀ (L9 : qz_L) (Z9 : qz_Z) (yx2 : Int), qz_fg [false, false, false, false, false] L9 = [none, none, none, none, none] → zM s Z9 → zC [1, 95, 96] Zs Z9 → zU [] Zs Z9 → (0 ≤ yx2 ∧ yx2 ≤ 1) → zE T ((Z9, yx2)) → k 0 (L9, [], zm Z9 ν)) : wz_loop qb_511_4 65536 k R (L, [], zm Z ν) := by
  sorry
/- yX12_tFindTrip -/
def zf_511 (Z : qz_Z) (a1 : Int) : qz_Z := (zlet (zu Z 1 0 0 24 0) (fun Z1 => (zlet2 (zl_511_1 a1 6 Z1 0) (fun Z3 y2 => (zlet (zu Z3 1 0 0 25 (-1)) (fun Z7 => (zlet2 (zl_511_4 3126 Z7 1) (fun Z9 y8 => Z9))))))))
theorem sp_511 {s : zSM} {Z : qz_Z} {ν : qz_N} (hZ : zM s Z) {a1 : Int} (ga1 : 0 ≤ a1 ∧ a1 ≤ 31) (hM : s.2 + 0 ≤ 1000000000) : ∃ P : qz_Z, P = zf_511 Z a1 ∧ (qf_511 [.inr (.inr (some (1, 0, 0))), .inl (i3 a1)] (zm Z ν) = some (zm P ν, .inl none) ∧ zM s P ∧ zC [1, 95, 96] Z P ∧ zU [] Z P) := by
  obtain ⟨P, hP⟩ := zx (zf_511 Z a1)
  refine zc_V (Q := fun P => zM s P ∧ zC [1, 95, 96] Z P ∧ zU [] Z P) hP (fw_511 (i3 a1) _ _ ?_)
  replace hP : zE P (zf_511 Z a1) := hP
  unfold zf_511 at hP
  obtain ⟨Z1, hZ1⟩ := zx (zu Z 1 0 0 24 0)
  replace hP := zl_e hP hZ1
  have hZ1I := zM_0 hZ hZ1 (by decide) (Or.inr (by decide))
  have hZ1U : zU [] Z Z1 := zU_u zU_r hZ1 (Or.inl rfl)
  have hZ1K : zC [1, 95, 96] Z Z1 := zC_u zC_r hZ1 (by decide)
  intro μ9 e9
  replace e9 := e9.trans (zm_wI (Z := Z) (ν := ν) hZ1 (show ((0 : Nat) : Int) = 0 from rfl) (show ((0 : Nat) : Int) = 0 from rfl) (show ((24 : Nat) : Int) = 24 from rfl) (show (0 : Int32) = i3 0 from rfl))
  subst e9
  have r4 := zM_k hZ1I 1 0 0 24 (lo := 0) (hi := 5) (by decide) rfl
  have q5 := zu_at hZ1
  refine sl_511_1 (ν := ν) hZ1I (zbh (c := 0) (k := 0) hM (Nat.le_of_ble_eq_true rfl)) zC_r (x1 := a1) (by omega) (x2 := 0) (by omega) zU_r (by omega) (zconso rfl (zconso (zvo (rfl : i3 a1 = i3 a1)) (zconso (zvo (show (0 : Int32) = i3 0 from rfl)) (zconso rfl (zconso rfl rfl))))) rfl ?_
  intro L6 Z3 y2 hL6 hZ3I kZ3 jZ3 gy2 gL6_0 q9
  replace hP := zl_e2 hP (Eq.symm q9)
  clear q9
  have hZ3U : zU [] Z Z3 := zU_t hZ1U jZ3 zU_b0
  have hZ3K : zC [1, 95, 96] Z Z3 := zC_t hZ1K kZ3 (by decide)
  refine fc_511_6  _ _ _ _ hL6 ?_
  obtain ⟨Z7, hZ7⟩ := zx (zu Z3 1 0 0 25 (-1))
  replace hP := zl_e hP hZ7
  have hZ7I := zM_u hZ3I hZ7 (lo := -2147483648) (hi := 2147483647) (by decide) rfl (by omega) ⟨by decide, by decide⟩ (Or.inr (by decide)) rfl
  have hZ7U : zU [] Z Z7 := zU_u hZ3U hZ7 (Or.inl rfl)
  have hZ7K : zC [1, 95, 96] Z Z7 := zC_u hZ3K hZ7 (by decide)
  intro μ9 e9
  replace e9 := e9.trans (zm_wI (Z := Z3) (ν := ν) hZ7 (show ((0 : Nat) : Int) = 0 from rfl) (show ((0 : Nat) : Int) = 0 from rfl) (show ((25 : Nat) : Int) = 25 from rfl) (show (-1 : Int32) = i3 (-1) from rfl))
  subst e9
  have r10 := zM_k hZ7I 95 0 0 0 (lo := 0) (hi := 4) (by decide) rfl
  have r11 := zM_k hZ7I 95 0 0 1 (lo := 0) (hi := 4) (by decide) rfl
  have r12 := zM_k hZ7I 95 0 0 2 (lo := 0) (hi := 4) (by decide) rfl
  have r13 := zM_k hZ7I 95 0 0 3 (lo := 0) (hi := 4) (by decide) rfl
  have r14 := zM_k hZ7I 95 0 0 4 (lo := 0) (hi := 4) (by decide) rfl
  refine sl_511_4 (ν := ν) hZ7I (zbh (c := 0) (k := 0) hM (Nat.le_of_ble_eq_true rfl)) zC_r (x2 := 1) (by omega) zU_r (by omega) (zconso rfl (zconso rfl (zconso (zvo (show (1 : Int32) = i3 1 from rfl)) (zconso rfl (zconso rfl rfl))))) rfl ?_
  intro L15 Z9 y8 hL15 hZ9I kZ9 jZ9 gy8 q9
  replace hP := zl_e2 hP (Eq.symm q9)
  clear q9
  have hZ9U : zU [] Z Z9 := zU_t hZ7U jZ9 zU_b0
  have hZ9K : zC [1, 95, 96] Z Z9 := zC_t hZ7K kZ9 (by decide)
  refine fc_511_5  _ _ _ _ hL15 ?_
  exact zlV hP ⟨hZ9I, hZ9K, hZ9U⟩
/- yX12_tNext -/
def zl_521_1 (x1 : Int) : Nat → qz_Z → Int → (Int) ⊕ (Int)
  | 0, Z, x2 => (.inl x2)
  | m + 1, Z, x2 => (if (Z 2 0 0 (3258 + 24 * x1)) ≤ x2 then (.inl x2) else (if (Z 2 0 0 (3264 + 24 * x1 + x2)) ≤ (Z 2 0 0 0) then zl_521_1 x1 m Z (x2 + 1) else (.inr (Z 2 0 0 (3259 + 24 * x1 + x2)))))
theorem sl_521_1 {s : zSM} {Z : qz_Z} {ν : qz_N} (hZ : zM s Z) (hM : s.2 + 0 ≤ 1000000000) {x1 : Int} (gx1 : 0 ≤ x1 ∧ x1 ≤ 3) {x2 : Int} (gx2 : 0 ≤ x2 ∧ x2 ≤ 5) {k : wz_K} {R : wz_R} {L : qz_L} (hL : qz_fg [true, true, true] L = [some (.inr (.inr (some (1, 0, 0)))), some (.inl (i3 x1)), some (.inl (i3 x2))]) {T : (Int) ⊕ (Int)} (hP : zE T (zl_521_1 x1 ((5 - x2).toNat + 1) Z x2)) (hk : ∀ (L9 : qz_L) (yx2 : Int), qz_fg [false, false, false] L9 = [none, none, none] → (0 ≤ yx2 ∧ yx2 ≤ 5) → zE T (.inl yx2) → k 0 (L9, [], zm Z ν)) (hr : ∀ (v8 : Int), 0 ≤ v8 → v8 ≤ 4 → zE T (.inr v8) → R (zm Z ν) (.inl (some (.inl (i3 v8))))) : wz_loop qb_521_1 65536 k R (L, [], zm Z ν) := by
  refine wz_lp sb_521_1 (fun m x => ∃ x2 : Int, qz_fg [true, true, true] x.1 = [some (.inr (.inr (some (1, 0, 0)))), some (.inl (i3 x1)), some (.inl (i3 x2))] ∧ x.2 = ([], zm Z ν) ∧ m = (5 - x2).toNat ∧ (0 ≤ x2 ∧ x2 ≤ 5) ∧ zE T (zl_521_1 x1 (m + 1) Z x2)) ?_ 65536 ((5 - x2).toNat) _ (by omega) ⟨x2, hL, rfl, rfl, gx2, hP⟩
  clear hP gx2 hL
  clear x2
  rintro m ⟨L, st, μ⟩ ⟨x2, hL, hx, hm, gx2, hP⟩
  cases hx
  refine fb_521_1 (i3 x1) (i3 x2) _ _ _ _ hL ?_
  refine wz_i0 (i3O (n := 4400) (i3A (i3A (show (3250 : Int32) = i3 3250 from rfl) (i3M (show (24 : Int32) = i3 24 from rfl) (rfl : i3 x1 = i3 x1))) (show (8 : Int32) = i3 8 from rfl)) (by omega) (by omega) (by omega)) ?_
  have r1 := zM_k hZ 2 0 0 (3258 + 24 * x1) (lo := 0) (hi := 5) (by decide) (zs_3250_8 (x := x1) (by omega) (by omega) (by omega))
  refine wz_br (i3Le (zm_rd (Z := Z) (ν := ν) (k := 2) (show ((0 : Nat) : Int) = 0 from rfl) (show ((0 : Nat) : Int) = 0 from rfl) (i3I (y := (3258 + 24 * x1)) (i3A (i3A (show (3250 : Int32) = i3 3250 from rfl) (i3M (show (24 : Int32) = i3 24 from rfl) (rfl : i3 x1 = i3 x1))) (show (8 : Int32) = i3 8 from rfl)) (by omega) (by omega) (by omega))) (rfl : i3 x2 = i3 x2) (by omega) (by omega) (by omega) (by omega)) (fun h2 => ?_) (fun h2 => ?_)
  · replace hP := zE_p hP h2
    exact hk _ _ (zconso rfl (zconso rfl (zconso rfl rfl)))  (by omega)  hP
  · replace hP := zE_n hP h2
    refine wz_i0 (i3O (n := 4400) (i3A (i3A (show (3250 : Int32) = i3 3250 from rfl) (i3M (show (24 : Int32) = i3 24 from rfl) (rfl : i3 x1 = i3 x1))) (i3A (show (14 : Int32) = i3 14 from rfl) (rfl : i3 x2 = i3 x2))) (by omega) (by omega) (by omega)) ?_
    have r3 := zM_k hZ 2 0 0 (3264 + 24 * x1 + x2) (lo := 0) (hi := 743) (by decide) (zsx (zsb_3250 (by omega) (by omega)) (c0 := 14) (n := 5) (by decide +kernel) (by omega) (by omega))
    have r4 := zM_k hZ 2 0 0 0 (lo := 0) (hi := 671) (by decide) rfl
    refine wz_br (i3Le (zm_rd (Z := Z) (ν := ν) (k := 2) (show ((0 : Nat) : Int) = 0 from rfl) (show ((0 : Nat) : Int) = 0 from rfl) (i3I (y := (3264 + 24 * x1 + x2)) (i3A (i3A (show (3250 : Int32) = i3 3250 from rfl) (i3M (show (24 : Int32) = i3 24 from rfl) (rfl : i3 x1 = i3 x1))) (i3A (show (14 : Int32) = i3 14 from rfl) (rfl : i3 x2 = i3 x2))) (by omega) (by omega) (by omega))) (zm_rd (Z := Z) (ν := ν) (k := 2) (show ((0 : Nat) : Int) = 0 from rfl) (show ((0 : Nat) : Int) = 0 from rfl) (show ((0 : Nat) : Int) = 0 from rfl)) (by omega) (by omega) (by omega) (by omega)) (fun h5 => ?_) (fun h5 => ?_)
    · replace hP := zE_p hP h5
      obtain ⟨m2, rfl⟩ : ∃ m2, m = m2 + 1 := ⟨m - 1, by omega⟩
      exact wz_k1 ⟨m2, by omega, (x2 + 1), (zconso rfl (zconso (zvo (rfl : i3 x1 = i3 x1)) (zconso (zvo (i3A (rfl : i3 x2 = i3 x2) (show (1 : Int32) = i3 1 from rfl))) rfl))), rfl,  by omega, by omega,  hP⟩
    · replace hP := zE_n hP h5
      refine wz_i0 (i3O (n := 4400) (i3A (i3A (show (3250 : Int32) = i3 3250 from rfl) (i3M (show (24 : Int32) = i3 24 from rfl) (rfl : i3 x1 = i3 x1))) (i3A (show (9 : Int32) = i3 9 from rfl) (rfl : i3 x2 = i3 x2))) (by omega) (by omega) (by omega)) ?_
      have r6 := zM_k hZ 2 0 0 (3259 + 24 * x1 + x2) (lo := 0) (hi := 4) (by decide) (zsx (zsb_3250 (by omega) (by omega)) (c0 := 9) (n := 5) (by decide +kernel) (by omega) (by omega))
      rw [(zm_rd (Z := Z) (ν := ν) (k := 2) (show ((0 : Nat) : Int) = 0 from rfl) (show ((0 : Nat) : Int) = 0 from rfl) (i3I (y := (3259 + 24 * x1 + x2)) (i3A (i3A (show (3250 : Int32) = i3 3250 from rfl) (i3M (show (24 : Int32) = i3 24 from rfl) (rfl : i3 x1 = i3 x1))) (i3A (show (9 : Int32) = i3 9 from rfl) (rfl : i3 x2 = i3 x2))) (by omega) (by omega) (by omega)))]
      exact hr _ (by omega) (by omega) hP
/- yX12_tNext -/
def zf_521 (Z : qz_Z) (a1 : Int) : Int := (zsum (zl_521_1 a1 6 Z 0) (fun q => zlet q (fun y1 => 5)) (fun r => r))
theorem sp_521 {s : zSM} {Z : qz_Z} {ν : qz_N} (hZ : zM s Z) {a1 : Int} (ga1 : 0 ≤ a1 ∧ a1 ≤ 3) (hM : s.2 + 0 ≤ 1000000000) : ∃ P : Int, P = zf_521 Z a1 ∧ (qf_521 [.inr (.inr (some (1, 0, 0))), .inl (i3 a1)] (zm Z ν) = some (zm Z ν, .inl (some (.inl (i3 P)))) ∧ 0 ≤ P ∧ P ≤ 5) := by
  obtain ⟨P, hP⟩ := zx (zf_521 Z a1)
  refine zc_R (Q := fun P => 0 ≤ P ∧ P ≤ 5) hP (fw_521 (i3 a1) _ _ ?_)
  replace hP : zE P (zf_521 Z a1) := hP
  unfold zf_521 at hP
  refine sl_521_1 (ν := ν) hZ (zbh (c := 0) (k := 0) hM (Nat.le_of_ble_eq_true rfl)) (x1 := a1) (by omega) (x2 := 0) (by omega)  (zconso rfl (zconso (zvo (rfl : i3 a1 = i3 a1)) (zconso (zvo (show (0 : Int32) = i3 0 from rfl)) rfl))) rfl ?_ ?_
  · intro L2 y1 hL2 gy1 q9
    replace hP := zl_sl1 hP (Eq.symm q9)
    clear q9
    refine fc_521_2  _ _ _ _ hL2 ?_
    exact zlR hP (show (5 : Int32) = i3 5 from rfl) ⟨by omega, by omega⟩
  · intro v8 l8 u8 q8
    replace hP := zl_sr hP (Eq.symm q8)
    exact zlR hP rfl ⟨by omega, by omega⟩
/- yX12_tTowns -/
def zl_527_1 (x1 : Int) : Nat → qz_Z → Int → Int → Int × Int
  | 0, Z, x2, x3 => (x2, x3)
  | m + 1, Z, x2, x3 => (if (Z 2 0 0 2000) ≤ x3 then (x2, x3) else (if (Z 2 0 0 (2019 + 16 * x3)) ≠ 1 then zl_527_1 x1 m Z (z2 (fun x y => x ||| y) x2 0) (x3 + 1) else (if (Z 2 0 0 (2020 + 16 * x3)) ≠ x1 then zl_527_1 x1 m Z (z2 (fun x y => x ||| y) x2 0) (x3 + 1) else zl_527_1 x1 m Z (z2 (fun x y => x ||| y) x2 (z2 (fun x y => x <<< (y &&& 31)) 1 (Z 2 0 0 (1410 + 12 * (Z 2 0 0 (2011 + 16 * x3)))))) (x3 + 1))))
theorem sl_527_1 {s : zSM} {Z : qz_Z} {ν : qz_N} (hZ : zM s Z) (hM : s.2 + 0 ≤ 1000000000) {x1 : Int} (gx1 : 0 ≤ x1 ∧ x1 ≤ 3) {x2 : Int} (gx2 : 0 ≤ x2 ∧ x2 ≤ 31) {x3 : Int} (gx3 : 0 ≤ x3 ∧ x3 ≤ 60) {k : wz_K} {R : wz_R} {L : qz_L} (hL : qz_fg [true, true, true, true] L = [some (.inr (.inr (some (1, 0, 0)))), some (.inl (i3 x1)), some (.inl (i3 x2)), some (.inl (i3 x3))]) {T : Int × Int} (hP : zE T (zl_527_1 x1 ((60 - x3).toNat + 1) Z x2 x3)) (hk : ∀ (L9 : qz_L) (yx2 yx3 : Int), qz_fg [false, false, true, false] L9 = [none, none, some (.inl (i3 yx2)), none] → (0 ≤ yx2 ∧ yx2 ≤ 31) → (0 ≤ yx3 ∧ yx3 ≤ 60) → zE T ((yx2, yx3)) → k 0 (L9, [], zm Z ν)) : wz_loop qb_527_1 65536 k R (L, [], zm Z ν) := by
  refine wz_lp sb_527_1 (fun m x => ∃ x2 : Int, ∃ x3 : Int, qz_fg [true, true, true, true] x.1 = [some (.inr (.inr (some (1, 0, 0)))), some (.inl (i3 x1)), some (.inl (i3 x2)), some (.inl (i3 x3))] ∧ x.2 = ([], zm Z ν) ∧ m = (60 - x3).toNat ∧ (0 ≤ x2 ∧ x2 ≤ 31) ∧ (0 ≤ x3 ∧ x3 ≤ 60) ∧ zE T (zl_527_1 x1 (m + 1) Z x2 x3)) ?_ 65536 ((60 - x3).toNat) _ (by omega) ⟨x2, x3, hL, rfl, rfl, gx2, gx3, hP⟩
  clear hP gx2 gx3 hL
  clear x2 x3
  rintro m ⟨L, st, μ⟩ ⟨x2, x3, hL, hx, hm, gx2, gx3, hP⟩
  cases hx
  refine fb_527_1 (i3 x1) (i3 x2) (i3 x3) _ _ _ _ hL ?_
  have r1 := zM_k hZ 2 0 0 2000 (lo := 0) (hi := 60) (by decide) rfl
  refine wz_br (i3Le (zm_rd (Z := Z) (ν := ν) (k := 2) (show ((0 : Nat) : Int) = 0 from rfl) (show ((0 : Nat) : Int) = 0 from rfl) (show ((2000 : Nat) : Int) = 2000 from rfl)) (rfl : i3 x3 = i3 x3) (by omega) (by omega) (by omega) (by omega)) (fun h2 => ?_) (fun h2 => ?_)
  · replace hP := zE_p hP h2
    exact hk _ _ _ (zconso rfl (zconso rfl (zconso (zvo (rfl : i3 x2 = i3 x2)) (zconso rfl rfl))))  (by omega) (by omega)  hP
  · replace hP := zE_n hP h2
    refine wz_i0 (i3O (n := 4400) (i3A (i3A (show (2010 : Int32) = i3 2010 from rfl) (i3M (show (16 : Int32) = i3 16 from rfl) (rfl : i3 x3 = i3 x3))) (show (9 : Int32) = i3 9 from rfl)) (by omega) (by omega) (by omega)) ?_
    have r3 := zM_k hZ 2 0 0 (2019 + 16 * x3) (lo := 0) (hi := 3) (by decide) (zs_2010_9 (x := x3) (by omega) (by omega) (by omega))
    have r4 := zM_lt2 hZ x3
    refine wz_br (i3NE (zm_rd (Z := Z) (ν := ν) (k := 2) (show ((0 : Nat) : Int) = 0 from rfl) (show ((0 : Nat) : Int) = 0 from rfl) (i3I (y := (2019 + 16 * x3)) (i3A (i3A (show (2010 : Int32) = i3 2010 from rfl) (i3M (show (16 : Int32) = i3 16 from rfl) (rfl : i3 x3 = i3 x3))) (show (9 : Int32) = i3 9 from rfl)) (by omega) (by omega) (by omega))) (show (1 : Int32) = i3 1 from rfl) (by omega) (by omega) (by omega) (by omega)) (fun h5 => ?_) (fun h5 => ?_)
    · replace hP := zE_p hP h5
      have r6 := z2_r (fun x y => x ||| y) x2 0
      have r7 := z2_or5 (x := x2) (y := 0) (by omega) (by omega)
      obtain ⟨m2, rfl⟩ : ∃ m2, m = m2 + 1 := ⟨m - 1, by omega⟩
      exact wz_k1 ⟨m2, by omega, (z2 (fun x y => x ||| y) x2 0), (x3 + 1), (zconso rfl (zconso (zvo (rfl : i3 x1 = i3 x1)) (zconso (zvo (i3Z (fun x y => x ||| y) (rfl : i3 x2 = i3 x2) (show (0 : Int32) = i3 0 from rfl))) (zconso (zvo (i3A (rfl : i3 x3 = i3 x3) (show (1 : Int32) = i3 1 from rfl))) rfl)))), rfl,  by omega, by omega, by omega,  hP⟩
    · replace hP := zE_n hP h5
      refine wz_i0 (i3O (n := 4400) (i3A (i3A (show (2010 : Int32) = i3 2010 from rfl) (i3M (show (16 : Int32) = i3 16 from rfl) (rfl : i3 x3 = i3 x3))) (show (10 : Int32) = i3 10 from rfl)) (by omega) (by omega) (by omega)) ?_
      have r8 := zM_k hZ 2 0 0 (2020 + 16 * x3) (lo := -1) (hi := 3) (by decide) (zs_2010_10 (x := x3) (by omega) (by omega) (by omega))
      refine wz_br (i3NE (zm_rd (Z := Z) (ν := ν) (k := 2) (show ((0 : Nat) : Int) = 0 from rfl) (show ((0 : Nat) : Int) = 0 from rfl) (i3I (y := (2020 + 16 * x3)) (i3A (i3A (show (2010 : Int32) = i3 2010 from rfl) (i3M (show (16 : Int32) = i3 16 from rfl) (rfl : i3 x3 = i3 x3))) (show (10 : Int32) = i3 10 from rfl)) (by omega) (by omega) (by omega))) (rfl : i3 x1 = i3 x1) (by omega) (by omega) (by omega) (by omega)) (fun h9 => ?_) (fun h9 => ?_)
      · replace hP := zE_p hP h9
        have r10 := z2_r (fun x y => x ||| y) x2 0
        have r11 := z2_or5 (x := x2) (y := 0) (by omega) (by omega)
        obtain ⟨m2, rfl⟩ : ∃ m2, m = m2 + 1 := ⟨m - 1, by omega⟩
        exact wz_k1 ⟨m2, by omega, (z2 (fun x y => x ||| y) x2 0), (x3 + 1), (zconso rfl (zconso (zvo (rfl : i3 x1 = i3 x1)) (zconso (zvo (i3Z (fun x y => x ||| y) (rfl : i3 x2 = i3 x2) (show (0 : Int32) = i3 0 from rfl))) (zconso (zvo (i3A (rfl : i3 x3 = i3 x3) (show (1 : Int32) = i3 1 from rfl))) rfl)))), rfl,  by omega, by omega, by omega,  hP⟩
      · replace hP := zE_n hP h9
        refine wz_i0 (i3O (n := 4400) (i3A (i3A (show (2010 : Int32) = i3 2010 from rfl) (i3M (show (16 : Int32) = i3 16 from rfl) (rfl : i3 x3 = i3 x3))) (show (1 : Int32) = i3 1 from rfl)) (by omega) (by omega) (by omega)) ?_
        have r12 := zM_k hZ 2 0 0 (2011 + 16 * x3) (lo := 0) (hi := 7) (by decide) (zs_2010_1 (x := x3) (by omega) (by omega) (by omega))
        refine wz_i0 (i3O (n := 4400) (i3A (i3A (show (1410 : Int32) = i3 1410 from rfl) (i3M (show (12 : Int32) = i3 12 from rfl) (zm_rd (Z := Z) (ν := ν) (k := 2) (show ((0 : Nat) : Int) = 0 from rfl) (show ((0 : Nat) : Int) = 0 from rfl) (i3I (y := (2011 + 16 * x3)) (i3A (i3A (show (2010 : Int32) = i3 2010 from rfl) (i3M (show (16 : Int32) = i3 16 from rfl) (rfl : i3 x3 = i3 x3))) (show (1 : Int32) = i3 1 from rfl)) (by omega) (by omega) (by omega))))) (show (0 : Int32) = i3 0 from rfl)) (by omega) (by omega) (by omega)) ?_
        have r13 := zM_k hZ 2 0 0 (1410 + 12 * (Z 2 0 0 (2011 + 16 * x3))) (lo := 0) (hi := 4) (by decide) (zs_1410_0 (x := (Z 2 0 0 (2011 + 16 * x3))) (by omega) (by omega) (by omega))
        have r14 := z2_r (fun x y => x <<< (y &&& 31)) 1 (Z 2 0 0 (1410 + 12 * (Z 2 0 0 (2011 + 16 * x3))))
        have r15 := z2_shl4 (n := (Z 2 0 0 (1410 + 12 * (Z 2 0 0 (2011 + 16 * x3))))) (by omega) (by omega)
        have r16 := z2_r (fun x y => x ||| y) x2 (z2 (fun x y => x <<< (y &&& 31)) 1 (Z 2 0 0 (1410 + 12 * (Z 2 0 0 (2011 + 16 * x3)))))
        have r17 := z2_or5 (x := x2) (y := (z2 (fun x y => x <<< (y &&& 31)) 1 (Z 2 0 0 (1410 + 12 * (Z 2 0 0 (2011 + 16 * x3)))))) (by omega) (by omega)
        obtain ⟨m2, rfl⟩ : ∃ m2, m = m2 + 1 := ⟨m - 1, by omega⟩
        exact wz_k1 ⟨m2, by omega, (z2 (fun x y => x ||| y) x2 (z2 (fun x y => x <<< (y &&& 31)) 1 (Z 2 0 0 (1410 + 12 * (Z 2 0 0 (2011 + 16 * x3)))))), (x3 + 1), (zconso rfl (zconso (zvo (rfl : i3 x1 = i3 x1)) (zconso (zvo (i3Z (fun x y => x ||| y) (rfl : i3 x2 = i3 x2) (i3Z (fun x y => x <<< (y &&& 31)) (show (1 : Int32) = i3 1 from rfl) (zm_rd (Z := Z) (ν := ν) (k := 2) (show ((0 : Nat) : Int) = 0 from rfl) (show ((0 : Nat) : Int) = 0 from rfl) (i3I (y := (1410 + 12 * (Z 2 0 0 (2011 + 16 * x3)))) (i3A (i3A (show (1410 : Int32) = i3 1410 from rfl) (i3M (show (12 : Int32) = i3 12 from rfl) (zm_rd (Z := Z) (ν := ν) (k := 2) (show ((0 : Nat) : Int) = 0 from rfl) (show ((0 : Nat) : Int) = 0 from rfl) (i3I (y := (2011 + 16 * x3)) (i3A (i3A (show (2010 : Int32) = i3 2010 from rfl) (i3M (show (16 : Int32) = i3 16 from rfl) (rfl : i3 x3 = i3 x3))) (show (1 : Int32) = i3 1 from rfl)) (by omega) (by omega) (by omega))))) (show (0 : Int32) = i3 0 from rfl)) (by omega) (by omega) (by omega)))))) (zconso (zvo (i3A (rfl : i3 x3 = i3 x3) (show (1 : Int32) = i3 1 from rfl))) rfl)))), rfl,  by omega, by omega, by omega,  hP⟩
/- yX12_tTowns -/
def zf_527 (Z : qz_Z) (a1 : Int) : Int := (zlet2 (zl_527_1 a1 61 Z 0 0) (fun y1 y2 => y1))
theorem sp_527 {s : zSM} {Z : qz_Z} {ν : qz_N} (hZ : zM s Z) {a1 : Int} (ga1 : 0 ≤ a1 ∧ a1 ≤ 3) (hM : s.2 + 0 ≤ 1000000000) : ∃ P : Int, P = zf_527 Z a1 ∧ (qf_527 [.inr (.inr (some (1, 0, 0))), .inl (i3 a1)] (zm Z ν) = some (zm Z ν, .inl (some (.inl (i3 P)))) ∧ 0 ≤ P ∧ P ≤ 31) := by
  obtain ⟨P, hP⟩ := zx (zf_527 Z a1)
  refine zc_R (Q := fun P => 0 ≤ P ∧ P ≤ 31) hP (fw_527 (i3 a1) _ _ ?_)
  replace hP : zE P (zf_527 Z a1) := hP
  unfold zf_527 at hP
  refine sl_527_1 (ν := ν) hZ (zbh (c := 0) (k := 0) hM (Nat.le_of_ble_eq_true rfl)) (x1 := a1) (by omega) (x2 := 0) (by omega) (x3 := 0) (by omega)  (zconso rfl (zconso (zvo (rfl : i3 a1 = i3 a1)) (zconso (zvo (show (0 : Int32) = i3 0 from rfl)) (zconso (zvo (show (0 : Int32) = i3 0 from rfl)) rfl)))) rfl ?_
  intro L3 y1 y2 hL3 gy1 gy2 q9
  replace hP := zl_e2 hP (Eq.symm q9)
  clear q9
  refine fc_527_2 (i3 y1) _ _ _ _ hL3 ?_
  exact zlR hP (rfl : i3 y1 = i3 y1) ⟨by omega, by omega⟩
/- yX12_haul -/
def zy_350 (Z : qz_Z) (a1 : Int) (a2 : Int) : qz_Z × Int := (if a1 < 0 then (zlet (zu Z 1 0 0 2 1) (fun Z5 => (Z5, 0))) else (if ((Z 2 0 0 3200) - 1) < a1 then (zlet (zu Z 1 0 0 2 1) (fun Z8 => (Z8, 0))) else (zlet (zu Z 1 0 0 2 0) (fun Z9 => (if a2 < 0 then (zlet (zu Z9 1 0 0 2 2) (fun Z11 => (Z11, 0))) else (if 11 < a2 then (zlet (zu Z9 1 0 0 2 2) (fun Z13 => (Z13, 0))) else (zlet (zu Z9 1 0 0 2 0) (fun Z14 => (if a2 < 4 ∨ 11 < a2 then (Z14, (Z14 2 0 0 (3250 + 24 * a1 + a2))) else (if a2 = 4 then (zlet (zf_518 Z14 a1 1) (fun v18 => (Z14, v18))) else (if a2 = 5 then (zlet (zf_518 Z14 a1 0) (fun v20 => (Z14, v20))) else (if a2 = 6 then (if (Z14 2 0 0 (3252 + 24 * a1)) ≠ 1 then (zlet (zf_527 Z14 a1) (fun v24 => (zlet (zf_511 Z14 v24) (fun Z25 => (Z25, (Z25 1 0 0 25)))))) else (Z14, (Z14 2 0 0 (3255 + 24 * a1)))) else (if a2 = 7 then (Z14, (Z14 2 0 0 (3254 + 24 * a1))) else (if a2 = 8 then (if (Z14 2 0 0 (3252 + 24 * a1)) ≠ 1 then (Z14, (-1)) else (Z14, (Z14 2 0 0 (3269 + 24 * a1)))) else (if a2 = 9 then (if (Z14 2 0 0 (3252 + 24 * a1)) ≠ 1 then (Z14, (-1)) else (zlet (zf_521 Z14 a1) (fun v37 => (Z14, v37)))) else (if a2 = 10 then (Z14, (Z14 2 0 0 (3256 + 24 * a1))) else (Z14, (Z14 2 0 0 (3257 + 24 * a1)))))))))))))))))))
theorem sy_350 {s : zSM} {Z : qz_Z} {ν : qz_N} (hZ : zM s Z) (gq : Z 1 0 0 35 = 0) (hM : s.2 + 0 ≤ 1000000000) {a1 : Int} (ga1 : -2147483648 ≤ a1 ∧ a1 ≤ 2147483647) {a2 : Int} (ga2 : -2147483648 ≤ a2 ∧ a2 ≤ 2147483647) {ν1 : qz_N} : ∃ (Z1 : qz_Z) (ν2 : qz_N) (v : Int), (Z1, v) = zy_350 Z a1 a2 ∧ (ν2 = ν ∨ ν2 = ν1) ∧ qf_350 [.inr (.inr (some (1, 0, 0))), .inl (i3 a1), .inl (i3 a2)] (zm Z ν) = some (zm Z1 ν2, .inl (some (.inl (i3 v)))) ∧ (fun Z1 => zM s Z1 ∧ zC [1, 95, 96] Z Z1 ∧ zU [] Z Z1) Z1 := by
  obtain ⟨P, hP⟩ := zx (zy_350 Z a1 a2)
  refine zc_Y (Q := fun Z1 => zM s Z1 ∧ zC [1, 95, 96] Z Z1 ∧ zU [] Z Z1) hP (fw_350 (i3 a1) (i3 a2) _ _ ?_)
  replace hP : zE P (zy_350 Z a1 a2) := hP
  unfold zy_350 at hP
  have r1 := zM_k hZ 1 0 0 35 (lo := 0) (hi := 1) (by decide) rfl
  have r2 := zM_k hZ 1 0 0 34 (lo := 0) (hi := 8) (by decide) rfl
  have r3 := zM_f hZ 1 0 0 37
  refine wz_br (i3L (rfl : i3 a1 = i3 a1) (show (0 : Int32) = i3 0 from rfl) (by omega) (by omega) (by omega) (by omega)) (fun h4 => ?_) (fun h4 => ?_)
  · replace hP := zE_p hP h4
    obtain ⟨Z5, hZ5⟩ := zx (zu Z 1 0 0 2 1)
    replace hP := zl_e hP hZ5
    have hZ5I := zM_u hZ hZ5 (lo := -2147483648) (hi := 2147483647) (by decide) rfl (by omega) ⟨by decide, by decide⟩ (Or.inr (by decide)) rfl
    have hZ5U : zU [] Z Z5 := zU_u zU_r hZ5 (Or.inl rfl)
    have hZ5K : zC [1, 95, 96] Z Z5 := zC_u zC_r hZ5 (by decide)
    intro μ9 e9
    replace e9 := e9.trans (zm_wI (Z := Z) (ν := ν) hZ5 (show ((0 : Nat) : Int) = 0 from rfl) (show ((0 : Nat) : Int) = 0 from rfl) (show ((2 : Nat) : Int) = 2 from rfl) (show (1 : Int32) = i3 1 from rfl))
    subst e9
    exact zlY hP (show (0 : Int32) = i3 0 from rfl) (.inl rfl) ⟨hZ5I, hZ5K, hZ5U⟩
  · replace hP := zE_n hP h4
    have r6 := zM_k hZ 2 0 0 3200 (lo := 0) (hi := 4) (by decide) rfl
    refine wz_br (i3L (i3S (zm_rd (Z := Z) (ν := ν) (k := 2) (show ((0 : Nat) : Int) = 0 from rfl) (show ((0 : Nat) : Int) = 0 from rfl) (show ((3200 : Nat) : Int) = 3200 from rfl)) (show (1 : Int32) = i3 1 from rfl)) (rfl : i3 a1 = i3 a1) (by omega) (by omega) (by omega) (by omega)) (fun h7 => ?_) (fun h7 => ?_)
    · replace hP := zE_p hP h7
      obtain ⟨Z8, hZ8⟩ := zx (zu Z 1 0 0 2 1)
      replace hP := zl_e hP hZ8
      have hZ8I := zM_u hZ hZ8 (lo := -2147483648) (hi := 2147483647) (by decide) rfl (by omega) ⟨by decide, by decide⟩ (Or.inr (by decide)) rfl
      have hZ8U : zU [] Z Z8 := zU_u zU_r hZ8 (Or.inl rfl)
      have hZ8K : zC [1, 95, 96] Z Z8 := zC_u zC_r hZ8 (by decide)
      intro μ9 e9
      replace e9 := e9.trans (zm_wI (Z := Z) (ν := ν) hZ8 (show ((0 : Nat) : Int) = 0 from rfl) (show ((0 : Nat) : Int) = 0 from rfl) (show ((2 : Nat) : Int) = 2 from rfl) (show (1 : Int32) = i3 1 from rfl))
      subst e9
      exact zlY hP (show (0 : Int32) = i3 0 from rfl) (.inl rfl) ⟨hZ8I, hZ8K, hZ8U⟩
    · replace hP := zE_n hP h7
      obtain ⟨Z9, hZ9⟩ := zx (zu Z 1 0 0 2 0)
      replace hP := zl_e hP hZ9
      have hZ9I := zM_0 hZ hZ9 (by decide) (Or.inr (by decide))
      have hZ9U : zU [] Z Z9 := zU_u zU_r hZ9 (Or.inl rfl)
      have hZ9K : zC [1, 95, 96] Z Z9 := zC_u zC_r hZ9 (by decide)
      intro μ9 e9
      replace e9 := e9.trans (zm_wI (Z := Z) (ν := ν) hZ9 (show ((0 : Nat) : Int) = 0 from rfl) (show ((0 : Nat) : Int) = 0 from rfl) (show ((2 : Nat) : Int) = 2 from rfl) (show (0 : Int32) = i3 0 from rfl))
      subst e9
      refine wz_br (i3L (rfl : i3 a2 = i3 a2) (show (0 : Int32) = i3 0 from rfl) (by omega) (by omega) (by omega) (by omega)) (fun h10 => ?_) (fun h10 => ?_)
      · replace hP := zE_p hP h10
        obtain ⟨Z11, hZ11⟩ := zx (zu Z9 1 0 0 2 2)
        replace hP := zl_e hP hZ11
        have hZ11I := zM_u hZ9I hZ11 (lo := -2147483648) (hi := 2147483647) (by decide) rfl (by omega) ⟨by decide, by decide⟩ (Or.inr (by decide)) rfl
        have hZ11U : zU [] Z Z11 := zU_u hZ9U hZ11 (Or.inl rfl)
        have hZ11K : zC [1, 95, 96] Z Z11 := zC_u hZ9K hZ11 (by decide)
        intro μ9 e9
        replace e9 := e9.trans (zm_wI (Z := Z9) (ν := ν) hZ11 (show ((0 : Nat) : Int) = 0 from rfl) (show ((0 : Nat) : Int) = 0 from rfl) (show ((2 : Nat) : Int) = 2 from rfl) (show (2 : Int32) = i3 2 from rfl))
        subst e9
        exact zlY hP (show (0 : Int32) = i3 0 from rfl) (.inl rfl) ⟨hZ11I, hZ11K, hZ11U⟩
      · replace hP := zE_n hP h10
        refine wz_br (i3L (show (11 : Int32) = i3 11 from rfl) (rfl : i3 a2 = i3 a2) (by omega) (by omega) (by omega) (by omega)) (fun h12 => ?_) (fun h12 => ?_)
        · replace hP := zE_p hP h12
          obtain ⟨Z13, hZ13⟩ := zx (zu Z9 1 0 0 2 2)
          replace hP := zl_e hP hZ13
          have hZ13I := zM_u hZ9I hZ13 (lo := -2147483648) (hi := 2147483647) (by decide) rfl (by omega) ⟨by decide, by decide⟩ (Or.inr (by decide)) rfl
          have hZ13U : zU [] Z Z13 := zU_u hZ9U hZ13 (Or.inl rfl)
          have hZ13K : zC [1, 95, 96] Z Z13 := zC_u hZ9K hZ13 (by decide)
          intro μ9 e9
          replace e9 := e9.trans (zm_wI (Z := Z9) (ν := ν) hZ13 (show ((0 : Nat) : Int) = 0 from rfl) (show ((0 : Nat) : Int) = 0 from rfl) (show ((2 : Nat) : Int) = 2 from rfl) (show (2 : Int32) = i3 2 from rfl))
          subst e9
          exact zlY hP (show (0 : Int32) = i3 0 from rfl) (.inl rfl) ⟨hZ13I, hZ13K, hZ13U⟩
        · replace hP := zE_n hP h12
          obtain ⟨Z14, hZ14⟩ := zx (zu Z9 1 0 0 2 0)
          replace hP := zl_e hP hZ14
          have hZ14I := zM_0 hZ9I hZ14 (by decide) (Or.inr (by decide))
          have hZ14U : zU [] Z Z14 := zU_u hZ9U hZ14 (Or.inl rfl)
          have hZ14K : zC [1, 95, 96] Z Z14 := zC_u hZ9K hZ14 (by decide)
          intro μ9 e9
          replace e9 := e9.trans (zm_wI (Z := Z9) (ν := ν) hZ14 (show ((0 : Nat) : Int) = 0 from rfl) (show ((0 : Nat) : Int) = 0 from rfl) (show ((2 : Nat) : Int) = 2 from rfl) (show (0 : Int32) = i3 0 from rfl))
          subst e9
          refine wz_br (i3To (rfl : i3 a2 = i3 a2) (by omega) (by omega)) (fun h15 => ?_) (fun h15 => ?_)
          · replace hP := zE_p hP h15
            refine wz_i0 (i3O (n := 4400) (i3A (i3A (show (3250 : Int32) = i3 3250 from rfl) (i3M (show (24 : Int32) = i3 24 from rfl) (rfl : i3 a1 = i3 a1))) (rfl : i3 a2 = i3 a2)) (by omega) (by omega) (by omega)) ?_
            have r16 := zM_f hZ14I 2 0 0 (3250 + 24 * a1 + a2)
            exact zlY hP (zm_rd (Z := Z14) (ν := ν) (k := 2) (show ((0 : Nat) : Int) = 0 from rfl) (show ((0 : Nat) : Int) = 0 from rfl) (i3I (y := (3250 + 24 * a1 + a2)) (i3A (i3A (show (3250 : Int32) = i3 3250 from rfl) (i3M (show (24 : Int32) = i3 24 from rfl) (rfl : i3 a1 = i3 a1))) (rfl : i3 a2 = i3 a2)) (by omega) (by omega) (by omega))) (.inl rfl) ⟨hZ14I, hZ14K, hZ14U⟩
          · replace hP := zE_n hP h15
            refine wz_br (i3T (rfl : i3 a2 = i3 a2) (by omega) (by omega)) (fun h17 => ?_) (fun h17 => ?_)
            · replace hP := zE_p hP h17
              obtain ⟨v18, hv18, c9, lv18, uv18⟩ := sp_518 (ν := ν) hZ14I (a1 := a1) (by omega) (a2 := 1) (by omega) (zbh (c := 0) (k := 0) hM (Nat.le_of_ble_eq_true rfl))
              replace hP := zl_e hP hv18
              refine wz_cI_of (zas (zcons rfl (zcons (zvi (rfl : i3 a1 = i3 a1)) (zcons (zvi (show (1 : Int32) = i3 1 from rfl)) rfl))) c9) ?_
              clear c9
              exact zlY hP (rfl : i3 v18 = i3 v18) (.inl rfl) ⟨hZ14I, hZ14K, hZ14U⟩
            · replace hP := zE_n hP h17
              refine wz_br (i3T (rfl : i3 a2 = i3 a2) (by omega) (by omega)) (fun h19 => ?_) (fun h19 => ?_)
              · replace hP := zE_p hP h19
                obtain ⟨v20, hv20, c9, lv20, uv20⟩ := sp_518 (ν := ν) hZ14I (a1 := a1) (by omega) (a2 := 0) (by omega) (zbh (c := 0) (k := 0) hM (Nat.le_of_ble_eq_true rfl))
                replace hP := zl_e hP hv20
                refine wz_cI_of (zas (zcons rfl (zcons (zvi (rfl : i3 a1 = i3 a1)) (zcons (zvi (show (0 : Int32) = i3 0 from rfl)) rfl))) c9) ?_
                clear c9
                exact zlY hP (rfl : i3 v20 = i3 v20) (.inl rfl) ⟨hZ14I, hZ14K, hZ14U⟩
              · replace hP := zE_n hP h19
                refine wz_br (i3T (rfl : i3 a2 = i3 a2) (by omega) (by omega)) (fun h21 => ?_) (fun h21 => ?_)
                · replace hP := zE_p hP h21
                  refine wz_i0 (i3O (n := 4400) (i3A (i3A (show (3250 : Int32) = i3 3250 from rfl) (i3M (show (24 : Int32) = i3 24 from rfl) (rfl : i3 a1 = i3 a1))) (show (2 : Int32) = i3 2 from rfl)) (by omega) (by omega) (by omega)) ?_
                  have r22 := zM_k hZ14I 2 0 0 (3252 + 24 * a1) (lo := 0) (hi := 1) (by decide) (zs_3250_2 (x := a1) (by omega) (by omega) (by omega))
                  refine wz_br (i3NE (zm_rd (Z := Z14) (ν := ν) (k := 2) (show ((0 : Nat) : Int) = 0 from rfl) (show ((0 : Nat) : Int) = 0 from rfl) (i3I (y := (3252 + 24 * a1)) (i3A (i3A (show (3250 : Int32) = i3 3250 from rfl) (i3M (show (24 : Int32) = i3 24 from rfl) (rfl : i3 a1 = i3 a1))) (show (2 : Int32) = i3 2 from rfl)) (by omega) (by omega) (by omega))) (show (1 : Int32) = i3 1 from rfl) (by omega) (by omega) (by omega) (by omega)) (fun h23 => ?_) (fun h23 => ?_)
                  · replace hP := zE_p hP h23
                    obtain ⟨v24, hv24, c9, lv24, uv24⟩ := sp_527 (ν := ν) hZ14I (a1 := a1) (by omega) (zbh (c := 0) (k := 0) hM (Nat.le_of_ble_eq_true rfl))
                    replace hP := zl_e hP hv24
                    refine wz_cI_of (zas (zcons rfl (zcons (zvi (rfl : i3 a1 = i3 a1)) rfl)) c9) ?_
                    clear c9
                    obtain ⟨Z25, hZ25, c9, hZ25I, kZ25, jZ25⟩ := sp_511 (ν := ν) hZ14I (a1 := v24) (by omega) (zbh (c := 0) (k := 0) hM (Nat.le_of_ble_eq_true rfl))
                    have hZ25U : zU [] Z Z25 := zU_t hZ14U jZ25 zU_b0
                    have hZ25K : zC [1, 95, 96] Z Z25 := zC_t hZ14K kZ25 (by decide)
                    replace hP := zl_e hP hZ25
                    refine wz_cV_of (zas (zcons rfl (zcons (zvi (rfl : i3 v24 = i3 v24)) rfl)) c9) ?_
                    clear c9
                    have r26 := zM_f hZ25I 1 0 0 25
                    exact zlY hP (zm_rd (Z := Z25) (ν := ν) (k := 1) (show ((0 : Nat) : Int) = 0 from rfl) (show ((0 : Nat) : Int) = 0 from rfl) (show ((25 : Nat) : Int) = 25 from rfl)) (.inl rfl) ⟨hZ25I, hZ25K, hZ25U⟩
                  · replace hP := zE_n hP h23
                    refine wz_i0 (i3O (n := 4400) (i3A (i3A (show (3250 : Int32) = i3 3250 from rfl) (i3M (show (24 : Int32) = i3 24 from rfl) (rfl : i3 a1 = i3 a1))) (show (5 : Int32) = i3 5 from rfl)) (by omega) (by omega) (by omega)) ?_
                    have r27 := zM_f hZ14I 2 0 0 (3255 + 24 * a1)
                    exact zlY hP (zm_rd (Z := Z14) (ν := ν) (k := 2) (show ((0 : Nat) : Int) = 0 from rfl) (show ((0 : Nat) : Int) = 0 from rfl) (i3I (y := (3255 + 24 * a1)) (i3A (i3A (show (3250 : Int32) = i3 3250 from rfl) (i3M (show (24 : Int32) = i3 24 from rfl) (rfl : i3 a1 = i3 a1))) (show (5 : Int32) = i3 5 from rfl)) (by omega) (by omega) (by omega))) (.inl rfl) ⟨hZ14I, hZ14K, hZ14U⟩
                · replace hP := zE_n hP h21
                  refine wz_br (i3T (rfl : i3 a2 = i3 a2) (by omega) (by omega)) (fun h28 => ?_) (fun h28 => ?_)
                  · replace hP := zE_p hP h28
                    refine wz_i0 (i3O (n := 4400) (i3A (i3A (show (3250 : Int32) = i3 3250 from rfl) (i3M (show (24 : Int32) = i3 24 from rfl) (rfl : i3 a1 = i3 a1))) (show (4 : Int32) = i3 4 from rfl)) (by omega) (by omega) (by omega)) ?_
                    have r29 := zM_k hZ14I 2 0 0 (3254 + 24 * a1) (lo := -1) (hi := 671) (by decide) (zs_3250_4 (x := a1) (by omega) (by omega) (by omega))
                    exact zlY hP (zm_rd (Z := Z14) (ν := ν) (k := 2) (show ((0 : Nat) : Int) = 0 from rfl) (show ((0 : Nat) : Int) = 0 from rfl) (i3I (y := (3254 + 24 * a1)) (i3A (i3A (show (3250 : Int32) = i3 3250 from rfl) (i3M (show (24 : Int32) = i3 24 from rfl) (rfl : i3 a1 = i3 a1))) (show (4 : Int32) = i3 4 from rfl)) (by omega) (by omega) (by omega))) (.inl rfl) ⟨hZ14I, hZ14K, hZ14U⟩
                  · replace hP := zE_n hP h28
                    refine wz_br (i3T (rfl : i3 a2 = i3 a2) (by omega) (by omega)) (fun h30 => ?_) (fun h30 => ?_)
                    · replace hP := zE_p hP h30
                      refine wz_i0 (i3O (n := 4400) (i3A (i3A (show (3250 : Int32) = i3 3250 from rfl) (i3M (show (24 : Int32) = i3 24 from rfl) (rfl : i3 a1 = i3 a1))) (show (2 : Int32) = i3 2 from rfl)) (by omega) (by omega) (by omega)) ?_
                      have r31 := zM_k hZ14I 2 0 0 (3252 + 24 * a1) (lo := 0) (hi := 1) (by decide) (zs_3250_2 (x := a1) (by omega) (by omega) (by omega))
                      refine wz_br (i3NE (zm_rd (Z := Z14) (ν := ν) (k := 2) (show ((0 : Nat) : Int) = 0 from rfl) (show ((0 : Nat) : Int) = 0 from rfl) (i3I (y := (3252 + 24 * a1)) (i3A (i3A (show (3250 : Int32) = i3 3250 from rfl) (i3M (show (24 : Int32) = i3 24 from rfl) (rfl : i3 a1 = i3 a1))) (show (2 : Int32) = i3 2 from rfl)) (by omega) (by omega) (by omega))) (show (1 : Int32) = i3 1 from rfl) (by omega) (by omega) (by omega) (by omega)) (fun h32 => ?_) (fun h32 => ?_)
                      · replace hP := zE_p hP h32
                        exact zlY hP (show (-1 : Int32) = i3 (-1) from rfl) (.inl rfl) ⟨hZ14I, hZ14K, hZ14U⟩
                      · replace hP := zE_n hP h32
                        refine wz_i0 (i3O (n := 4400) (i3A (i3A (show (3250 : Int32) = i3 3250 from rfl) (i3M (show (24 : Int32) = i3 24 from rfl) (rfl : i3 a1 = i3 a1))) (show (19 : Int32) = i3 19 from rfl)) (by omega) (by omega) (by omega)) ?_
                        have r33 := zM_k hZ14I 2 0 0 (3269 + 24 * a1) (lo := 0) (hi := 743) (by decide) (zs_3250_19 (x := a1) (by omega) (by omega) (by omega))
                        exact zlY hP (zm_rd (Z := Z14) (ν := ν) (k := 2) (show ((0 : Nat) : Int) = 0 from rfl) (show ((0 : Nat) : Int) = 0 from rfl) (i3I (y := (3269 + 24 * a1)) (i3A (i3A (show (3250 : Int32) = i3 3250 from rfl) (i3M (show (24 : Int32) = i3 24 from rfl) (rfl : i3 a1 = i3 a1))) (show (19 : Int32) = i3 19 from rfl)) (by omega) (by omega) (by omega))) (.inl rfl) ⟨hZ14I, hZ14K, hZ14U⟩
                    · replace hP := zE_n hP h30
                      refine wz_br (i3T (rfl : i3 a2 = i3 a2) (by omega) (by omega)) (fun h34 => ?_) (fun h34 => ?_)
                      · replace hP := zE_p hP h34
                        refine wz_i0 (i3O (n := 4400) (i3A (i3A (show (3250 : Int32) = i3 3250 from rfl) (i3M (show (24 : Int32) = i3 24 from rfl) (rfl : i3 a1 = i3 a1))) (show (2 : Int32) = i3 2 from rfl)) (by omega) (by omega) (by omega)) ?_
                        have r35 := zM_k hZ14I 2 0 0 (3252 + 24 * a1) (lo := 0) (hi := 1) (by decide) (zs_3250_2 (x := a1) (by omega) (by omega) (by omega))
                        refine wz_br (i3NE (zm_rd (Z := Z14) (ν := ν) (k := 2) (show ((0 : Nat) : Int) = 0 from rfl) (show ((0 : Nat) : Int) = 0 from rfl) (i3I (y := (3252 + 24 * a1)) (i3A (i3A (show (3250 : Int32) = i3 3250 from rfl) (i3M (show (24 : Int32) = i3 24 from rfl) (rfl : i3 a1 = i3 a1))) (show (2 : Int32) = i3 2 from rfl)) (by omega) (by omega) (by omega))) (show (1 : Int32) = i3 1 from rfl) (by omega) (by omega) (by omega) (by omega)) (fun h36 => ?_) (fun h36 => ?_)
                        · replace hP := zE_p hP h36
                          exact zlY hP (show (-1 : Int32) = i3 (-1) from rfl) (.inl rfl) ⟨hZ14I, hZ14K, hZ14U⟩
                        · replace hP := zE_n hP h36
                          obtain ⟨v37, hv37, c9, lv37, uv37⟩ := sp_521 (ν := ν) hZ14I (a1 := a1) (by omega) (zbh (c := 0) (k := 0) hM (Nat.le_of_ble_eq_true rfl))
                          replace hP := zl_e hP hv37
                          refine wz_cI_of (zas (zcons rfl (zcons (zvi (rfl : i3 a1 = i3 a1)) rfl)) c9) ?_
                          clear c9
                          exact zlY hP (rfl : i3 v37 = i3 v37) (.inl rfl) ⟨hZ14I, hZ14K, hZ14U⟩
                      · replace hP := zE_n hP h34
                        refine wz_br (i3T (rfl : i3 a2 = i3 a2) (by omega) (by omega)) (fun h38 => ?_) (fun h38 => ?_)
                        · replace hP := zE_p hP h38
                          refine wz_i0 (i3O (n := 4400) (i3A (i3A (show (3250 : Int32) = i3 3250 from rfl) (i3M (show (24 : Int32) = i3 24 from rfl) (rfl : i3 a1 = i3 a1))) (show (6 : Int32) = i3 6 from rfl)) (by omega) (by omega) (by omega)) ?_
                          have r39 := zM_f hZ14I 2 0 0 (3256 + 24 * a1)
                          exact zlY hP (zm_rd (Z := Z14) (ν := ν) (k := 2) (show ((0 : Nat) : Int) = 0 from rfl) (show ((0 : Nat) : Int) = 0 from rfl) (i3I (y := (3256 + 24 * a1)) (i3A (i3A (show (3250 : Int32) = i3 3250 from rfl) (i3M (show (24 : Int32) = i3 24 from rfl) (rfl : i3 a1 = i3 a1))) (show (6 : Int32) = i3 6 from rfl)) (by omega) (by omega) (by omega))) (.inl rfl) ⟨hZ14I, hZ14K, hZ14U⟩
                        · replace hP := zE_n hP h38
                          refine wz_i1 (Eq.trans (i3T (rfl : i3 a2 = i3 a2) (by omega) (by omega)) (decide_eq_true (by omega))) ?_
                          refine wz_i0 (i3O (n := 4400) (i3A (i3A (show (3250 : Int32) = i3 3250 from rfl) (i3M (show (24 : Int32) = i3 24 from rfl) (rfl : i3 a1 = i3 a1))) (show (7 : Int32) = i3 7 from rfl)) (by omega) (by omega) (by omega)) ?_
                          have r40 := zM_f hZ14I 2 0 0 (3257 + 24 * a1)
                          exact zlY hP (zm_rd (Z := Z14) (ν := ν) (k := 2) (show ((0 : Nat) : Int) = 0 from rfl) (show ((0 : Nat) : Int) = 0 from rfl) (i3I (y := (3257 + 24 * a1)) (i3A (i3A (show (3250 : Int32) = i3 3250 from rfl) (i3M (show (24 : Int32) = i3 24 from rfl) (rfl : i3 a1 = i3 a1))) (show (7 : Int32) = i3 7 from rfl)) (by omega) (by omega) (by omega))) (.inl rfl) ⟨hZ14I, hZ14K, hZ14U⟩
/- yX12_iInspector -/
def zl_359_1 (x1 : Int) (x2 : Int) (x3 : Int) : Nat → qz_Z → Int → qz_Z × Int
  | 0, Z, x4 => (Z, x4)
  | m + 1, Z, x4 => (if 10 ≤ x4 then (Z, x4) else (zlet (zu Z 2 0 0 (3520 + 10 * x3 + x4) 0) (fun Z2 => zl_359_1 x1 x2 x3 m Z2 (x4 + 1))))
theorem sl_359_1 {s : zSM} {Zs Z : qz_Z} {ν : qz_N} (hZ : zM s Z) (hM : s.2 + 0 ≤ 1000000000) (hK : zC [2] Zs Z) {x1 : Int} (gx1 : 0 ≤ x1 ∧ x1 ≤ 18) {x2 : Int} (gx2 : 0 ≤ x2 ∧ x2 ≤ 3) {x3 : Int} (gx3 : 0 ≤ x3 ∧ x3 ≤ 2) {x4 : Int} (gx4 : 0 ≤ x4 ∧ x4 ≤ 10) (hU : zU [] Zs Z) {k : wz_K} {R : wz_R} {L : qz_L} (hL : qz_fg [true, true, true, true, true] L = [some (.inr (.inr (some (1, 0, 0)))), some (.inl (i3 x1)), some (.inl (i3 x2)), some (.inl (i3 x3)), some (.inl (i3 x4))]) {T : qz_Z × Int} (hP : zE T (zl_359_1 x1 x2 x3 ((10 - x4).toNat + 1) Z x4)) (hk : ∀ (L9 : qz_L) (Z9 : qz_Z) (yx4 : Int), qz_fg [true, true, true, true, false] L9 = [some (.inr (.inr (some (1, 0, 0)))), some (.inl (i3 x1)), some (.inl (i3 x2)), some (.inl (i3 x3)), none] → zM s Z9 → zC [2] Zs Z9 → zU [] Zs Z9 → (0 ≤ yx4 ∧ yx4 ≤ 10) → zE T ((Z9, yx4)) → k 0 (L9, [], zm Z9 ν)) : wz_loop qb_359_1 65536 k R (L, [], zm Z ν) := by
  refine wz_lp sb_359_1 (fun m x => ∃ Z : qz_Z, ∃ x4 : Int, qz_fg [true, true, true, true, true] x.1 = [some (.inr (.inr (some (1, 0, 0)))), some (.inl (i3 x1)), some (.inl (i3 x2)), some (.inl (i3 x3)), some (.inl (i3 x4))] ∧ x.2 = ([], zm Z ν) ∧ zM s Z ∧ zC [2] Zs Z ∧ zU [] Zs Z ∧ m = (10 - x4).toNat ∧ (0 ≤ x4 ∧ x4 ≤ 10) ∧ zE T (zl_359_1 x1 x2 x3 (m + 1) Z x4)) ?_ 65536 ((10 - x4).toNat) _ (by omega) ⟨Z, x4, hL, rfl, hZ, hK, hU, rfl, gx4, hP⟩
  clear hP gx4 hZ hK hU hL
  clear x4
  clear Z
  rintro m ⟨L, st, μ⟩ ⟨Z, x4, hL, hx, hZ, hK, hU, hm, gx4, hP⟩
  cases hx
  refine fb_359_1 (i3 x1) (i3 x2) (i3 x3) (i3 x4) _ _ _ _ hL ?_
  refine wz_br (i3Le (show (10 : Int32) = i3 10 from rfl) (rfl : i3 x4 = i3 x4) (by omega) (by omega) (by omega) (by omega)) (fun h1 => ?_) (fun h1 => ?_)
  · replace hP := zE_p hP h1
    exact hk _ _ _ (zconso rfl (zconso (zvo (rfl : i3 x1 = i3 x1)) (zconso (zvo (rfl : i3 x2 = i3 x2)) (zconso (zvo (rfl : i3 x3 = i3 x3)) (zconso rfl rfl))))) hZ hK hU (by omega)  hP
  · replace hP := zE_n hP h1
    refine wz_i0 (i3O (n := 4400) (i3A (i3A (show (3520 : Int32) = i3 3520 from rfl) (i3M (show (10 : Int32) = i3 10 from rfl) (rfl : i3 x3 = i3 x3))) (rfl : i3 x4 = i3 x4)) (by omega) (by omega) (by omega)) ?_
    obtain ⟨Z2, hZ2⟩ := zx (zu Z 2 0 0 (3520 + 10 * x3 + x4) 0)
    replace hP := zl_e hP hZ2
    have hZ2I := zM_02 hZ hZ2 (by simp only [zsp]; omega)
    have hZ2U : zU [] Zs Z2 := zU_u hU hZ2 (Or.inl rfl)
    have hZ2K : zC [2] Zs Z2 := zC_u hK hZ2 (zcl_2w (by omega) rfl)
    intro μ9 e9
    replace e9 := e9.trans (zm_wI (Z := Z) (ν := ν) hZ2 (show ((0 : Nat) : Int) = 0 from rfl) (show ((0 : Nat) : Int) = 0 from rfl) (i3I (y := (3520 + 10 * x3 + x4)) (i3A (i3A (show (3520 : Int32) = i3 3520 from rfl) (i3M (show (10 : Int32) = i3 10 from rfl) (rfl : i3 x3 = i3 x3))) (rfl : i3 x4 = i3 x4)) (by omega) (by omega) (by omega)) (show (0 : Int32) = i3 0 from rfl))
    subst e9
    obtain ⟨m2, rfl⟩ : ∃ m2, m = m2 + 1 := ⟨m - 1, by omega⟩
    exact wz_k1 ⟨m2, by omega, Z2, (x4 + 1), (zconso rfl (zconso (zvo (rfl : i3 x1 = i3 x1)) (zconso (zvo (rfl : i3 x2 = i3 x2)) (zconso (zvo (rfl : i3 x3 = i3 x3)) (zconso (zvo (i3A (rfl : i3 x4 = i3 x4) (show (1 : Int32) = i3 1 from rfl))) rfl))))), rfl, hZ2I, hZ2K, hZ2U, by omega, by omega,  hP⟩
/- yX12_iInspector -/
def zf_359 (Z : qz_Z) (a1 : Int) (a2 : Int) : qz_Z × Int := (zlet2 (zl_359_1 a1 a2 (Z 2 0 0 3500) 11 Z 0) (fun Z3 y2 => (zlet (zu Z3 2 0 0 (3520 + 10 * (Z 2 0 0 3500)) a1) (fun Z5 => (zlet (zu Z5 2 0 0 (3521 + 10 * (Z 2 0 0 3500)) a2) (fun Z6 => (zlet (zu Z6 2 0 0 (3527 + 10 * (Z 2 0 0 3500)) (-1)) (fun Z7 => (zlet (zu Z7 2 0 0 3500 ((Z7 2 0 0 3500) + 1)) (fun Z9 => (Z9, (Z 2 0 0 3500))))))))))))
theorem sp_359 {s : zSM} {Z : qz_Z} {ν : qz_N} (hZ : zM s Z) {a1 : Int} (ga1 : 0 ≤ a1 ∧ a1 ≤ 18) {a2 : Int} (ga2 : 0 ≤ a2 ∧ a2 ≤ 3) (hM : s.2 + 0 ≤ 1000000000) : ∃ (Z1 : qz_Z) (P : Int), (Z1, P) = zf_359 Z a1 a2 ∧ (qf_359 [.inr (.inr (some (1, 0, 0))), .inl (i3 a1), .inl (i3 a2)] (zm Z ν) = some (zm Z1 ν, .inl (some (.inl (i3 P)))) ∧ zM s Z1 ∧ zC [2] Z Z1 ∧ zU [] Z Z1 ∧ 0 ≤ P ∧ P ≤ 2) := by sorry
/- yX12_inspector -/
def zy_377 (Z : qz_Z) (dm : qz_Z → Int → Int → Int → Int → Int → Int → Int → qz_Z) (a1 : Int) (a2 : Int) : qz_Z × Int := (if a1 < 0 then (zlet (zu Z 1 0 0 2 1) (fun Z5 => (Z5, 0))) else (if 18 < a1 then (zlet (zu Z 1 0 0 2 1) (fun Z7 => (Z7, 0))) else (if a2 < 0 then (zlet (zu Z 1 0 0 2 1) (fun Z9 => (Z9, 0))) else (if 3 < a2 then (zlet (zu Z 1 0 0 2 1) (fun Z11 => (Z11, 0))) else (zlet (zu Z 1 0 0 2 0) (fun Z12 => (if 2 ≤ (Z12 2 0 0 3500) then (zlet (zu Z12 1 0 0 2 2) (fun Z15 => (Z15, 0))) else (zlet (zu Z12 1 0 0 2 0) (fun Z16 => (zlet (dm Z16 23 a1 a2 0 0 0 0) (fun Z23 => (zlet2 (zf_359 Z23 a1 a2) (fun Z24 v25 => (Z24, v25))))))))))))))
theorem sy_377 {s : zSM} {Z : qz_Z} {ν : qz_N} (hZ : zM s Z) (gq : Z 1 0 0 35 = 0) (hM : s.2 + 0 ≤ 1000000000) {a1 : Int} (ga1 : -2147483648 ≤ a1 ∧ a1 ≤ 2147483647) {a2 : Int} (ga2 : -2147483648 ≤ a2 ∧ a2 ≤ 2147483647) {dk : qz_Z → qz_Z} {dm : qz_Z → Int → Int → Int → Int → Int → Int → Int → qz_Z} {ν1 : qz_N} (hdm : zDm s ν ν1 Z dk dm) : ∃ (Z1 : qz_Z) (ν2 : qz_N) (v : Int), (Z1, v) = zy_377 Z dm a1 a2 ∧ (ν2 = ν ∨ ν2 = ν1) ∧ qf_377 [.inr (.inr (some (1, 0, 0))), .inl (i3 a1), .inl (i3 a2)] (zm Z ν) = some (zm Z1 ν2, .inl (some (.inl (i3 v)))) ∧ (fun Z1 => zM s Z1 ∧ zC [1, 2, 101, 102, 200] Z Z1 ∧ zU [] Z Z1) Z1 := by
  obtain ⟨P, hP⟩ := zx (zy_377 Z dm a1 a2)
  refine zc_Y (Q := fun Z1 => zM s Z1 ∧ zC [1, 2, 101, 102, 200] Z Z1 ∧ zU [] Z Z1) hP (fw_377 (i3 a1) (i3 a2) _ _ ?_)
  replace hP : zE P (zy_377 Z dm a1 a2) := hP
  unfold zy_377 at hP
  have r1 := zM_k hZ 1 0 0 35 (lo := 0) (hi := 1) (by decide) rfl
  have r2 := zM_k hZ 1 0 0 34 (lo := 0) (hi := 8) (by decide) rfl
  have r3 := zM_f hZ 1 0 0 37
  refine wz_br (i3L (rfl : i3 a1 = i3 a1) (show (0 : Int32) = i3 0 from rfl) (by omega) (by omega) (by omega) (by omega)) (fun h4 => ?_) (fun h4 => ?_)
  · replace hP := zE_p hP h4
    obtain ⟨Z5, hZ5⟩ := zx (zu Z 1 0 0 2 1)
    replace hP := zl_e hP hZ5
    have hZ5I := zM_u hZ hZ5 (lo := -2147483648) (hi := 2147483647) (by decide) rfl (by omega) ⟨by decide, by decide⟩ (Or.inr (by decide)) rfl
    have hZ5U : zU [] Z Z5 := zU_u zU_r hZ5 (Or.inl rfl)
    have hZ5K : zC [1, 2, 101, 102, 200] Z Z5 := zC_u zC_r hZ5 (by decide)
    intro μ9 e9
    replace e9 := e9.trans (zm_wI (Z := Z) (ν := ν) hZ5 (show ((0 : Nat) : Int) = 0 from rfl) (show ((0 : Nat) : Int) = 0 from rfl) (show ((2 : Nat) : Int) = 2 from rfl) (show (1 : Int32) = i3 1 from rfl))
    subst e9
    exact zlY hP (show (0 : Int32) = i3 0 from rfl) (.inl rfl) ⟨hZ5I, hZ5K, hZ5U⟩
  · replace hP := zE_n hP h4
    refine wz_br (i3L (show (18 : Int32) = i3 18 from rfl) (rfl : i3 a1 = i3 a1) (by omega) (by omega) (by omega) (by omega)) (fun h6 => ?_) (fun h6 => ?_)
    · replace hP := zE_p hP h6
      obtain ⟨Z7, hZ7⟩ := zx (zu Z 1 0 0 2 1)
      replace hP := zl_e hP hZ7
      have hZ7I := zM_u hZ hZ7 (lo := -2147483648) (hi := 2147483647) (by decide) rfl (by omega) ⟨by decide, by decide⟩ (Or.inr (by decide)) rfl
      have hZ7U : zU [] Z Z7 := zU_u zU_r hZ7 (Or.inl rfl)
      have hZ7K : zC [1, 2, 101, 102, 200] Z Z7 := zC_u zC_r hZ7 (by decide)
      intro μ9 e9
      replace e9 := e9.trans (zm_wI (Z := Z) (ν := ν) hZ7 (show ((0 : Nat) : Int) = 0 from rfl) (show ((0 : Nat) : Int) = 0 from rfl) (show ((2 : Nat) : Int) = 2 from rfl) (show (1 : Int32) = i3 1 from rfl))
      subst e9
      exact zlY hP (show (0 : Int32) = i3 0 from rfl) (.inl rfl) ⟨hZ7I, hZ7K, hZ7U⟩
    · replace hP := zE_n hP h6
      refine wz_br (i3L (rfl : i3 a2 = i3 a2) (show (0 : Int32) = i3 0 from rfl) (by omega) (by omega) (by omega) (by omega)) (fun h8 => ?_) (fun h8 => ?_)
      · replace hP := zE_p hP h8
        obtain ⟨Z9, hZ9⟩ := zx (zu Z 1 0 0 2 1)
        replace hP := zl_e hP hZ9
        have hZ9I := zM_u hZ hZ9 (lo := -2147483648) (hi := 2147483647) (by decide) rfl (by omega) ⟨by decide, by decide⟩ (Or.inr (by decide)) rfl
        have hZ9U : zU [] Z Z9 := zU_u zU_r hZ9 (Or.inl rfl)
        have hZ9K : zC [1, 2, 101, 102, 200] Z Z9 := zC_u zC_r hZ9 (by decide)
        intro μ9 e9
        replace e9 := e9.trans (zm_wI (Z := Z) (ν := ν) hZ9 (show ((0 : Nat) : Int) = 0 from rfl) (show ((0 : Nat) : Int) = 0 from rfl) (show ((2 : Nat) : Int) = 2 from rfl) (show (1 : Int32) = i3 1 from rfl))
        subst e9
        exact zlY hP (show (0 : Int32) = i3 0 from rfl) (.inl rfl) ⟨hZ9I, hZ9K, hZ9U⟩
      · replace hP := zE_n hP h8
        refine wz_br (i3L (show (3 : Int32) = i3 3 from rfl) (rfl : i3 a2 = i3 a2) (by omega) (by omega) (by omega) (by omega)) (fun h10 => ?_) (fun h10 => ?_)
        · replace hP := zE_p hP h10
          obtain ⟨Z11, hZ11⟩ := zx (zu Z 1 0 0 2 1)
          replace hP := zl_e hP hZ11
          have hZ11I := zM_u hZ hZ11 (lo := -2147483648) (hi := 2147483647) (by decide) rfl (by omega) ⟨by decide, by decide⟩ (Or.inr (by decide)) rfl
          have hZ11U : zU [] Z Z11 := zU_u zU_r hZ11 (Or.inl rfl)
          have hZ11K : zC [1, 2, 101, 102, 200] Z Z11 := zC_u zC_r hZ11 (by decide)
          intro μ9 e9
          replace e9 := e9.trans (zm_wI (Z := Z) (ν := ν) hZ11 (show ((0 : Nat) : Int) = 0 from rfl) (show ((0 : Nat) : Int) = 0 from rfl) (show ((2 : Nat) : Int) = 2 from rfl) (show (1 : Int32) = i3 1 from rfl))
          subst e9
          exact zlY hP (show (0 : Int32) = i3 0 from rfl) (.inl rfl) ⟨hZ11I, hZ11K, hZ11U⟩
        · replace hP := zE_n hP h10
          obtain ⟨Z12, hZ12⟩ := zx (zu Z 1 0 0 2 0)
          replace hP := zl_e hP hZ12
          have hZ12I := zM_0 hZ hZ12 (by decide) (Or.inr (by decide))
          have hZ12U : zU [] Z Z12 := zU_u zU_r hZ12 (Or.inl rfl)
          have hZ12K : zC [1, 2, 101, 102, 200] Z Z12 := zC_u zC_r hZ12 (by decide)
          intro μ9 e9
          replace e9 := e9.trans (zm_wI (Z := Z) (ν := ν) hZ12 (show ((0 : Nat) : Int) = 0 from rfl) (show ((0 : Nat) : Int) = 0 from rfl) (show ((2 : Nat) : Int) = 2 from rfl) (show (0 : Int32) = i3 0 from rfl))
          subst e9
          have r13 := zM_k hZ12I 2 0 0 3500 (lo := 0) (hi := 2) (by decide) rfl
          refine wz_br (i3Le (show (2 : Int32) = i3 2 from rfl) (zm_rd (Z := Z12) (ν := ν) (k := 2) (show ((0 : Nat) : Int) = 0 from rfl) (show ((0 : Nat) : Int) = 0 from rfl) (show ((3500 : Nat) : Int) = 3500 from rfl)) (by omega) (by omega) (by omega) (by omega)) (fun h14 => ?_) (fun h14 => ?_)
          · replace hP := zE_p hP h14
            obtain ⟨Z15, hZ15⟩ := zx (zu Z12 1 0 0 2 2)
            replace hP := zl_e hP hZ15
            have hZ15I := zM_u hZ12I hZ15 (lo := -2147483648) (hi := 2147483647) (by decide) rfl (by omega) ⟨by decide, by decide⟩ (Or.inr (by decide)) rfl
            have hZ15U : zU [] Z Z15 := zU_u hZ12U hZ15 (Or.inl rfl)
            have hZ15K : zC [1, 2, 101, 102, 200] Z Z15 := zC_u hZ12K hZ15 (by decide)
            intro μ9 e9
            replace e9 := e9.trans (zm_wI (Z := Z12) (ν := ν) hZ15 (show ((0 : Nat) : Int) = 0 from rfl) (show ((0 : Nat) : Int) = 0 from rfl) (show ((2 : Nat) : Int) = 2 from rfl) (show (2 : Int32) = i3 2 from rfl))
            subst e9
            exact zlY hP (show (0 : Int32) = i3 0 from rfl) (.inl rfl) ⟨hZ15I, hZ15K, hZ15U⟩
          · replace hP := zE_n hP h14
            obtain ⟨Z16, hZ16⟩ := zx (zu Z12 1 0 0 2 0)
            replace hP := zl_e hP hZ16
            have hZ16I := zM_0 hZ12I hZ16 (by decide) (Or.inr (by decide))
            have hZ16U : zU [] Z Z16 := zU_u hZ12U hZ16 (Or.inl rfl)
            have hZ16K : zC [1, 2, 101, 102, 200] Z Z16 := zC_u hZ12K hZ16 (by decide)
            intro μ9 e9
            replace e9 := e9.trans (zm_wI (Z := Z12) (ν := ν) hZ16 (show ((0 : Nat) : Int) = 0 from rfl) (show ((0 : Nat) : Int) = 0 from rfl) (show ((2 : Nat) : Int) = 2 from rfl) (show (0 : Int32) = i3 0 from rfl))
            subst e9
            have r17 := zM_k hZ16I 1 0 0 35 (lo := 0) (hi := 1) (by decide) rfl
            have q18 := (zu_ne (k' := 1) (b' := 0) (i' := 0) (j' := 35) hZ16 (fun q => absurd q.2.2.2 (by decide))).trans (zu_ne (k' := 1) (b' := 0) (i' := 0) (j' := 35) hZ12 (fun q => absurd q.2.2.2 (by decide)))
            refine wz_i0 (Eq.trans (i3NE (zm_rd (Z := Z16) (ν := ν) (k := 1) (show ((0 : Nat) : Int) = 0 from rfl) (show ((0 : Nat) : Int) = 0 from rfl) (show ((35 : Nat) : Int) = 35 from rfl)) (show (0 : Int32) = i3 0 from rfl) (by omega) (by omega) (by omega) (by omega)) (decide_eq_false (by omega))) ?_
            have r19 := zM_k hZ16I 1 0 0 34 (lo := 0) (hi := 8) (by decide) rfl
            have q20 := (zu_ne (k' := 1) (b' := 0) (i' := 0) (j' := 34) hZ16 (fun q => absurd q.2.2.2 (by decide))).trans (zu_ne (k' := 1) (b' := 0) (i' := 0) (j' := 34) hZ12 (fun q => absurd q.2.2.2 (by decide)))
            have r21 := zM_f hZ16I 1 0 0 37
            have q22 := (zu_ne (k' := 1) (b' := 0) (i' := 0) (j' := 37) hZ16 (fun q => absurd q.2.2.2 (by decide))).trans (zu_ne (k' := 1) (b' := 0) (i' := 0) (j' := 37) hZ12 (fun q => absurd q.2.2.2 (by decide)))
            obtain ⟨c8, c9, hZ23I, dZ23⟩ := hdm Z16 23 a1 a2 0 0 0 0 hZ16I (by omega) (by omega) (by omega) (by omega) (by omega) (by omega) (by omega) (by omega) (by omega) (by omega)
            obtain ⟨Z23, hZ23⟩ := zx (dm Z16 23 a1 a2 0 0 0 0)
            rw [← hZ23] at c9 hZ23I dZ23
            replace hP := zl_e hP hZ23
            refine wz_cV_of (zas (zcons rfl (zcons (zvi (show (-1 : Int32) = i3 (-1) from rfl)) rfl)) c8) ?_
            refine wz_cV_of (zas (zcons rfl (zcons (zvi (show (23 : Int32) = i3 23 from rfl)) (zcons (zvi (rfl : i3 a1 = i3 a1)) (zcons (zvi (rfl : i3 a2 = i3 a2)) (zcons (zvi (show (0 : Int32) = i3 0 from rfl)) (zcons (zvi (show (0 : Int32) = i3 0 from rfl)) (zcons (zvi (show (0 : Int32) = i3 0 from rfl)) (zcons (zvi (show (0 : Int32) = i3 0 from rfl)) rfl)))))))) c9) ?_
            clear c8 c9
            have hZ23K : zC [1, 2, 101, 102, 200] Z Z23 := zC_t hZ16K (zMd_C dZ23) (by decide)
            have hZ23U : zU [] Z Z23 := zU_t hZ16U (zMd_U dZ23) zU_b0
            obtain ⟨Z24, v25, hv25, c9, hZ24I, kZ24, jZ24, lv25, uv25⟩ := sp_359 (ν := ν1) hZ23I (a1 := a1) (by omega) (a2 := a2) (by omega) (zbh (c := 0) (k := 0) hM (Nat.le_of_ble_eq_true rfl))
            have hZ24U : zU [] Z Z24 := zU_t hZ23U jZ24 zU_b0
            have hZ24K : zC [1, 2, 101, 102, 200] Z Z24 := zC_t hZ23K kZ24 (by decide)
            replace hP := zl_e2 hP hv25
            refine wz_cI_of (zas (zcons rfl (zcons (zvi (rfl : i3 a1 = i3 a1)) (zcons (zvi (rfl : i3 a2 = i3 a2)) rfl))) c9) ?_
            clear c9 hv25
            exact zlY hP (rfl : i3 v25 = i3 v25) (.inr rfl) ⟨hZ24I, hZ24K, hZ24U⟩
/- yX12_rKept -/
def zf_475 (Z : qz_Z) (a1 : Int) (a2 : Int) : Int := (if a2 < 6 ∨ 10 < a2 then (Z 2 0 0 (1210 + 12 * a1 + a2)) else (if a2 = 6 then (zlet (zf_488 Z a1) (fun v4 => v4)) else (if a2 = 7 then (Z 2 0 0 (1216 + 12 * a1)) else (if a2 = 8 then (Z 2 0 0 (1217 + 12 * a1)) else (if a2 = 9 then (Z 2 0 0 (1218 + 12 * a1)) else (zlet (zf_390 Z a1) (fun v11 => (if v11 = 0 then (-1) else (Z 2 0 0 (3510 + a1))))))))))
theorem sp_475 {s : zSM} {Z : qz_Z} {ν : qz_N} (hZ : zM s Z) {a1 : Int} (ga1 : 0 ≤ a1 ∧ a1 ≤ 5) {a2 : Int} (ga2 : 0 ≤ a2 ∧ a2 ≤ 10) (hM : s.2 + 0 ≤ 1000000000) : ∃ P : Int, P = zf_475 Z a1 a2 ∧ (qf_475 [.inr (.inr (some (1, 0, 0))), .inl (i3 a1), .inl (i3 a2)] (zm Z ν) = some (zm Z ν, .inl (some (.inl (i3 P)))) ∧ -2147483648 ≤ P ∧ P ≤ 2147483647) := by
  obtain ⟨P, hP⟩ := zx (zf_475 Z a1 a2)
  refine zc_R (Q := fun P => -2147483648 ≤ P ∧ P ≤ 2147483647) hP (fw_475 (i3 a1) (i3 a2) _ _ ?_)
  replace hP : zE P (zf_475 Z a1 a2) := hP
  unfold zf_475 at hP
  refine wz_br (i3To (rfl : i3 a2 = i3 a2) (by omega) (by omega)) (fun h1 => ?_) (fun h1 => ?_)
  · replace hP := zE_p hP h1
    refine wz_i0 (i3O (n := 4400) (i3A (i3A (show (1210 : Int32) = i3 1210 from rfl) (i3M (show (12 : Int32) = i3 12 from rfl) (rfl : i3 a1 = i3 a1))) (rfl : i3 a2 = i3 a2)) (by omega) (by omega) (by omega)) ?_
    have r2 := zM_f hZ 2 0 0 (1210 + 12 * a1 + a2)
    exact zlR hP (zm_rd (Z := Z) (ν := ν) (k := 2) (show ((0 : Nat) : Int) = 0 from rfl) (show ((0 : Nat) : Int) = 0 from rfl) (i3I (y := (1210 + 12 * a1 + a2)) (i3A (i3A (show (1210 : Int32) = i3 1210 from rfl) (i3M (show (12 : Int32) = i3 12 from rfl) (rfl : i3 a1 = i3 a1))) (rfl : i3 a2 = i3 a2)) (by omega) (by omega) (by omega))) ⟨by omega, by omega⟩
  · replace hP := zE_n hP h1
    refine wz_br (i3T (rfl : i3 a2 = i3 a2) (by omega) (by omega)) (fun h3 => ?_) (fun h3 => ?_)
    · replace hP := zE_p hP h3
      obtain ⟨v4, hv4, c9, lv4, uv4⟩ := sp_488 (ν := ν) hZ (a1 := a1) (by omega) (zbh (c := 0) (k := 0) hM (Nat.le_of_ble_eq_true rfl))
      replace hP := zl_e hP hv4
      refine wz_cI_of (zas (zcons rfl (zcons (zvi (rfl : i3 a1 = i3 a1)) rfl)) c9) ?_
      clear c9
      exact zlR hP (rfl : i3 v4 = i3 v4) ⟨by omega, by omega⟩
    · replace hP := zE_n hP h3
      refine wz_br (i3T (rfl : i3 a2 = i3 a2) (by omega) (by omega)) (fun h5 => ?_) (fun h5 => ?_)
      · replace hP := zE_p hP h5
        refine wz_i0 (i3O (n := 4400) (i3A (i3A (show (1210 : Int32) = i3 1210 from rfl) (i3M (show (12 : Int32) = i3 12 from rfl) (rfl : i3 a1 = i3 a1))) (show (6 : Int32) = i3 6 from rfl)) (by omega) (by omega) (by omega)) ?_
        have r6 := zM_f hZ 2 0 0 (1216 + 12 * a1)
        exact zlR hP (zm_rd (Z := Z) (ν := ν) (k := 2) (show ((0 : Nat) : Int) = 0 from rfl) (show ((0 : Nat) : Int) = 0 from rfl) (i3I (y := (1216 + 12 * a1)) (i3A (i3A (show (1210 : Int32) = i3 1210 from rfl) (i3M (show (12 : Int32) = i3 12 from rfl) (rfl : i3 a1 = i3 a1))) (show (6 : Int32) = i3 6 from rfl)) (by omega) (by omega) (by omega))) ⟨by omega, by omega⟩
      · replace hP := zE_n hP h5
        refine wz_br (i3T (rfl : i3 a2 = i3 a2) (by omega) (by omega)) (fun h7 => ?_) (fun h7 => ?_)
        · replace hP := zE_p hP h7
          refine wz_i0 (i3O (n := 4400) (i3A (i3A (show (1210 : Int32) = i3 1210 from rfl) (i3M (show (12 : Int32) = i3 12 from rfl) (rfl : i3 a1 = i3 a1))) (show (7 : Int32) = i3 7 from rfl)) (by omega) (by omega) (by omega)) ?_
          have r8 := zM_f hZ 2 0 0 (1217 + 12 * a1)
          exact zlR hP (zm_rd (Z := Z) (ν := ν) (k := 2) (show ((0 : Nat) : Int) = 0 from rfl) (show ((0 : Nat) : Int) = 0 from rfl) (i3I (y := (1217 + 12 * a1)) (i3A (i3A (show (1210 : Int32) = i3 1210 from rfl) (i3M (show (12 : Int32) = i3 12 from rfl) (rfl : i3 a1 = i3 a1))) (show (7 : Int32) = i3 7 from rfl)) (by omega) (by omega) (by omega))) ⟨by omega, by omega⟩
        · replace hP := zE_n hP h7
          refine wz_br (i3T (rfl : i3 a2 = i3 a2) (by omega) (by omega)) (fun h9 => ?_) (fun h9 => ?_)
          · replace hP := zE_p hP h9
            refine wz_i0 (i3O (n := 4400) (i3A (i3A (show (1210 : Int32) = i3 1210 from rfl) (i3M (show (12 : Int32) = i3 12 from rfl) (rfl : i3 a1 = i3 a1))) (show (8 : Int32) = i3 8 from rfl)) (by omega) (by omega) (by omega)) ?_
            have r10 := zM_f hZ 2 0 0 (1218 + 12 * a1)
            exact zlR hP (zm_rd (Z := Z) (ν := ν) (k := 2) (show ((0 : Nat) : Int) = 0 from rfl) (show ((0 : Nat) : Int) = 0 from rfl) (i3I (y := (1218 + 12 * a1)) (i3A (i3A (show (1210 : Int32) = i3 1210 from rfl) (i3M (show (12 : Int32) = i3 12 from rfl) (rfl : i3 a1 = i3 a1))) (show (8 : Int32) = i3 8 from rfl)) (by omega) (by omega) (by omega))) ⟨by omega, by omega⟩
          · replace hP := zE_n hP h9
            refine wz_i1 (Eq.trans (i3T (rfl : i3 a2 = i3 a2) (by omega) (by omega)) (decide_eq_true (by omega))) ?_
            obtain ⟨v11, hv11, c9, lv11, uv11⟩ := sp_390 (ν := ν) hZ (a1 := a1) (by omega) (zbh (c := 0) (k := 0) hM (Nat.le_of_ble_eq_true rfl))
            replace hP := zl_e hP hv11
            refine wz_cI_of (zas (zcons rfl (zcons (zvi (rfl : i3 a1 = i3 a1)) rfl)) c9) ?_
            clear c9
            refine wz_br (i3E (rfl : i3 v11 = i3 v11) (show (0 : Int32) = i3 0 from rfl) (by omega) (by omega) (by omega) (by omega)) (fun h12 => ?_) (fun h12 => ?_)
            · replace hP := zE_p hP h12
              exact zlR hP (show (-1 : Int32) = i3 (-1) from rfl) ⟨by omega, by omega⟩
            · replace hP := zE_n hP h12
              refine wz_i0 (i3O (n := 4400) (i3A (show (3510 : Int32) = i3 3510 from rfl) (rfl : i3 a1 = i3 a1)) (by omega) (by omega) (by omega)) ?_
              have r13 := zM_k hZ 2 0 0 (3510 + a1) (lo := 0) (hi := 695) (by decide) (zs_3509 (by omega) (by omega))
              exact zlR hP (zm_rd (Z := Z) (ν := ν) (k := 2) (show ((0 : Nat) : Int) = 0 from rfl) (show ((0 : Nat) : Int) = 0 from rfl) (i3I (y := (3510 + a1)) (i3A (show (3510 : Int32) = i3 3510 from rfl) (rfl : i3 a1 = i3 a1)) (by omega) (by omega) (by omega))) ⟨by omega, by omega⟩
/- yX12_kept -/
def zy_425 (Z : qz_Z) (a1 : Int) (a2 : Int) : qz_Z × Int := (if a1 < 0 then (zlet (zu Z 1 0 0 2 1) (fun Z5 => (Z5, 0))) else (if ((Z 2 0 0 1200) - 1) < a1 then (zlet (zu Z 1 0 0 2 1) (fun Z8 => (Z8, 0))) else (zlet (zu Z 1 0 0 2 0) (fun Z9 => (if a2 < 0 then (zlet (zu Z9 1 0 0 2 2) (fun Z11 => (Z11, 0))) else (if 10 < a2 then (zlet (zu Z9 1 0 0 2 2) (fun Z13 => (Z13, 0))) else (zlet (zu Z9 1 0 0 2 0) (fun Z14 => (zlet (zf_475 Z14 a1 a2) (fun v15 => (Z14, v15)))))))))))
theorem sy_425 {s : zSM} {Z : qz_Z} {ν : qz_N} (hZ : zM s Z) (gq : Z 1 0 0 35 = 0) (hM : s.2 + 0 ≤ 1000000000) {a1 : Int} (ga1 : -2147483648 ≤ a1 ∧ a1 ≤ 2147483647) {a2 : Int} (ga2 : -2147483648 ≤ a2 ∧ a2 ≤ 2147483647) {ν1 : qz_N} : ∃ (Z1 : qz_Z) (ν2 : qz_N) (v : Int), (Z1, v) = zy_425 Z a1 a2 ∧ (ν2 = ν ∨ ν2 = ν1) ∧ qf_425 [.inr (.inr (some (1, 0, 0))), .inl (i3 a1), .inl (i3 a2)] (zm Z ν) = some (zm Z1 ν2, .inl (some (.inl (i3 v)))) ∧ (fun Z1 => zM s Z1 ∧ zC [1] Z Z1 ∧ zU [] Z Z1) Z1 := by
  obtain ⟨P, hP⟩ := zx (zy_425 Z a1 a2)
  refine zc_Y (Q := fun Z1 => zM s Z1 ∧ zC [1] Z Z1 ∧ zU [] Z Z1) hP (fw_425 (i3 a1) (i3 a2) _ _ ?_)
  replace hP : zE P (zy_425 Z a1 a2) := hP
  unfold zy_425 at hP
  have r1 := zM_k hZ 1 0 0 35 (lo := 0) (hi := 1) (by decide) rfl
  have r2 := zM_k hZ 1 0 0 34 (lo := 0) (hi := 8) (by decide) rfl
  have r3 := zM_f hZ 1 0 0 37
  refine wz_br (i3L (rfl : i3 a1 = i3 a1) (show (0 : Int32) = i3 0 from rfl) (by omega) (by omega) (by omega) (by omega)) (fun h4 => ?_) (fun h4 => ?_)
  · replace hP := zE_p hP h4
    obtain ⟨Z5, hZ5⟩ := zx (zu Z 1 0 0 2 1)
    replace hP := zl_e hP hZ5
    have hZ5I := zM_u hZ hZ5 (lo := -2147483648) (hi := 2147483647) (by decide) rfl (by omega) ⟨by decide, by decide⟩ (Or.inr (by decide)) rfl
    have hZ5U : zU [] Z Z5 := zU_u zU_r hZ5 (Or.inl rfl)
    have hZ5K : zC [1] Z Z5 := zC_u zC_r hZ5 (by decide)
    intro μ9 e9
    replace e9 := e9.trans (zm_wI (Z := Z) (ν := ν) hZ5 (show ((0 : Nat) : Int) = 0 from rfl) (show ((0 : Nat) : Int) = 0 from rfl) (show ((2 : Nat) : Int) = 2 from rfl) (show (1 : Int32) = i3 1 from rfl))
    subst e9
    exact zlY hP (show (0 : Int32) = i3 0 from rfl) (.inl rfl) ⟨hZ5I, hZ5K, hZ5U⟩
  · replace hP := zE_n hP h4
    have r6 := zM_k hZ 2 0 0 1200 (lo := 0) (hi := 6) (by decide) rfl
    refine wz_br (i3L (i3S (zm_rd (Z := Z) (ν := ν) (k := 2) (show ((0 : Nat) : Int) = 0 from rfl) (show ((0 : Nat) : Int) = 0 from rfl) (show ((1200 : Nat) : Int) = 1200 from rfl)) (show (1 : Int32) = i3 1 from rfl)) (rfl : i3 a1 = i3 a1) (by omega) (by omega) (by omega) (by omega)) (fun h7 => ?_) (fun h7 => ?_)
    · replace hP := zE_p hP h7
      obtain ⟨Z8, hZ8⟩ := zx (zu Z 1 0 0 2 1)
      replace hP := zl_e hP hZ8
      have hZ8I := zM_u hZ hZ8 (lo := -2147483648) (hi := 2147483647) (by decide) rfl (by omega) ⟨by decide, by decide⟩ (Or.inr (by decide)) rfl
      have hZ8U : zU [] Z Z8 := zU_u zU_r hZ8 (Or.inl rfl)
      have hZ8K : zC [1] Z Z8 := zC_u zC_r hZ8 (by decide)
      intro μ9 e9
      replace e9 := e9.trans (zm_wI (Z := Z) (ν := ν) hZ8 (show ((0 : Nat) : Int) = 0 from rfl) (show ((0 : Nat) : Int) = 0 from rfl) (show ((2 : Nat) : Int) = 2 from rfl) (show (1 : Int32) = i3 1 from rfl))
      subst e9
      exact zlY hP (show (0 : Int32) = i3 0 from rfl) (.inl rfl) ⟨hZ8I, hZ8K, hZ8U⟩
    · replace hP := zE_n hP h7
      obtain ⟨Z9, hZ9⟩ := zx (zu Z 1 0 0 2 0)
      replace hP := zl_e hP hZ9
      have hZ9I := zM_0 hZ hZ9 (by decide) (Or.inr (by decide))
      have hZ9U : zU [] Z Z9 := zU_u zU_r hZ9 (Or.inl rfl)
      have hZ9K : zC [1] Z Z9 := zC_u zC_r hZ9 (by decide)
      intro μ9 e9
      replace e9 := e9.trans (zm_wI (Z := Z) (ν := ν) hZ9 (show ((0 : Nat) : Int) = 0 from rfl) (show ((0 : Nat) : Int) = 0 from rfl) (show ((2 : Nat) : Int) = 2 from rfl) (show (0 : Int32) = i3 0 from rfl))
      subst e9
      refine wz_br (i3L (rfl : i3 a2 = i3 a2) (show (0 : Int32) = i3 0 from rfl) (by omega) (by omega) (by omega) (by omega)) (fun h10 => ?_) (fun h10 => ?_)
      · replace hP := zE_p hP h10
        obtain ⟨Z11, hZ11⟩ := zx (zu Z9 1 0 0 2 2)
        replace hP := zl_e hP hZ11
        have hZ11I := zM_u hZ9I hZ11 (lo := -2147483648) (hi := 2147483647) (by decide) rfl (by omega) ⟨by decide, by decide⟩ (Or.inr (by decide)) rfl
        have hZ11U : zU [] Z Z11 := zU_u hZ9U hZ11 (Or.inl rfl)
        have hZ11K : zC [1] Z Z11 := zC_u hZ9K hZ11 (by decide)
        intro μ9 e9
        replace e9 := e9.trans (zm_wI (Z := Z9) (ν := ν) hZ11 (show ((0 : Nat) : Int) = 0 from rfl) (show ((0 : Nat) : Int) = 0 from rfl) (show ((2 : Nat) : Int) = 2 from rfl) (show (2 : Int32) = i3 2 from rfl))
        subst e9
        exact zlY hP (show (0 : Int32) = i3 0 from rfl) (.inl rfl) ⟨hZ11I, hZ11K, hZ11U⟩
      · replace hP := zE_n hP h10
        refine wz_br (i3L (show (10 : Int32) = i3 10 from rfl) (rfl : i3 a2 = i3 a2) (by omega) (by omega) (by omega) (by omega)) (fun h12 => ?_) (fun h12 => ?_)
        · replace hP := zE_p hP h12
          obtain ⟨Z13, hZ13⟩ := zx (zu Z9 1 0 0 2 2)
          replace hP := zl_e hP hZ13
          have hZ13I := zM_u hZ9I hZ13 (lo := -2147483648) (hi := 2147483647) (by decide) rfl (by omega) ⟨by decide, by decide⟩ (Or.inr (by decide)) rfl
          have hZ13U : zU [] Z Z13 := zU_u hZ9U hZ13 (Or.inl rfl)
          have hZ13K : zC [1] Z Z13 := zC_u hZ9K hZ13 (by decide)
          intro μ9 e9
          replace e9 := e9.trans (zm_wI (Z := Z9) (ν := ν) hZ13 (show ((0 : Nat) : Int) = 0 from rfl) (show ((0 : Nat) : Int) = 0 from rfl) (show ((2 : Nat) : Int) = 2 from rfl) (show (2 : Int32) = i3 2 from rfl))
          subst e9
          exact zlY hP (show (0 : Int32) = i3 0 from rfl) (.inl rfl) ⟨hZ13I, hZ13K, hZ13U⟩
        · replace hP := zE_n hP h12
          obtain ⟨Z14, hZ14⟩ := zx (zu Z9 1 0 0 2 0)
          replace hP := zl_e hP hZ14
          have hZ14I := zM_0 hZ9I hZ14 (by decide) (Or.inr (by decide))
          have hZ14U : zU [] Z Z14 := zU_u hZ9U hZ14 (Or.inl rfl)
          have hZ14K : zC [1] Z Z14 := zC_u hZ9K hZ14 (by decide)
          intro μ9 e9
          replace e9 := e9.trans (zm_wI (Z := Z9) (ν := ν) hZ14 (show ((0 : Nat) : Int) = 0 from rfl) (show ((0 : Nat) : Int) = 0 from rfl) (show ((2 : Nat) : Int) = 2 from rfl) (show (0 : Int32) = i3 0 from rfl))
          subst e9
          obtain ⟨v15, hv15, c9, lv15, uv15⟩ := sp_475 (ν := ν) hZ14I (a1 := a1) (by omega) (a2 := a2) (by omega) (zbh (c := 0) (k := 0) hM (Nat.le_of_ble_eq_true rfl))
          replace hP := zl_e hP hv15
          refine wz_cI_of (zas (zcons rfl (zcons (zvi (rfl : i3 a1 = i3 a1)) (zcons (zvi (rfl : i3 a2 = i3 a2)) rfl))) c9) ?_
          clear c9
          exact zlY hP (rfl : i3 v15 = i3 v15) (.inl rfl) ⟨hZ14I, hZ14K, hZ14U⟩
/- yX12_mayLoad -/
def zf_437 (Z : qz_Z) (a1 : Int) (a2 : Int) : Int := (if (Z 2 0 0 (2019 + 16 * a1)) ≠ 0 then 0 else (zlet (zf_390 Z (Z 2 0 0 (211 + 20 * (Z 2 0 0 (2010 + 16 * a1))))) (fun v6 => (if v6 ≠ 0 then 0 else (if (Z 2 0 0 (3252 + 24 * a2)) ≠ 1 then (zlet (zf_518 Z a2 1) (fun v10 => (if (Z 2 0 0 (3250 + 24 * a2)) < (w3 (v10 + (Z 2 0 0 (2013 + 16 * a1)))) then 0 else (zlet (zf_518 Z a2 0) (fun v15 => (if v15 ≤ 0 then (zlet (zf_508 Z) (fun v17 => (if (Z 2 0 0 3201) ≤ v17 then 0 else 1))) else 1)))))) else 0)))))
theorem sp_437 {s : zSM} {Z : qz_Z} {ν : qz_N} (hZ : zM s Z) {a1 : Int} (ga1 : 0 ≤ a1 ∧ a1 ≤ 59) {a2 : Int} (ga2 : 0 ≤ a2 ∧ a2 ≤ 3) (hM : s.2 + 0 ≤ 1000000000) : ∃ P : Int, P = zf_437 Z a1 a2 ∧ (qf_437 [.inr (.inr (some (1, 0, 0))), .inl (i3 a1), .inl (i3 a2)] (zm Z ν) = some (zm Z ν, .inl (some (.inl (i3 P)))) ∧ 0 ≤ P ∧ P ≤ 1) := by
  obtain ⟨P, hP⟩ := zx (zf_437 Z a1 a2)
  refine zc_R (Q := fun P => 0 ≤ P ∧ P ≤ 1) hP (fw_437 (i3 a1) (i3 a2) _ _ ?_)
  replace hP : zE P (zf_437 Z a1 a2) := hP
  unfold zf_437 at hP
  refine wz_i0 (i3O (n := 4400) (i3A (i3A (show (2010 : Int32) = i3 2010 from rfl) (i3M (show (16 : Int32) = i3 16 from rfl) (rfl : i3 a1 = i3 a1))) (show (9 : Int32) = i3 9 from rfl)) (by omega) (by omega) (by omega)) ?_
  have r1 := zM_k hZ 2 0 0 (2019 + 16 * a1) (lo := 0) (hi := 3) (by decide) (zs_2010_9 (x := a1) (by omega) (by omega) (by omega))
  have r2 := zM_lt2 hZ a1
  refine wz_br (i3NE (zm_rd (Z := Z) (ν := ν) (k := 2) (show ((0 : Nat) : Int) = 0 from rfl) (show ((0 : Nat) : Int) = 0 from rfl) (i3I (y := (2019 + 16 * a1)) (i3A (i3A (show (2010 : Int32) = i3 2010 from rfl) (i3M (show (16 : Int32) = i3 16 from rfl) (rfl : i3 a1 = i3 a1))) (show (9 : Int32) = i3 9 from rfl)) (by omega) (by omega) (by omega))) (show (0 : Int32) = i3 0 from rfl) (by omega) (by omega) (by omega) (by omega)) (fun h3 => ?_) (fun h3 => ?_)
  · replace hP := zE_p hP h3
    exact zlR hP (show (0 : Int32) = i3 0 from rfl) ⟨by omega, by omega⟩
  · replace hP := zE_n hP h3
    refine wz_i0 (i3O (n := 4400) (i3A (i3A (show (2010 : Int32) = i3 2010 from rfl) (i3M (show (16 : Int32) = i3 16 from rfl) (rfl : i3 a1 = i3 a1))) (show (0 : Int32) = i3 0 from rfl)) (by omega) (by omega) (by omega)) ?_
    have r4 := zM_k hZ 2 0 0 (2010 + 16 * a1) (lo := 0) (hi := 47) (by decide) (zs_2010_0 (x := a1) (by omega) (by omega) (by omega))
    refine wz_i0 (i3O (n := 4400) (i3A (i3A (show (200 : Int32) = i3 200 from rfl) (i3M (show (20 : Int32) = i3 20 from rfl) (zm_rd (Z := Z) (ν := ν) (k := 2) (show ((0 : Nat) : Int) = 0 from rfl) (show ((0 : Nat) : Int) = 0 from rfl) (i3I (y := (2010 + 16 * a1)) (i3A (i3A (show (2010 : Int32) = i3 2010 from rfl) (i3M (show (16 : Int32) = i3 16 from rfl) (rfl : i3 a1 = i3 a1))) (show (0 : Int32) = i3 0 from rfl)) (by omega) (by omega) (by omega))))) (show (11 : Int32) = i3 11 from rfl)) (by omega) (by omega) (by omega)) ?_
    have r5 := zM_k hZ 2 0 0 (211 + 20 * (Z 2 0 0 (2010 + 16 * a1))) (lo := -1) (hi := 6) (by decide) (zs_200_11 (x := (Z 2 0 0 (2010 + 16 * a1))) (by omega) (by omega) (by omega))
    obtain ⟨v6, hv6, c9, lv6, uv6⟩ := sp_390 (ν := ν) hZ (a1 := (Z 2 0 0 (211 + 20 * (Z 2 0 0 (2010 + 16 * a1))))) (by omega) (zbh (c := 0) (k := 0) hM (Nat.le_of_ble_eq_true rfl))
    replace hP := zl_e hP hv6
    refine wz_cI_of (zas (zcons rfl (zcons (zvi (zm_rd (Z := Z) (ν := ν) (k := 2) (show ((0 : Nat) : Int) = 0 from rfl) (show ((0 : Nat) : Int) = 0 from rfl) (i3I (y := (211 + 20 * (Z 2 0 0 (2010 + 16 * a1)))) (i3A (i3A (show (200 : Int32) = i3 200 from rfl) (i3M (show (20 : Int32) = i3 20 from rfl) (zm_rd (Z := Z) (ν := ν) (k := 2) (show ((0 : Nat) : Int) = 0 from rfl) (show ((0 : Nat) : Int) = 0 from rfl) (i3I (y := (2010 + 16 * a1)) (i3A (i3A (show (2010 : Int32) = i3 2010 from rfl) (i3M (show (16 : Int32) = i3 16 from rfl) (rfl : i3 a1 = i3 a1))) (show (0 : Int32) = i3 0 from rfl)) (by omega) (by omega) (by omega))))) (show (11 : Int32) = i3 11 from rfl)) (by omega) (by omega) (by omega)))) rfl)) c9) ?_
    clear c9
    refine wz_br (i3NE (rfl : i3 v6 = i3 v6) (show (0 : Int32) = i3 0 from rfl) (by omega) (by omega) (by omega) (by omega)) (fun h7 => ?_) (fun h7 => ?_)
    · replace hP := zE_p hP h7
      exact zlR hP (show (0 : Int32) = i3 0 from rfl) ⟨by omega, by omega⟩
    · replace hP := zE_n hP h7
      refine wz_i0 (i3O (n := 4400) (i3A (i3A (show (3250 : Int32) = i3 3250 from rfl) (i3M (show (24 : Int32) = i3 24 from rfl) (rfl : i3 a2 = i3 a2))) (show (2 : Int32) = i3 2 from rfl)) (by omega) (by omega) (by omega)) ?_
      have r8 := zM_k hZ 2 0 0 (3252 + 24 * a2) (lo := 0) (hi := 1) (by decide) (zs_3250_2 (x := a2) (by omega) (by omega) (by omega))
      refine wz_br (i3NE (zm_rd (Z := Z) (ν := ν) (k := 2) (show ((0 : Nat) : Int) = 0 from rfl) (show ((0 : Nat) : Int) = 0 from rfl) (i3I (y := (3252 + 24 * a2)) (i3A (i3A (show (3250 : Int32) = i3 3250 from rfl) (i3M (show (24 : Int32) = i3 24 from rfl) (rfl : i3 a2 = i3 a2))) (show (2 : Int32) = i3 2 from rfl)) (by omega) (by omega) (by omega))) (show (1 : Int32) = i3 1 from rfl) (by omega) (by omega) (by omega) (by omega)) (fun h9 => ?_) (fun h9 => ?_)
      · replace hP := zE_p hP h9
        obtain ⟨v10, hv10, c9, lv10, uv10⟩ := sp_518 (ν := ν) hZ (a1 := a2) (by omega) (a2 := 1) (by omega) (zbh (c := 0) (k := 0) hM (Nat.le_of_ble_eq_true rfl))
        replace hP := zl_e hP hv10
        refine wz_cI_of (zas (zcons rfl (zcons (zvi (rfl : i3 a2 = i3 a2)) (zcons (zvi (show (1 : Int32) = i3 1 from rfl)) rfl))) c9) ?_
        clear c9
        refine wz_i0 (i3O (n := 4400) (i3A (i3A (show (2010 : Int32) = i3 2010 from rfl) (i3M (show (16 : Int32) = i3 16 from rfl) (rfl : i3 a1 = i3 a1))) (show (3 : Int32) = i3 3 from rfl)) (by omega) (by omega) (by omega)) ?_
        refine wz_i0 (i3O (n := 4400) (i3A (i3A (show (3250 : Int32) = i3 3250 from rfl) (i3M (show (24 : Int32) = i3 24 from rfl) (rfl : i3 a2 = i3 a2))) (show (0 : Int32) = i3 0 from rfl)) (by omega) (by omega) (by omega)) ?_
        have r11 := zM_k hZ 2 0 0 (3250 + 24 * a2) (lo := 0) (hi := 99) (by decide) (zs_3250_0 (x := a2) (by omega) (by omega) (by omega))
        have r12 := zM_k hZ 2 0 0 (2013 + 16 * a1) (lo := 0) (hi := 40) (by decide) (zs_2010_3 (x := a1) (by omega) (by omega) (by omega))
        have r13 := w3_r (v10 + (Z 2 0 0 (2013 + 16 * a1)))
        refine wz_br (i3L (zm_rd (Z := Z) (ν := ν) (k := 2) (show ((0 : Nat) : Int) = 0 from rfl) (show ((0 : Nat) : Int) = 0 from rfl) (i3I (y := (3250 + 24 * a2)) (i3A (i3A (show (3250 : Int32) = i3 3250 from rfl) (i3M (show (24 : Int32) = i3 24 from rfl) (rfl : i3 a2 = i3 a2))) (show (0 : Int32) = i3 0 from rfl)) (by omega) (by omega) (by omega))) (i3W (i3A (rfl : i3 v10 = i3 v10) (zm_rd (Z := Z) (ν := ν) (k := 2) (show ((0 : Nat) : Int) = 0 from rfl) (show ((0 : Nat) : Int) = 0 from rfl) (i3I (y := (2013 + 16 * a1)) (i3A (i3A (show (2010 : Int32) = i3 2010 from rfl) (i3M (show (16 : Int32) = i3 16 from rfl) (rfl : i3 a1 = i3 a1))) (show (3 : Int32) = i3 3 from rfl)) (by omega) (by omega) (by omega))))) (by omega) (by omega) (by omega) (by omega)) (fun h14 => ?_) (fun h14 => ?_)
        · replace hP := zE_p hP h14
          exact zlR hP (show (0 : Int32) = i3 0 from rfl) ⟨by omega, by omega⟩
        · replace hP := zE_n hP h14
          refine wz_i0 (i3O (n := 4400) (i3A (i3A (show (3250 : Int32) = i3 3250 from rfl) (i3M (show (24 : Int32) = i3 24 from rfl) (rfl : i3 a2 = i3 a2))) (show (2 : Int32) = i3 2 from rfl)) (by omega) (by omega) (by omega)) ?_
          refine wz_i1 (Eq.trans (i3NE (zm_rd (Z := Z) (ν := ν) (k := 2) (show ((0 : Nat) : Int) = 0 from rfl) (show ((0 : Nat) : Int) = 0 from rfl) (i3I (y := (3252 + 24 * a2)) (i3A (i3A (show (3250 : Int32) = i3 3250 from rfl) (i3M (show (24 : Int32) = i3 24 from rfl) (rfl : i3 a2 = i3 a2))) (show (2 : Int32) = i3 2 from rfl)) (by omega) (by omega) (by omega))) (show (1 : Int32) = i3 1 from rfl) (by omega) (by omega) (by omega) (by omega)) (decide_eq_true (by omega))) ?_
          obtain ⟨v15, hv15, c9, lv15, uv15⟩ := sp_518 (ν := ν) hZ (a1 := a2) (by omega) (a2 := 0) (by omega) (zbh (c := 0) (k := 0) hM (Nat.le_of_ble_eq_true rfl))
          replace hP := zl_e hP hv15
          refine wz_cI_of (zas (zcons rfl (zcons (zvi (rfl : i3 a2 = i3 a2)) (zcons (zvi (show (0 : Int32) = i3 0 from rfl)) rfl))) c9) ?_
          clear c9
          refine wz_br (i3Le (rfl : i3 v15 = i3 v15) (show (0 : Int32) = i3 0 from rfl) (by omega) (by omega) (by omega) (by omega)) (fun h16 => ?_) (fun h16 => ?_)
          · replace hP := zE_p hP h16
            obtain ⟨v17, hv17, c9, lv17, uv17⟩ := sp_508 (ν := ν) hZ (zbh (c := 0) (k := 0) hM (Nat.le_of_ble_eq_true rfl))
            replace hP := zl_e hP hv17
            refine wz_cI_of (zas (zcons rfl rfl) c9) ?_
            clear c9
            have r18 := zM_k hZ 2 0 0 3201 (lo := 0) (hi := 4) (by decide) rfl
            refine wz_br (i3Le (zm_rd (Z := Z) (ν := ν) (k := 2) (show ((0 : Nat) : Int) = 0 from rfl) (show ((0 : Nat) : Int) = 0 from rfl) (show ((3201 : Nat) : Int) = 3201 from rfl)) (rfl : i3 v17 = i3 v17) (by omega) (by omega) (by omega) (by omega)) (fun h19 => ?_) (fun h19 => ?_)
            · replace hP := zE_p hP h19
              exact zlR hP (show (0 : Int32) = i3 0 from rfl) ⟨by omega, by omega⟩
            · replace hP := zE_n hP h19
              exact zlR hP (show (1 : Int32) = i3 1 from rfl) ⟨by omega, by omega⟩
          · replace hP := zE_n hP h16
            exact zlR hP (show (1 : Int32) = i3 1 from rfl) ⟨by omega, by omega⟩
      · replace hP := zE_n hP h9
        exact zlR hP (show (0 : Int32) = i3 0 from rfl) ⟨by omega, by omega⟩
