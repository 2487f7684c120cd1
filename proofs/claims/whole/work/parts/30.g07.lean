/- yX3_queueFault -/
def zf_71 (Z : qz_Z) (a0b : Int) (a1 : Int) (a2 : Int) (a3 : Int) (a4 : Int) : Int := (if a1 < 0 then 1 else (if (Z 11 a0b 0 7) ≤ a1 then 1 else (if a2 < 0 then 1 else (if a2 < (Z 11 a0b 0 3) then (if a3 < 1 then 2 else (if 9999 < a3 then 2 else (if a4 < 1 then 2 else (if a3 < a4 then 2 else (if a3 ≤ (a4 + (200 * (Z 48 a0b a1 3))) then (if (Z 44 a0b a2 10) ≠ 0 then 3 else (if (Z 44 a0b a2 4) ≤ 0 then 3 else (if (Z 44 a0b a2 12) < 0 then (if 12 ≤ (Z 48 a0b a1 5) then 3 else 0) else (if (Z 11 a0b 0 2) ≤ (Z 44 a0b a2 12) then (if 12 ≤ (Z 48 a0b a1 5) then 3 else 0) else (if (Z 43 a0b (Z 44 a0b a2 12) 10) ≤ (Z 11 a0b 0 13) then (if 12 ≤ (Z 48 a0b a1 5) then 3 else 0) else 3))))) else 2))))) else 1))))
theorem sp_71 {s : zSM} {Z : qz_Z} {ν : qz_N} (hZ : zH s Z) (a0b : Nat) {a1 : Int} (ga1 : -2147483648 ≤ a1 ∧ a1 ≤ 2147483647) {a2 : Int} (ga2 : -2147483648 ≤ a2 ∧ a2 ≤ 2147483647) {a3 : Int} (ga3 : -2147483648 ≤ a3 ∧ a3 ≤ 2147483647) {a4 : Int} (ga4 : -2147483648 ≤ a4 ∧ a4 ≤ 2147483647) (hM : s.2 + 0 ≤ 1000000000) : ∃ P : Int, P = zf_71 Z a0b a1 a2 a3 a4 ∧ (qf_71 [.inr (.inr (some (10, a0b, 0))), .inl (i3 a1), .inl (i3 a2), .inl (i3 a3), .inl (i3 a4)] (zm Z ν) = some (zm Z ν, .inl (some (.inl (i3 P)))) ∧ 0 ≤ P ∧ P ≤ 3) := by
  obtain ⟨P, hP⟩ := zx (zf_71 Z a0b a1 a2 a3 a4)
  refine zc_R (Q := fun P => 0 ≤ P ∧ P ≤ 3) hP (fw_71 a0b (i3 a1) (i3 a2) (i3 a3) (i3 a4) _ _ ?_)
  replace hP : zE P (zf_71 Z a0b a1 a2 a3 a4) := hP
  unfold zf_71 at hP
  refine wz_br (i3L (rfl : i3 a1 = i3 a1) (show (0 : Int32) = i3 0 from rfl) (by omega) (by omega) (by omega) (by omega)) (fun h1 => ?_) (fun h1 => ?_)
  · replace hP := zE_p hP h1
    exact zlR hP (show (1 : Int32) = i3 1 from rfl) ⟨by omega, by omega⟩
  · replace hP := zE_n hP h1
    have r2 := zH_k hZ 11 a0b 0 7 (lo := 0) (hi := 2) (by decide) rfl
    refine wz_br (i3Le (zm_rd (Z := Z) (ν := ν) (k := 11) (rfl : ((a0b : Nat) : Int) = a0b) (show ((0 : Nat) : Int) = 0 from rfl) (show ((7 : Nat) : Int) = 7 from rfl)) (rfl : i3 a1 = i3 a1) (by omega) (by omega) (by omega) (by omega)) (fun h3 => ?_) (fun h3 => ?_)
    · replace hP := zE_p hP h3
      exact zlR hP (show (1 : Int32) = i3 1 from rfl) ⟨by omega, by omega⟩
    · replace hP := zE_n hP h3
      refine wz_br (i3L (rfl : i3 a2 = i3 a2) (show (0 : Int32) = i3 0 from rfl) (by omega) (by omega) (by omega) (by omega)) (fun h4 => ?_) (fun h4 => ?_)
      · replace hP := zE_p hP h4
        exact zlR hP (show (1 : Int32) = i3 1 from rfl) ⟨by omega, by omega⟩
      · replace hP := zE_n hP h4
        have r5 := zH_k hZ 11 a0b 0 3 (lo := 0) (hi := 48) (by decide) rfl
        refine wz_br (i3L (rfl : i3 a2 = i3 a2) (zm_rd (Z := Z) (ν := ν) (k := 11) (rfl : ((a0b : Nat) : Int) = a0b) (show ((0 : Nat) : Int) = 0 from rfl) (show ((3 : Nat) : Int) = 3 from rfl)) (by omega) (by omega) (by omega) (by omega)) (fun h6 => ?_) (fun h6 => ?_)
        · replace hP := zE_p hP h6
          refine wz_br (i3L (rfl : i3 a3 = i3 a3) (show (1 : Int32) = i3 1 from rfl) (by omega) (by omega) (by omega) (by omega)) (fun h7 => ?_) (fun h7 => ?_)
          · replace hP := zE_p hP h7
            exact zlR hP (show (2 : Int32) = i3 2 from rfl) ⟨by omega, by omega⟩
          · replace hP := zE_n hP h7
            refine wz_br (i3L (show (9999 : Int32) = i3 9999 from rfl) (rfl : i3 a3 = i3 a3) (by omega) (by omega) (by omega) (by omega)) (fun h8 => ?_) (fun h8 => ?_)
            · replace hP := zE_p hP h8
              exact zlR hP (show (2 : Int32) = i3 2 from rfl) ⟨by omega, by omega⟩
            · replace hP := zE_n hP h8
              refine wz_br (i3L (rfl : i3 a4 = i3 a4) (show (1 : Int32) = i3 1 from rfl) (by omega) (by omega) (by omega) (by omega)) (fun h9 => ?_) (fun h9 => ?_)
              · replace hP := zE_p hP h9
                exact zlR hP (show (2 : Int32) = i3 2 from rfl) ⟨by omega, by omega⟩
              · replace hP := zE_n hP h9
                refine wz_br (i3L (rfl : i3 a3 = i3 a3) (rfl : i3 a4 = i3 a4) (by omega) (by omega) (by omega) (by omega)) (fun h10 => ?_) (fun h10 => ?_)
                · replace hP := zE_p hP h10
                  exact zlR hP (show (2 : Int32) = i3 2 from rfl) ⟨by omega, by omega⟩
                · replace hP := zE_n hP h10
                  refine wz_i0 (i3O (n := 2) (rfl : i3 a1 = i3 a1) (by omega) (by omega) (by omega)) ?_
                  have r11 := zH_k hZ 48 a0b a1 3 (lo := 0) (hi := 500) (by decide) rfl
                  refine wz_br (i3Le (rfl : i3 a3 = i3 a3) (i3A (rfl : i3 a4 = i3 a4) (i3M (show (200 : Int32) = i3 200 from rfl) (zm_rd (Z := Z) (ν := ν) (k := 48) (rfl : ((a0b : Nat) : Int) = a0b) (i3I (y := a1) (rfl : i3 a1 = i3 a1) (by omega) (by omega) (by omega)) (show ((3 : Nat) : Int) = 3 from rfl)))) (by omega) (by omega) (by omega) (by omega)) (fun h12 => ?_) (fun h12 => ?_)
                  · replace hP := zE_p hP h12
                    refine wz_i0 (i3O (n := 48) (rfl : i3 a2 = i3 a2) (by omega) (by omega) (by omega)) ?_
                    have r13 := zH_k hZ 44 a0b a2 10 (lo := 0) (hi := 4) (by decide) rfl
                    refine wz_br (i3NE (zm_rd (Z := Z) (ν := ν) (k := 44) (rfl : ((a0b : Nat) : Int) = a0b) (i3I (y := a2) (rfl : i3 a2 = i3 a2) (by omega) (by omega) (by omega)) (show ((10 : Nat) : Int) = 10 from rfl)) (show (0 : Int32) = i3 0 from rfl) (by omega) (by omega) (by omega) (by omega)) (fun h14 => ?_) (fun h14 => ?_)
                    · replace hP := zE_p hP h14
                      exact zlR hP (show (3 : Int32) = i3 3 from rfl) ⟨by omega, by omega⟩
                    · replace hP := zE_n hP h14
                      have r15 := zH_k hZ 44 a0b a2 4 (lo := 0) (hi := 40) (by decide) rfl
                      refine wz_br (i3Le (zm_rd (Z := Z) (ν := ν) (k := 44) (rfl : ((a0b : Nat) : Int) = a0b) (i3I (y := a2) (rfl : i3 a2 = i3 a2) (by omega) (by omega) (by omega)) (show ((4 : Nat) : Int) = 4 from rfl)) (show (0 : Int32) = i3 0 from rfl) (by omega) (by omega) (by omega) (by omega)) (fun h16 => ?_) (fun h16 => ?_)
                      · replace hP := zE_p hP h16
                        exact zlR hP (show (3 : Int32) = i3 3 from rfl) ⟨by omega, by omega⟩
                      · replace hP := zE_n hP h16
                        have r17 := zH_k hZ 44 a0b a2 12 (lo := -1) (hi := 6) (by decide) rfl
                        refine wz_br (i3L (zm_rd (Z := Z) (ν := ν) (k := 44) (rfl : ((a0b : Nat) : Int) = a0b) (i3I (y := a2) (rfl : i3 a2 = i3 a2) (by omega) (by omega) (by omega)) (show ((12 : Nat) : Int) = 12 from rfl)) (show (0 : Int32) = i3 0 from rfl) (by omega) (by omega) (by omega) (by omega)) (fun h18 => ?_) (fun h18 => ?_)
                        · replace hP := zE_p hP h18
                          refine wz_i0 (i3O (n := 2) (rfl : i3 a1 = i3 a1) (by omega) (by omega) (by omega)) ?_
                          have r19 := zH_k hZ 48 a0b a1 5 (lo := 0) (hi := 12) (by decide) rfl
                          refine wz_br (i3Le (show (12 : Int32) = i3 12 from rfl) (zm_rd (Z := Z) (ν := ν) (k := 48) (rfl : ((a0b : Nat) : Int) = a0b) (i3I (y := a1) (rfl : i3 a1 = i3 a1) (by omega) (by omega) (by omega)) (show ((5 : Nat) : Int) = 5 from rfl)) (by omega) (by omega) (by omega) (by omega)) (fun h20 => ?_) (fun h20 => ?_)
                          · replace hP := zE_p hP h20
                            exact zlR hP (show (3 : Int32) = i3 3 from rfl) ⟨by omega, by omega⟩
                          · replace hP := zE_n hP h20
                            exact zlR hP (show (0 : Int32) = i3 0 from rfl) ⟨by omega, by omega⟩
                        · replace hP := zE_n hP h18
                          have r21 := zH_k hZ 11 a0b 0 2 (lo := 0) (hi := 6) (by decide) rfl
                          refine wz_br (i3Le (zm_rd (Z := Z) (ν := ν) (k := 11) (rfl : ((a0b : Nat) : Int) = a0b) (show ((0 : Nat) : Int) = 0 from rfl) (show ((2 : Nat) : Int) = 2 from rfl)) (zm_rd (Z := Z) (ν := ν) (k := 44) (rfl : ((a0b : Nat) : Int) = a0b) (i3I (y := a2) (rfl : i3 a2 = i3 a2) (by omega) (by omega) (by omega)) (show ((12 : Nat) : Int) = 12 from rfl)) (by omega) (by omega) (by omega) (by omega)) (fun h22 => ?_) (fun h22 => ?_)
                          · replace hP := zE_p hP h22
                            refine wz_i0 (i3O (n := 2) (rfl : i3 a1 = i3 a1) (by omega) (by omega) (by omega)) ?_
                            have r23 := zH_k hZ 48 a0b a1 5 (lo := 0) (hi := 12) (by decide) rfl
                            refine wz_br (i3Le (show (12 : Int32) = i3 12 from rfl) (zm_rd (Z := Z) (ν := ν) (k := 48) (rfl : ((a0b : Nat) : Int) = a0b) (i3I (y := a1) (rfl : i3 a1 = i3 a1) (by omega) (by omega) (by omega)) (show ((5 : Nat) : Int) = 5 from rfl)) (by omega) (by omega) (by omega) (by omega)) (fun h24 => ?_) (fun h24 => ?_)
                            · replace hP := zE_p hP h24
                              exact zlR hP (show (3 : Int32) = i3 3 from rfl) ⟨by omega, by omega⟩
                            · replace hP := zE_n hP h24
                              exact zlR hP (show (0 : Int32) = i3 0 from rfl) ⟨by omega, by omega⟩
                          · replace hP := zE_n hP h22
                            refine wz_i0 (i3O (n := 6) (zm_rd (Z := Z) (ν := ν) (k := 44) (rfl : ((a0b : Nat) : Int) = a0b) (i3I (y := a2) (rfl : i3 a2 = i3 a2) (by omega) (by omega) (by omega)) (show ((12 : Nat) : Int) = 12 from rfl)) (by omega) (by omega) (by omega)) ?_
                            have r25 := zH_k hZ 43 a0b (Z 44 a0b a2 12) 10 (lo := -1) (hi := 695) (by decide) rfl
                            have r26 := zH_k hZ 11 a0b 0 13 (lo := 0) (hi := 671) (by decide) rfl
                            refine wz_br (i3Le (zm_rd (Z := Z) (ν := ν) (k := 43) (rfl : ((a0b : Nat) : Int) = a0b) (i3I (y := (Z 44 a0b a2 12)) (zm_rd (Z := Z) (ν := ν) (k := 44) (rfl : ((a0b : Nat) : Int) = a0b) (i3I (y := a2) (rfl : i3 a2 = i3 a2) (by omega) (by omega) (by omega)) (show ((12 : Nat) : Int) = 12 from rfl)) (by omega) (by omega) (by omega)) (show ((10 : Nat) : Int) = 10 from rfl)) (zm_rd (Z := Z) (ν := ν) (k := 11) (rfl : ((a0b : Nat) : Int) = a0b) (show ((0 : Nat) : Int) = 0 from rfl) (show ((13 : Nat) : Int) = 13 from rfl)) (by omega) (by omega) (by omega) (by omega)) (fun h27 => ?_) (fun h27 => ?_)
                            · replace hP := zE_p hP h27
                              refine wz_i0 (i3O (n := 2) (rfl : i3 a1 = i3 a1) (by omega) (by omega) (by omega)) ?_
                              have r28 := zH_k hZ 48 a0b a1 5 (lo := 0) (hi := 12) (by decide) rfl
                              refine wz_br (i3Le (show (12 : Int32) = i3 12 from rfl) (zm_rd (Z := Z) (ν := ν) (k := 48) (rfl : ((a0b : Nat) : Int) = a0b) (i3I (y := a1) (rfl : i3 a1 = i3 a1) (by omega) (by omega) (by omega)) (show ((5 : Nat) : Int) = 5 from rfl)) (by omega) (by omega) (by omega) (by omega)) (fun h29 => ?_) (fun h29 => ?_)
                              · replace hP := zE_p hP h29
                                exact zlR hP (show (3 : Int32) = i3 3 from rfl) ⟨by omega, by omega⟩
                              · replace hP := zE_n hP h29
                                exact zlR hP (show (0 : Int32) = i3 0 from rfl) ⟨by omega, by omega⟩
                            · replace hP := zE_n hP h27
                              exact zlR hP (show (3 : Int32) = i3 3 from rfl) ⟨by omega, by omega⟩
                  · replace hP := zE_n hP h12
                    exact zlR hP (show (2 : Int32) = i3 2 from rfl) ⟨by omega, by omega⟩
        · replace hP := zE_n hP h6
          exact zlR hP (show (1 : Int32) = i3 1 from rfl) ⟨by omega, by omega⟩
/- yX11_queue -/
def zx_233 (Z : qz_Z) (a1 : Int) (a2 : Int) (a3 : Int) (a4 : Int) : qz_Z × Int × Int := (if a1 < 0 then (Z, 0, 24) else (if (Z 11 0 0 7) ≤ a1 then (Z, 0, 24) else (if a2 < 0 then (Z, 0, 24) else (if a2 < (Z 11 0 0 3) then (if a3 < 1 then (Z, 0, 13) else (if 9999 < a3 then (Z, 0, 13) else (if a4 < 1 then (Z, 0, 13) else (if a3 < a4 then (Z, 0, 13) else (if a3 ≤ (a4 + (200 * (Z 48 0 a1 3))) then (if (Z 44 0 a2 10) ≠ 0 then (Z, 0, 15) else (if (Z 44 0 a2 4) ≤ 0 then (Z, 0, 15) else (if (Z 44 0 a2 12) < 0 then (if 12 ≤ (Z 48 0 a1 5) then (Z, 0, 15) else (zlet (zdd Z 15 a1 a2 a3 a4 0 0) (fun Z21 => (zlet (zu Z21 44 0 a2 10 1) (fun Z22 => (zlet (zu Z22 49 0 (12 * a1 + (Z21 48 0 a1 5)) 0 a2) (fun Z25 => (zlet (zu Z25 49 0 (12 * a1 + (Z21 48 0 a1 5)) 1 a3) (fun Z26 => (zlet (zu Z26 49 0 (12 * a1 + (Z21 48 0 a1 5)) 2 a4) (fun Z27 => (zlet (zu Z27 48 0 a1 5 ((Z27 48 0 a1 5) + 1)) (fun Z30 => (Z30, (Z21 48 0 a1 5), 0)))))))))))))) else (if (Z 11 0 0 2) ≤ (Z 44 0 a2 12) then (if 12 ≤ (Z 48 0 a1 5) then (Z, 0, 15) else (zlet (zdd Z 15 a1 a2 a3 a4 0 0) (fun Z35 => (zlet (zu Z35 44 0 a2 10 1) (fun Z36 => (zlet (zu Z36 49 0 (12 * a1 + (Z35 48 0 a1 5)) 0 a2) (fun Z39 => (zlet (zu Z39 49 0 (12 * a1 + (Z35 48 0 a1 5)) 1 a3) (fun Z40 => (zlet (zu Z40 49 0 (12 * a1 + (Z35 48 0 a1 5)) 2 a4) (fun Z41 => (zlet (zu Z41 48 0 a1 5 ((Z41 48 0 a1 5) + 1)) (fun Z44 => (Z44, (Z35 48 0 a1 5), 0)))))))))))))) else (if (Z 43 0 (Z 44 0 a2 12) 10) ≤ (Z 11 0 0 13) then (if 12 ≤ (Z 48 0 a1 5) then (Z, 0, 15) else (zlet (zdd Z 15 a1 a2 a3 a4 0 0) (fun Z50 => (zlet (zu Z50 44 0 a2 10 1) (fun Z51 => (zlet (zu Z51 49 0 (12 * a1 + (Z50 48 0 a1 5)) 0 a2) (fun Z54 => (zlet (zu Z54 49 0 (12 * a1 + (Z50 48 0 a1 5)) 1 a3) (fun Z55 => (zlet (zu Z55 49 0 (12 * a1 + (Z50 48 0 a1 5)) 2 a4) (fun Z56 => (zlet (zu Z56 48 0 a1 5 ((Z56 48 0 a1 5) + 1)) (fun Z59 => (Z59, (Z50 48 0 a1 5), 0)))))))))))))) else (Z, 0, 15)))))) else (Z, 0, 13)))))) else (Z, 0, 24)))))
theorem sx_233 {M : Nat} {Z : qz_Z} {ν : qz_N} (hZ : zH ((none, M) : zSM) Z) (hM : ((none, M) : zSM).2 + 0 ≤ 1000000000) {a1 : Int} (ga1 : -2147483648 ≤ a1 ∧ a1 ≤ 2147483647) {a2 : Int} (ga2 : -2147483648 ≤ a2 ∧ a2 ≤ 2147483647) {a3 : Int} (ga3 : -2147483648 ≤ a3 ∧ a3 ≤ 2147483647) {a4 : Int} (ga4 : -2147483648 ≤ a4 ∧ a4 ≤ 2147483647) : ∃ (Z1 : qz_Z) (ν1 : qz_N) (v E : Int), (Z1, v, E) = zx_233 Z a1 a2 a3 a4 ∧ qf_233 [.inr (.inr (some (0, 0, 0))), .inl (i3 a1), .inl (i3 a2), .inl (i3 a3), .inl (i3 a4)] (zm Z ν) = some (zm Z1 ν1, zoX v E) ∧ (fun Z1 ν1 => zH ((none, M) : zSM) Z1 ∧ zC [3, 12, 13, 14, 40, 41, 42, 43, 44, 45, 46, 47, 48, 49, 50, 51, 52, 53, 54, 61, 68, 1099, 1100, 1101, 1102, 1103, 1104, 1105, 1106, 1107, 1108, 1109, 1110, 1111, 1112, 1113, 1114, 1115, 1116] Z Z1 ∧ zU [0, 2, 3, 4, 5, 6, 7, 8, 9] Z Z1 ∧ zG 1 6 ν ν1) Z1 ν1 := by
  obtain ⟨P, hP⟩ := zx (zx_233 Z a1 a2 a3 a4)
  refine zc_G (Q := fun Z1 ν1 => zH ((none, M) : zSM) Z1 ∧ zC [3, 12, 13, 14, 40, 41, 42, 43, 44, 45, 46, 47, 48, 49, 50, 51, 52, 53, 54, 61, 68, 1099, 1100, 1101, 1102, 1103, 1104, 1105, 1106, 1107, 1108, 1109, 1110, 1111, 1112, 1113, 1114, 1115, 1116] Z Z1 ∧ zU [0, 2, 3, 4, 5, 6, 7, 8, 9] Z Z1 ∧ zG 1 6 ν ν1) hP (fw_233 (i3 a1) (i3 a2) (i3 a3) (i3 a4) _ _ ?_)
  replace hP : zE P (zx_233 Z a1 a2 a3 a4) := hP
  unfold zx_233 at hP
  refine fw_71 _ _ _ _ _ _ _ ?_
  refine wz_br (i3L (rfl : i3 a1 = i3 a1) (show (0 : Int32) = i3 0 from rfl) (by omega) (by omega) (by omega) (by omega)) (fun h1 => ?_) (fun h1 => ?_)
  · replace hP := zE_p hP h1
    refine wz_i0 (Eq.trans (i3NE (show (1 : Int32) = i3 1 from rfl) (show (1 : Int32) = i3 1 from rfl) (by omega) (by omega) (by omega) (by omega)) (decide_eq_false (by omega))) ?_
    exact zlGe (E := 23) hP ⟨hZ, zC_r, zU_r, zG_w (zG_k rfl) (Nat.le_of_ble_eq_true rfl) (Nat.le_of_ble_eq_true rfl)⟩
  · replace hP := zE_n hP h1
    have r2 := zH_k hZ 11 0 0 7 (lo := 0) (hi := 2) (by decide) rfl
    refine wz_br (i3Le (zm_rd (Z := Z) (ν := ν) (k := 11) (show ((0 : Nat) : Int) = 0 from rfl) (show ((0 : Nat) : Int) = 0 from rfl) (show ((7 : Nat) : Int) = 7 from rfl)) (rfl : i3 a1 = i3 a1) (by omega) (by omega) (by omega) (by omega)) (fun h3 => ?_) (fun h3 => ?_)
    · replace hP := zE_p hP h3
      refine wz_i0 (Eq.trans (i3NE (show (1 : Int32) = i3 1 from rfl) (show (1 : Int32) = i3 1 from rfl) (by omega) (by omega) (by omega) (by omega)) (decide_eq_false (by omega))) ?_
      exact zlGe (E := 23) hP ⟨hZ, zC_r, zU_r, zG_w (zG_k rfl) (Nat.le_of_ble_eq_true rfl) (Nat.le_of_ble_eq_true rfl)⟩
    · replace hP := zE_n hP h3
      refine wz_br (i3L (rfl : i3 a2 = i3 a2) (show (0 : Int32) = i3 0 from rfl) (by omega) (by omega) (by omega) (by omega)) (fun h4 => ?_) (fun h4 => ?_)
      · replace hP := zE_p hP h4
        refine wz_i0 (Eq.trans (i3NE (show (1 : Int32) = i3 1 from rfl) (show (1 : Int32) = i3 1 from rfl) (by omega) (by omega) (by omega) (by omega)) (decide_eq_false (by omega))) ?_
        exact zlGe (E := 23) hP ⟨hZ, zC_r, zU_r, zG_w (zG_k rfl) (Nat.le_of_ble_eq_true rfl) (Nat.le_of_ble_eq_true rfl)⟩
      · replace hP := zE_n hP h4
        have r5 := zH_k hZ 11 0 0 3 (lo := 0) (hi := 48) (by decide) rfl
        refine wz_br (i3L (rfl : i3 a2 = i3 a2) (zm_rd (Z := Z) (ν := ν) (k := 11) (show ((0 : Nat) : Int) = 0 from rfl) (show ((0 : Nat) : Int) = 0 from rfl) (show ((3 : Nat) : Int) = 3 from rfl)) (by omega) (by omega) (by omega) (by omega)) (fun h6 => ?_) (fun h6 => ?_)
        · replace hP := zE_p hP h6
          refine wz_br (i3L (rfl : i3 a3 = i3 a3) (show (1 : Int32) = i3 1 from rfl) (by omega) (by omega) (by omega) (by omega)) (fun h7 => ?_) (fun h7 => ?_)
          · replace hP := zE_p hP h7
            refine wz_i1 (Eq.trans (i3NE (show (2 : Int32) = i3 2 from rfl) (show (1 : Int32) = i3 1 from rfl) (by omega) (by omega) (by omega) (by omega)) (decide_eq_true (by omega))) ?_
            refine wz_i0 (Eq.trans (i3NE (show (2 : Int32) = i3 2 from rfl) (show (2 : Int32) = i3 2 from rfl) (by omega) (by omega) (by omega) (by omega)) (decide_eq_false (by omega))) ?_
            exact zlGe (E := 12) hP ⟨hZ, zC_r, zU_r, zG_w (zG_k rfl) (Nat.le_of_ble_eq_true rfl) (Nat.le_of_ble_eq_true rfl)⟩
          · replace hP := zE_n hP h7
            refine wz_br (i3L (show (9999 : Int32) = i3 9999 from rfl) (rfl : i3 a3 = i3 a3) (by omega) (by omega) (by omega) (by omega)) (fun h8 => ?_) (fun h8 => ?_)
            · replace hP := zE_p hP h8
              refine wz_i1 (Eq.trans (i3NE (show (2 : Int32) = i3 2 from rfl) (show (1 : Int32) = i3 1 from rfl) (by omega) (by omega) (by omega) (by omega)) (decide_eq_true (by omega))) ?_
              refine wz_i0 (Eq.trans (i3NE (show (2 : Int32) = i3 2 from rfl) (show (2 : Int32) = i3 2 from rfl) (by omega) (by omega) (by omega) (by omega)) (decide_eq_false (by omega))) ?_
              exact zlGe (E := 12) hP ⟨hZ, zC_r, zU_r, zG_w (zG_k rfl) (Nat.le_of_ble_eq_true rfl) (Nat.le_of_ble_eq_true rfl)⟩
            · replace hP := zE_n hP h8
              refine wz_br (i3L (rfl : i3 a4 = i3 a4) (show (1 : Int32) = i3 1 from rfl) (by omega) (by omega) (by omega) (by omega)) (fun h9 => ?_) (fun h9 => ?_)
              · replace hP := zE_p hP h9
                refine wz_i1 (Eq.trans (i3NE (show (2 : Int32) = i3 2 from rfl) (show (1 : Int32) = i3 1 from rfl) (by omega) (by omega) (by omega) (by omega)) (decide_eq_true (by omega))) ?_
                refine wz_i0 (Eq.trans (i3NE (show (2 : Int32) = i3 2 from rfl) (show (2 : Int32) = i3 2 from rfl) (by omega) (by omega) (by omega) (by omega)) (decide_eq_false (by omega))) ?_
                exact zlGe (E := 12) hP ⟨hZ, zC_r, zU_r, zG_w (zG_k rfl) (Nat.le_of_ble_eq_true rfl) (Nat.le_of_ble_eq_true rfl)⟩
              · replace hP := zE_n hP h9
                refine wz_br (i3L (rfl : i3 a3 = i3 a3) (rfl : i3 a4 = i3 a4) (by omega) (by omega) (by omega) (by omega)) (fun h10 => ?_) (fun h10 => ?_)
                · replace hP := zE_p hP h10
                  refine wz_i1 (Eq.trans (i3NE (show (2 : Int32) = i3 2 from rfl) (show (1 : Int32) = i3 1 from rfl) (by omega) (by omega) (by omega) (by omega)) (decide_eq_true (by omega))) ?_
                  refine wz_i0 (Eq.trans (i3NE (show (2 : Int32) = i3 2 from rfl) (show (2 : Int32) = i3 2 from rfl) (by omega) (by omega) (by omega) (by omega)) (decide_eq_false (by omega))) ?_
                  exact zlGe (E := 12) hP ⟨hZ, zC_r, zU_r, zG_w (zG_k rfl) (Nat.le_of_ble_eq_true rfl) (Nat.le_of_ble_eq_true rfl)⟩
                · replace hP := zE_n hP h10
                  refine wz_i0 (i3O (n := 2) (rfl : i3 a1 = i3 a1) (by omega) (by omega) (by omega)) ?_
                  have r11 := zH_k hZ 48 0 a1 3 (lo := 0) (hi := 500) (by decide) rfl
                  refine wz_br (i3Le (rfl : i3 a3 = i3 a3) (i3A (rfl : i3 a4 = i3 a4) (i3M (show (200 : Int32) = i3 200 from rfl) (zm_rd (Z := Z) (ν := ν) (k := 48) (show ((0 : Nat) : Int) = 0 from rfl) (i3I (y := a1) (rfl : i3 a1 = i3 a1) (by omega) (by omega) (by omega)) (show ((3 : Nat) : Int) = 3 from rfl)))) (by omega) (by omega) (by omega) (by omega)) (fun h12 => ?_) (fun h12 => ?_)
                  · replace hP := zE_p hP h12
                    refine wz_i0 (i3O (n := 48) (rfl : i3 a2 = i3 a2) (by omega) (by omega) (by omega)) ?_
                    have r13 := zH_k hZ 44 0 a2 10 (lo := 0) (hi := 4) (by decide) rfl
                    refine wz_br (i3NE (zm_rd (Z := Z) (ν := ν) (k := 44) (show ((0 : Nat) : Int) = 0 from rfl) (i3I (y := a2) (rfl : i3 a2 = i3 a2) (by omega) (by omega) (by omega)) (show ((10 : Nat) : Int) = 10 from rfl)) (show (0 : Int32) = i3 0 from rfl) (by omega) (by omega) (by omega) (by omega)) (fun h14 => ?_) (fun h14 => ?_)
                    · replace hP := zE_p hP h14
                      refine wz_i1 (Eq.trans (i3NE (show (3 : Int32) = i3 3 from rfl) (show (1 : Int32) = i3 1 from rfl) (by omega) (by omega) (by omega) (by omega)) (decide_eq_true (by omega))) ?_
                      refine wz_i1 (Eq.trans (i3NE (show (3 : Int32) = i3 3 from rfl) (show (2 : Int32) = i3 2 from rfl) (by omega) (by omega) (by omega) (by omega)) (decide_eq_true (by omega))) ?_
                      refine wz_i0 (Eq.trans (i3NE (show (3 : Int32) = i3 3 from rfl) (show (3 : Int32) = i3 3 from rfl) (by omega) (by omega) (by omega) (by omega)) (decide_eq_false (by omega))) ?_
                      exact zlGe (E := 14) hP ⟨hZ, zC_r, zU_r, zG_w (zG_k rfl) (Nat.le_of_ble_eq_true rfl) (Nat.le_of_ble_eq_true rfl)⟩
                    · replace hP := zE_n hP h14
                      have r15 := zH_k hZ 44 0 a2 4 (lo := 0) (hi := 40) (by decide) rfl
                      refine wz_br (i3Le (zm_rd (Z := Z) (ν := ν) (k := 44) (show ((0 : Nat) : Int) = 0 from rfl) (i3I (y := a2) (rfl : i3 a2 = i3 a2) (by omega) (by omega) (by omega)) (show ((4 : Nat) : Int) = 4 from rfl)) (show (0 : Int32) = i3 0 from rfl) (by omega) (by omega) (by omega) (by omega)) (fun h16 => ?_) (fun h16 => ?_)
                      · replace hP := zE_p hP h16
                        refine wz_i1 (Eq.trans (i3NE (show (3 : Int32) = i3 3 from rfl) (show (1 : Int32) = i3 1 from rfl) (by omega) (by omega) (by omega) (by omega)) (decide_eq_true (by omega))) ?_
                        refine wz_i1 (Eq.trans (i3NE (show (3 : Int32) = i3 3 from rfl) (show (2 : Int32) = i3 2 from rfl) (by omega) (by omega) (by omega) (by omega)) (decide_eq_true (by omega))) ?_
                        refine wz_i0 (Eq.trans (i3NE (show (3 : Int32) = i3 3 from rfl) (show (3 : Int32) = i3 3 from rfl) (by omega) (by omega) (by omega) (by omega)) (decide_eq_false (by omega))) ?_
                        exact zlGe (E := 14) hP ⟨hZ, zC_r, zU_r, zG_w (zG_k rfl) (Nat.le_of_ble_eq_true rfl) (Nat.le_of_ble_eq_true rfl)⟩
                      · replace hP := zE_n hP h16
                        have r17 := zH_k hZ 44 0 a2 12 (lo := -1) (hi := 6) (by decide) rfl
                        refine wz_br (i3L (zm_rd (Z := Z) (ν := ν) (k := 44) (show ((0 : Nat) : Int) = 0 from rfl) (i3I (y := a2) (rfl : i3 a2 = i3 a2) (by omega) (by omega) (by omega)) (show ((12 : Nat) : Int) = 12 from rfl)) (show (0 : Int32) = i3 0 from rfl) (by omega) (by omega) (by omega) (by omega)) (fun h18 => ?_) (fun h18 => ?_)
                        · replace hP := zE_p hP h18
                          refine wz_i0 (i3O (n := 2) (rfl : i3 a1 = i3 a1) (by omega) (by omega) (by omega)) ?_
                          have r19 := zH_k hZ 48 0 a1 5 (lo := 0) (hi := 12) (by decide) rfl
                          refine wz_br (i3Le (show (12 : Int32) = i3 12 from rfl) (zm_rd (Z := Z) (ν := ν) (k := 48) (show ((0 : Nat) : Int) = 0 from rfl) (i3I (y := a1) (rfl : i3 a1 = i3 a1) (by omega) (by omega) (by omega)) (show ((5 : Nat) : Int) = 5 from rfl)) (by omega) (by omega) (by omega) (by omega)) (fun h20 => ?_) (fun h20 => ?_)
                          · replace hP := zE_p hP h20
                            refine wz_i1 (Eq.trans (i3NE (show (3 : Int32) = i3 3 from rfl) (show (1 : Int32) = i3 1 from rfl) (by omega) (by omega) (by omega) (by omega)) (decide_eq_true (by omega))) ?_
                            refine wz_i1 (Eq.trans (i3NE (show (3 : Int32) = i3 3 from rfl) (show (2 : Int32) = i3 2 from rfl) (by omega) (by omega) (by omega) (by omega)) (decide_eq_true (by omega))) ?_
                            refine wz_i0 (Eq.trans (i3NE (show (3 : Int32) = i3 3 from rfl) (show (3 : Int32) = i3 3 from rfl) (by omega) (by omega) (by omega) (by omega)) (decide_eq_false (by omega))) ?_
                            exact zlGe (E := 14) hP ⟨hZ, zC_r, zU_r, zG_w (zG_k rfl) (Nat.le_of_ble_eq_true rfl) (Nat.le_of_ble_eq_true rfl)⟩
                          · replace hP := zE_n hP h20
                            refine wz_i1 (Eq.trans (i3NE (show (0 : Int32) = i3 0 from rfl) (show (1 : Int32) = i3 1 from rfl) (by omega) (by omega) (by omega) (by omega)) (decide_eq_true (by omega))) ?_
                            refine wz_i1 (Eq.trans (i3NE (show (0 : Int32) = i3 0 from rfl) (show (2 : Int32) = i3 2 from rfl) (by omega) (by omega) (by omega) (by omega)) (decide_eq_true (by omega))) ?_
                            refine wz_i1 (Eq.trans (i3NE (show (0 : Int32) = i3 0 from rfl) (show (3 : Int32) = i3 3 from rfl) (by omega) (by omega) (by omega) (by omega)) (decide_eq_true (by omega))) ?_
                            refine dc_J (zcons rfl (zcons (zvi (show (15 : Int32) = i3 15 from rfl)) (zcons (zvi (rfl : i3 a1 = i3 a1)) (zcons (zvi (rfl : i3 a2 = i3 a2)) (zcons (zvi (rfl : i3 a3 = i3 a3)) (zcons (zvi (rfl : i3 a4 = i3 a4)) (zcons (zvi (show (0 : Int32) = i3 0 from rfl)) (zcons (zvi (show (0 : Int32) = i3 0 from rfl)) rfl)))))))) (dg (hZ).1 (by omega) (by omega) (by omega) (by omega) (by omega) (by omega) (by omega) ?_)
                            have hZ21I := zH_dd hZ (a1 := 15) (a2 := a1) (a3 := a2) (a4 := a3) (a5 := a4) (a6 := 0) (a7 := 0) (by omega) (by omega) (by omega) (by omega) (by omega) (by omega) (by omega)
                            have kZ21 : zC [3, 12, 13, 14, 40, 41, 42, 43, 44, 45, 46, 47, 48, 49, 50, 51, 52, 53, 54, 61, 68, 1099, 1100, 1101, 1102, 1103, 1104, 1105, 1106, 1107, 1108, 1109, 1110, 1111, 1112, 1113, 1114, 1115, 1116] Z (zdd Z 15 a1 a2 a3 a4 0 0) := zC_k zdd_K (by decide) (by decide)
                            have hZ21A : (zdd Z 15 a1 a2 a3 a4 0 0) 68 0 0 0 = 15 ∧ (zdd Z 15 a1 a2 a3 a4 0 0) 68 0 0 1 = a1 ∧ (zdd Z 15 a1 a2 a3 a4 0 0) 68 0 0 2 = a2 ∧ (zdd Z 15 a1 a2 a3 a4 0 0) 68 0 0 3 = a3 ∧ (zdd Z 15 a1 a2 a3 a4 0 0) 68 0 0 4 = a4 ∧ (zdd Z 15 a1 a2 a3 a4 0 0) 68 0 0 5 = 0 ∧ (zdd Z 15 a1 a2 a3 a4 0 0) 68 0 0 6 = 0 := ⟨zdd_68, zdd_68, zdd_68, zdd_68, zdd_68, zdd_68, zdd_68⟩
                            obtain ⟨Z21, hZ21⟩ := zx (zdd Z 15 a1 a2 a3 a4 0 0)
                            have dZ21 : ∀ {k : Nat} {i j : Int}, zhall k = true → ¬ (k = 11 ∧ (j = 15 ∨ j = 16)) → Z21 k 0 i j = Z k 0 i j := fun hk hj => by rw [hZ21]; exact zdd_h (hZ).1 hk hj
                            have jZ21 : zU [0, 2, 3, 4, 5, 6, 7, 8, 9] Z (zdd Z 15 a1 a2 a3 a4 0 0) := zU_dd (hZ).1
                            rw [← hZ21] at hZ21I kZ21 jZ21 hZ21A ⊢
                            have hZ21U : zU [0, 2, 3, 4, 5, 6, 7, 8, 9] Z Z21 := zU_t zU_r jZ21 (zU_b1 (List.Mem.head _) (zU_b1 (List.Mem.tail _ (List.Mem.head _)) (zU_b1 (List.Mem.tail _ (List.Mem.tail _ (List.Mem.head _))) (zU_b1 (List.Mem.tail _ (List.Mem.tail _ (List.Mem.tail _ (List.Mem.head _)))) (zU_b1 (List.Mem.tail _ (List.Mem.tail _ (List.Mem.tail _ (List.Mem.tail _ (List.Mem.head _))))) (zU_b1 (List.Mem.tail _ (List.Mem.tail _ (List.Mem.tail _ (List.Mem.tail _ (List.Mem.tail _ (List.Mem.head _)))))) (zU_b1 (List.Mem.tail _ (List.Mem.tail _ (List.Mem.tail _ (List.Mem.tail _ (List.Mem.tail _ (List.Mem.tail _ (List.Mem.head _))))))) (zU_b1 (List.Mem.tail _ (List.Mem.tail _ (List.Mem.tail _ (List.Mem.tail _ (List.Mem.tail _ (List.Mem.tail _ (List.Mem.tail _ (List.Mem.head _)))))))) (zU_b1 (List.Mem.tail _ (List.Mem.tail _ (List.Mem.tail _ (List.Mem.tail _ (List.Mem.tail _ (List.Mem.tail _ (List.Mem.tail _ (List.Mem.tail _ (List.Mem.head _))))))))) zU_b0)))))))))
                            replace hP := zl_e hP hZ21
                            have hZ21K : zC [3, 12, 13, 14, 40, 41, 42, 43, 44, 45, 46, 47, 48, 49, 50, 51, 52, 53, 54, 61, 68, 1099, 1100, 1101, 1102, 1103, 1104, 1105, 1106, 1107, 1108, 1109, 1110, 1111, 1112, 1113, 1114, 1115, 1116] Z Z21 := zC_t zC_r kZ21 (by decide)
                            clear kZ21 hZ21
                            refine fw_121 _ _ _ _ ?_
                            refine wz_i1 rfl ?_
                            refine wz_i0 (i3O (n := 7) (show (0 : Int32) = i3 0 from rfl) (by omega) (by omega) (by omega)) ?_
                            refine wz_i0 (Eq.trans (i3To (Eq.trans (zm_rd (Z := Z21) (ν := ν) (k := 68) (show ((0 : Nat) : Int) = 0 from rfl) (show ((0 : Nat) : Int) = 0 from rfl) (show ((0 : Nat) : Int) = 0 from rfl)) (congrArg i3 ((hZ21A.1)))) (by omega) (by omega)) (decide_eq_false (by omega))) ?_
                            refine wz_i0 (Eq.trans (i3T (Eq.trans (zm_rd (Z := Z21) (ν := ν) (k := 68) (show ((0 : Nat) : Int) = 0 from rfl) (show ((0 : Nat) : Int) = 0 from rfl) (show ((0 : Nat) : Int) = 0 from rfl)) (congrArg i3 ((hZ21A.1)))) (by omega) (by omega)) (decide_eq_false (by omega))) ?_
                            refine wz_i0 (Eq.trans (i3T (Eq.trans (zm_rd (Z := Z21) (ν := ν) (k := 68) (show ((0 : Nat) : Int) = 0 from rfl) (show ((0 : Nat) : Int) = 0 from rfl) (show ((0 : Nat) : Int) = 0 from rfl)) (congrArg i3 ((hZ21A.1)))) (by omega) (by omega)) (decide_eq_false (by omega))) ?_
                            refine wz_i0 (Eq.trans (i3T (Eq.trans (zm_rd (Z := Z21) (ν := ν) (k := 68) (show ((0 : Nat) : Int) = 0 from rfl) (show ((0 : Nat) : Int) = 0 from rfl) (show ((0 : Nat) : Int) = 0 from rfl)) (congrArg i3 ((hZ21A.1)))) (by omega) (by omega)) (decide_eq_false (by omega))) ?_
                            refine wz_i0 (Eq.trans (i3T (Eq.trans (zm_rd (Z := Z21) (ν := ν) (k := 68) (show ((0 : Nat) : Int) = 0 from rfl) (show ((0 : Nat) : Int) = 0 from rfl) (show ((0 : Nat) : Int) = 0 from rfl)) (congrArg i3 ((hZ21A.1)))) (by omega) (by omega)) (decide_eq_false (by omega))) ?_
                            refine wz_i0 (Eq.trans (i3T (Eq.trans (zm_rd (Z := Z21) (ν := ν) (k := 68) (show ((0 : Nat) : Int) = 0 from rfl) (show ((0 : Nat) : Int) = 0 from rfl) (show ((0 : Nat) : Int) = 0 from rfl)) (congrArg i3 ((hZ21A.1)))) (by omega) (by omega)) (decide_eq_false (by omega))) ?_
                            refine wz_i0 (Eq.trans (i3T (Eq.trans (zm_rd (Z := Z21) (ν := ν) (k := 68) (show ((0 : Nat) : Int) = 0 from rfl) (show ((0 : Nat) : Int) = 0 from rfl) (show ((0 : Nat) : Int) = 0 from rfl)) (congrArg i3 ((hZ21A.1)))) (by omega) (by omega)) (decide_eq_false (by omega))) ?_
                            refine wz_i0 (Eq.trans (i3T (Eq.trans (zm_rd (Z := Z21) (ν := ν) (k := 68) (show ((0 : Nat) : Int) = 0 from rfl) (show ((0 : Nat) : Int) = 0 from rfl) (show ((0 : Nat) : Int) = 0 from rfl)) (congrArg i3 ((hZ21A.1)))) (by omega) (by omega)) (decide_eq_false (by omega))) ?_
                            refine wz_i0 (Eq.trans (i3T (Eq.trans (zm_rd (Z := Z21) (ν := ν) (k := 68) (show ((0 : Nat) : Int) = 0 from rfl) (show ((0 : Nat) : Int) = 0 from rfl) (show ((0 : Nat) : Int) = 0 from rfl)) (congrArg i3 ((hZ21A.1)))) (by omega) (by omega)) (decide_eq_false (by omega))) ?_
                            refine wz_i0 (Eq.trans (i3T (Eq.trans (zm_rd (Z := Z21) (ν := ν) (k := 68) (show ((0 : Nat) : Int) = 0 from rfl) (show ((0 : Nat) : Int) = 0 from rfl) (show ((0 : Nat) : Int) = 0 from rfl)) (congrArg i3 ((hZ21A.1)))) (by omega) (by omega)) (decide_eq_false (by omega))) ?_
                            refine wz_i0 (Eq.trans (i3T (Eq.trans (zm_rd (Z := Z21) (ν := ν) (k := 68) (show ((0 : Nat) : Int) = 0 from rfl) (show ((0 : Nat) : Int) = 0 from rfl) (show ((0 : Nat) : Int) = 0 from rfl)) (congrArg i3 ((hZ21A.1)))) (by omega) (by omega)) (decide_eq_false (by omega))) ?_
                            refine wz_i0 (Eq.trans (i3T (Eq.trans (zm_rd (Z := Z21) (ν := ν) (k := 68) (show ((0 : Nat) : Int) = 0 from rfl) (show ((0 : Nat) : Int) = 0 from rfl) (show ((0 : Nat) : Int) = 0 from rfl)) (congrArg i3 ((hZ21A.1)))) (by omega) (by omega)) (decide_eq_false (by omega))) ?_
                            refine wz_i0 (Eq.trans (i3T (Eq.trans (zm_rd (Z := Z21) (ν := ν) (k := 68) (show ((0 : Nat) : Int) = 0 from rfl) (show ((0 : Nat) : Int) = 0 from rfl) (show ((0 : Nat) : Int) = 0 from rfl)) (congrArg i3 ((hZ21A.1)))) (by omega) (by omega)) (decide_eq_false (by omega))) ?_
                            refine wz_i0 (Eq.trans (i3T (Eq.trans (zm_rd (Z := Z21) (ν := ν) (k := 68) (show ((0 : Nat) : Int) = 0 from rfl) (show ((0 : Nat) : Int) = 0 from rfl) (show ((0 : Nat) : Int) = 0 from rfl)) (congrArg i3 ((hZ21A.1)))) (by omega) (by omega)) (decide_eq_false (by omega))) ?_
                            refine wz_i0 (Eq.trans (i3T (Eq.trans (zm_rd (Z := Z21) (ν := ν) (k := 68) (show ((0 : Nat) : Int) = 0 from rfl) (show ((0 : Nat) : Int) = 0 from rfl) (show ((0 : Nat) : Int) = 0 from rfl)) (congrArg i3 ((hZ21A.1)))) (by omega) (by omega)) (decide_eq_false (by omega))) ?_
                            refine wz_i0 (Eq.trans (i3T (Eq.trans (zm_rd (Z := Z21) (ν := ν) (k := 68) (show ((0 : Nat) : Int) = 0 from rfl) (show ((0 : Nat) : Int) = 0 from rfl) (show ((0 : Nat) : Int) = 0 from rfl)) (congrArg i3 ((hZ21A.1)))) (by omega) (by omega)) (decide_eq_false (by omega))) ?_
                            refine wz_i1 (Eq.trans (i3T (Eq.trans (zm_rd (Z := Z21) (ν := ν) (k := 68) (show ((0 : Nat) : Int) = 0 from rfl) (show ((0 : Nat) : Int) = 0 from rfl) (show ((0 : Nat) : Int) = 0 from rfl)) (congrArg i3 ((hZ21A.1)))) (by omega) (by omega)) (decide_eq_true (by omega))) ?_
                            refine wz_i1 rfl ?_
                            refine wz_i0 (i3O (n := 7) (show (1 : Int32) = i3 1 from rfl) (by omega) (by omega) (by omega)) ?_
                            refine wz_i1 rfl ?_
                            refine wz_i0 (i3O (n := 7) (show (2 : Int32) = i3 2 from rfl) (by omega) (by omega) (by omega)) ?_
                            refine wz_i1 rfl ?_
                            refine wz_i0 (i3O (n := 7) (show (3 : Int32) = i3 3 from rfl) (by omega) (by omega) (by omega)) ?_
                            refine wz_i1 rfl ?_
                            refine wz_i0 (i3O (n := 7) (show (4 : Int32) = i3 4 from rfl) (by omega) (by omega) (by omega)) ?_
                            refine wz_i0 (i3O (n := 2) (Eq.trans (zm_rd (Z := Z21) (ν := ν) (k := 68) (show ((0 : Nat) : Int) = 0 from rfl) (show ((0 : Nat) : Int) = 0 from rfl) (show ((1 : Nat) : Int) = 1 from rfl)) (congrArg i3 ((hZ21A.2.1)))) (by omega) (by omega) (by omega)) ?_
                            refine wz_i0 (i3O (n := 48) (Eq.trans (zm_rd (Z := Z21) (ν := ν) (k := 68) (show ((0 : Nat) : Int) = 0 from rfl) (show ((0 : Nat) : Int) = 0 from rfl) (show ((2 : Nat) : Int) = 2 from rfl)) (congrArg i3 ((hZ21A.2.2.1)))) (by omega) (by omega) (by omega)) ?_
                            obtain ⟨Z22, hZ22⟩ := zx (zu Z21 44 0 a2 10 1)
                            replace hP := zl_e hP hZ22
                            have hZ22I := zH_u hZ21I hZ22 (lo := 0) (hi := 4) (by decide) rfl (by omega) ⟨by decide, by decide⟩ (Or.inl (by decide)) rfl
                            have hZ22U : zU [0, 2, 3, 4, 5, 6, 7, 8, 9] Z Z22 := zU_u hZ21U hZ22 (Or.inr (List.Mem.head _))
                            have hZ22K : zC [3, 12, 13, 14, 40, 41, 42, 43, 44, 45, 46, 47, 48, 49, 50, 51, 52, 53, 54, 61, 68, 1099, 1100, 1101, 1102, 1103, 1104, 1105, 1106, 1107, 1108, 1109, 1110, 1111, 1112, 1113, 1114, 1115, 1116] Z Z22 := zC_u hZ21K hZ22 (by decide)
                            intro μ9 e9
                            replace e9 := e9.trans (zm_wI (Z := Z21) (ν := ν) hZ22 (show ((0 : Nat) : Int) = 0 from rfl) (i3I (y := a2) (Eq.trans (zm_rd (Z := Z21) (ν := ν) (k := 68) (show ((0 : Nat) : Int) = 0 from rfl) (show ((0 : Nat) : Int) = 0 from rfl) (show ((2 : Nat) : Int) = 2 from rfl)) (congrArg i3 ((hZ21A.2.2.1)))) (by omega) (by omega) (by omega)) (show ((10 : Nat) : Int) = 10 from rfl) (show (1 : Int32) = i3 1 from rfl))
                            subst e9
                            have r23 := zH_k hZ21I 48 0 a1 5 (lo := 0) (hi := 12) (by decide) rfl
                            have q24 := dZ21 (k := 48) (i := a1) (j := 5) (by decide) (fun q => absurd q.1 (by decide))
                            refine wz_i0 (i3O (n := 24) (i3A (i3M (Eq.trans (zm_rd (Z := Z21) (ν := ν) (k := 68) (show ((0 : Nat) : Int) = 0 from rfl) (show ((0 : Nat) : Int) = 0 from rfl) (show ((1 : Nat) : Int) = 1 from rfl)) (congrArg i3 ((hZ21A.2.1)))) (show (12 : Int32) = i3 12 from rfl)) (zm_rd (Z := Z21) (ν := ν) (k := 48) (show ((0 : Nat) : Int) = 0 from rfl) (i3I (y := a1) (Eq.trans (zm_rd (Z := Z21) (ν := ν) (k := 68) (show ((0 : Nat) : Int) = 0 from rfl) (show ((0 : Nat) : Int) = 0 from rfl) (show ((1 : Nat) : Int) = 1 from rfl)) (congrArg i3 ((hZ21A.2.1)))) (by omega) (by omega) (by omega)) (show ((5 : Nat) : Int) = 5 from rfl))) (by omega) (by omega) (by omega)) ?_
                            obtain ⟨Z25, hZ25⟩ := zx (zu Z22 49 0 (12 * a1 + (Z21 48 0 a1 5)) 0 a2)
                            replace hP := zl_e hP hZ25
                            have hZ25I := zH_u hZ22I hZ25 (lo := 0) (hi := 47) (by decide) rfl (by omega) ⟨by decide, by decide⟩ (Or.inl (by decide)) rfl
                            have hZ25U : zU [0, 2, 3, 4, 5, 6, 7, 8, 9] Z Z25 := zU_u hZ22U hZ25 (Or.inr (List.Mem.head _))
                            have hZ25K : zC [3, 12, 13, 14, 40, 41, 42, 43, 44, 45, 46, 47, 48, 49, 50, 51, 52, 53, 54, 61, 68, 1099, 1100, 1101, 1102, 1103, 1104, 1105, 1106, 1107, 1108, 1109, 1110, 1111, 1112, 1113, 1114, 1115, 1116] Z Z25 := zC_u hZ22K hZ25 (by decide)
                            intro μ9 e9
                            replace e9 := e9.trans (zm_wI (Z := Z22) (ν := ν) hZ25 (show ((0 : Nat) : Int) = 0 from rfl) (i3I (y := (12 * a1 + (Z21 48 0 a1 5))) (i3A (i3M (Eq.trans (zm_rd (Z := Z21) (ν := ν) (k := 68) (show ((0 : Nat) : Int) = 0 from rfl) (show ((0 : Nat) : Int) = 0 from rfl) (show ((1 : Nat) : Int) = 1 from rfl)) (congrArg i3 ((hZ21A.2.1)))) (show (12 : Int32) = i3 12 from rfl)) (zm_rd (Z := Z21) (ν := ν) (k := 48) (show ((0 : Nat) : Int) = 0 from rfl) (i3I (y := a1) (Eq.trans (zm_rd (Z := Z21) (ν := ν) (k := 68) (show ((0 : Nat) : Int) = 0 from rfl) (show ((0 : Nat) : Int) = 0 from rfl) (show ((1 : Nat) : Int) = 1 from rfl)) (congrArg i3 ((hZ21A.2.1)))) (by omega) (by omega) (by omega)) (show ((5 : Nat) : Int) = 5 from rfl))) (by omega) (by omega) (by omega)) (show ((0 : Nat) : Int) = 0 from rfl) (Eq.trans (zm_rd (Z := Z21) (ν := ν) (k := 68) (show ((0 : Nat) : Int) = 0 from rfl) (show ((0 : Nat) : Int) = 0 from rfl) (show ((2 : Nat) : Int) = 2 from rfl)) (congrArg i3 ((hZ21A.2.2.1)))))
                            subst e9
                            refine wz_i0 (i3O (n := 24) (i3A (i3M (Eq.trans (zm_rd (Z := Z21) (ν := ν) (k := 68) (show ((0 : Nat) : Int) = 0 from rfl) (show ((0 : Nat) : Int) = 0 from rfl) (show ((1 : Nat) : Int) = 1 from rfl)) (congrArg i3 ((hZ21A.2.1)))) (show (12 : Int32) = i3 12 from rfl)) (zm_rd (Z := Z21) (ν := ν) (k := 48) (show ((0 : Nat) : Int) = 0 from rfl) (i3I (y := a1) (Eq.trans (zm_rd (Z := Z21) (ν := ν) (k := 68) (show ((0 : Nat) : Int) = 0 from rfl) (show ((0 : Nat) : Int) = 0 from rfl) (show ((1 : Nat) : Int) = 1 from rfl)) (congrArg i3 ((hZ21A.2.1)))) (by omega) (by omega) (by omega)) (show ((5 : Nat) : Int) = 5 from rfl))) (by omega) (by omega) (by omega)) ?_
                            obtain ⟨Z26, hZ26⟩ := zx (zu Z25 49 0 (12 * a1 + (Z21 48 0 a1 5)) 1 a3)
                            replace hP := zl_e hP hZ26
                            have hZ26I := zH_u hZ25I hZ26 (lo := 0) (hi := 9999) (by decide) rfl (by omega) ⟨by decide, by decide⟩ (Or.inl (by decide)) rfl
                            have hZ26U : zU [0, 2, 3, 4, 5, 6, 7, 8, 9] Z Z26 := zU_u hZ25U hZ26 (Or.inr (List.Mem.head _))
                            have hZ26K : zC [3, 12, 13, 14, 40, 41, 42, 43, 44, 45, 46, 47, 48, 49, 50, 51, 52, 53, 54, 61, 68, 1099, 1100, 1101, 1102, 1103, 1104, 1105, 1106, 1107, 1108, 1109, 1110, 1111, 1112, 1113, 1114, 1115, 1116] Z Z26 := zC_u hZ25K hZ26 (by decide)
                            intro μ9 e9
                            replace e9 := e9.trans (zm_wI (Z := Z25) (ν := ν) hZ26 (show ((0 : Nat) : Int) = 0 from rfl) (i3I (y := (12 * a1 + (Z21 48 0 a1 5))) (i3A (i3M (Eq.trans (zm_rd (Z := Z21) (ν := ν) (k := 68) (show ((0 : Nat) : Int) = 0 from rfl) (show ((0 : Nat) : Int) = 0 from rfl) (show ((1 : Nat) : Int) = 1 from rfl)) (congrArg i3 ((hZ21A.2.1)))) (show (12 : Int32) = i3 12 from rfl)) (zm_rd (Z := Z21) (ν := ν) (k := 48) (show ((0 : Nat) : Int) = 0 from rfl) (i3I (y := a1) (Eq.trans (zm_rd (Z := Z21) (ν := ν) (k := 68) (show ((0 : Nat) : Int) = 0 from rfl) (show ((0 : Nat) : Int) = 0 from rfl) (show ((1 : Nat) : Int) = 1 from rfl)) (congrArg i3 ((hZ21A.2.1)))) (by omega) (by omega) (by omega)) (show ((5 : Nat) : Int) = 5 from rfl))) (by omega) (by omega) (by omega)) (show ((1 : Nat) : Int) = 1 from rfl) (Eq.trans (zm_rd (Z := Z21) (ν := ν) (k := 68) (show ((0 : Nat) : Int) = 0 from rfl) (show ((0 : Nat) : Int) = 0 from rfl) (show ((3 : Nat) : Int) = 3 from rfl)) (congrArg i3 ((hZ21A.2.2.2.1)))))
                            subst e9
                            refine wz_i0 (i3O (n := 24) (i3A (i3M (Eq.trans (zm_rd (Z := Z21) (ν := ν) (k := 68) (show ((0 : Nat) : Int) = 0 from rfl) (show ((0 : Nat) : Int) = 0 from rfl) (show ((1 : Nat) : Int) = 1 from rfl)) (congrArg i3 ((hZ21A.2.1)))) (show (12 : Int32) = i3 12 from rfl)) (zm_rd (Z := Z21) (ν := ν) (k := 48) (show ((0 : Nat) : Int) = 0 from rfl) (i3I (y := a1) (Eq.trans (zm_rd (Z := Z21) (ν := ν) (k := 68) (show ((0 : Nat) : Int) = 0 from rfl) (show ((0 : Nat) : Int) = 0 from rfl) (show ((1 : Nat) : Int) = 1 from rfl)) (congrArg i3 ((hZ21A.2.1)))) (by omega) (by omega) (by omega)) (show ((5 : Nat) : Int) = 5 from rfl))) (by omega) (by omega) (by omega)) ?_
                            obtain ⟨Z27, hZ27⟩ := zx (zu Z26 49 0 (12 * a1 + (Z21 48 0 a1 5)) 2 a4)
                            replace hP := zl_e hP hZ27
                            have hZ27I := zH_u hZ26I hZ27 (lo := 0) (hi := 9999) (by decide) rfl (by omega) ⟨by decide, by decide⟩ (Or.inl (by decide)) rfl
                            have hZ27U : zU [0, 2, 3, 4, 5, 6, 7, 8, 9] Z Z27 := zU_u hZ26U hZ27 (Or.inr (List.Mem.head _))
                            have hZ27K : zC [3, 12, 13, 14, 40, 41, 42, 43, 44, 45, 46, 47, 48, 49, 50, 51, 52, 53, 54, 61, 68, 1099, 1100, 1101, 1102, 1103, 1104, 1105, 1106, 1107, 1108, 1109, 1110, 1111, 1112, 1113, 1114, 1115, 1116] Z Z27 := zC_u hZ26K hZ27 (by decide)
                            intro μ9 e9
                            replace e9 := e9.trans (zm_wI (Z := Z26) (ν := ν) hZ27 (show ((0 : Nat) : Int) = 0 from rfl) (i3I (y := (12 * a1 + (Z21 48 0 a1 5))) (i3A (i3M (Eq.trans (zm_rd (Z := Z21) (ν := ν) (k := 68) (show ((0 : Nat) : Int) = 0 from rfl) (show ((0 : Nat) : Int) = 0 from rfl) (show ((1 : Nat) : Int) = 1 from rfl)) (congrArg i3 ((hZ21A.2.1)))) (show (12 : Int32) = i3 12 from rfl)) (zm_rd (Z := Z21) (ν := ν) (k := 48) (show ((0 : Nat) : Int) = 0 from rfl) (i3I (y := a1) (Eq.trans (zm_rd (Z := Z21) (ν := ν) (k := 68) (show ((0 : Nat) : Int) = 0 from rfl) (show ((0 : Nat) : Int) = 0 from rfl) (show ((1 : Nat) : Int) = 1 from rfl)) (congrArg i3 ((hZ21A.2.1)))) (by omega) (by omega) (by omega)) (show ((5 : Nat) : Int) = 5 from rfl))) (by omega) (by omega) (by omega)) (show ((2 : Nat) : Int) = 2 from rfl) (Eq.trans (zm_rd (Z := Z21) (ν := ν) (k := 68) (show ((0 : Nat) : Int) = 0 from rfl) (show ((0 : Nat) : Int) = 0 from rfl) (show ((4 : Nat) : Int) = 4 from rfl)) (congrArg i3 ((hZ21A.2.2.2.2.1)))))
                            subst e9
                            refine wz_i0 (i3O (n := 2) (Eq.trans (zm_rd (Z := Z21) (ν := ν) (k := 68) (show ((0 : Nat) : Int) = 0 from rfl) (show ((0 : Nat) : Int) = 0 from rfl) (show ((1 : Nat) : Int) = 1 from rfl)) (congrArg i3 ((hZ21A.2.1)))) (by omega) (by omega) (by omega)) ?_
                            have r28 := zH_k hZ27I 48 0 a1 5 (lo := 0) (hi := 12) (by decide) rfl
                            have q29 := (zu_ne (k' := 48) (b' := 0) (i' := a1) (j' := 5) hZ27 (fun q => absurd q.1 (by decide))).trans ((zu_ne (k' := 48) (b' := 0) (i' := a1) (j' := 5) hZ26 (fun q => absurd q.1 (by decide))).trans ((zu_ne (k' := 48) (b' := 0) (i' := a1) (j' := 5) hZ25 (fun q => absurd q.1 (by decide))).trans (zu_ne (k' := 48) (b' := 0) (i' := a1) (j' := 5) hZ22 (fun q => absurd q.1 (by decide)))))
                            obtain ⟨Z30, hZ30⟩ := zx (zu Z27 48 0 a1 5 ((Z27 48 0 a1 5) + 1))
                            replace hP := zl_e hP hZ30
                            have hZ30I := zH_u hZ27I hZ30 (lo := 0) (hi := 12) (by decide) rfl (by omega) ⟨by decide, by decide⟩ (Or.inl (by decide)) rfl
                            have hZ30U : zU [0, 2, 3, 4, 5, 6, 7, 8, 9] Z Z30 := zU_u hZ27U hZ30 (Or.inr (List.Mem.head _))
                            have hZ30K : zC [3, 12, 13, 14, 40, 41, 42, 43, 44, 45, 46, 47, 48, 49, 50, 51, 52, 53, 54, 61, 68, 1099, 1100, 1101, 1102, 1103, 1104, 1105, 1106, 1107, 1108, 1109, 1110, 1111, 1112, 1113, 1114, 1115, 1116] Z Z30 := zC_u hZ27K hZ30 (by decide)
                            intro μ9 e9
                            replace e9 := e9.trans (zm_wI (Z := Z27) (ν := ν) hZ30 (show ((0 : Nat) : Int) = 0 from rfl) (i3I (y := a1) (Eq.trans (zm_rd (Z := Z21) (ν := ν) (k := 68) (show ((0 : Nat) : Int) = 0 from rfl) (show ((0 : Nat) : Int) = 0 from rfl) (show ((1 : Nat) : Int) = 1 from rfl)) (congrArg i3 ((hZ21A.2.1)))) (by omega) (by omega) (by omega)) (show ((5 : Nat) : Int) = 5 from rfl) (i3A (zm_rd (Z := Z27) (ν := ν) (k := 48) (show ((0 : Nat) : Int) = 0 from rfl) (i3I (y := a1) (Eq.trans (zm_rd (Z := Z21) (ν := ν) (k := 68) (show ((0 : Nat) : Int) = 0 from rfl) (show ((0 : Nat) : Int) = 0 from rfl) (show ((1 : Nat) : Int) = 1 from rfl)) (congrArg i3 ((hZ21A.2.1)))) (by omega) (by omega) (by omega)) (show ((5 : Nat) : Int) = 5 from rfl)) (show (1 : Int32) = i3 1 from rfl)))
                            subst e9
                            exact zlG hP (zm_rd (Z := Z21) (ν := ν) (k := 48) (show ((0 : Nat) : Int) = 0 from rfl) (i3I (y := a1) (Eq.trans (zm_rd (Z := Z21) (ν := ν) (k := 68) (show ((0 : Nat) : Int) = 0 from rfl) (show ((0 : Nat) : Int) = 0 from rfl) (show ((1 : Nat) : Int) = 1 from rfl)) (congrArg i3 ((hZ21A.2.1)))) (by omega) (by omega) (by omega)) (show ((5 : Nat) : Int) = 5 from rfl)) ⟨hZ30I, hZ30K, hZ30U, zG_w zG_r (Nat.le_of_ble_eq_true rfl) (Nat.le_of_ble_eq_true rfl)⟩
                        · replace hP := zE_n hP h18
                          have r31 := zH_k hZ 11 0 0 2 (lo := 0) (hi := 6) (by decide) rfl
                          refine wz_br (i3Le (zm_rd (Z := Z) (ν := ν) (k := 11) (show ((0 : Nat) : Int) = 0 from rfl) (show ((0 : Nat) : Int) = 0 from rfl) (show ((2 : Nat) : Int) = 2 from rfl)) (zm_rd (Z := Z) (ν := ν) (k := 44) (show ((0 : Nat) : Int) = 0 from rfl) (i3I (y := a2) (rfl : i3 a2 = i3 a2) (by omega) (by omega) (by omega)) (show ((12 : Nat) : Int) = 12 from rfl)) (by omega) (by omega) (by omega) (by omega)) (fun h32 => ?_) (fun h32 => ?_)
                          · replace hP := zE_p hP h32
                            refine wz_i0 (i3O (n := 2) (rfl : i3 a1 = i3 a1) (by omega) (by omega) (by omega)) ?_
                            have r33 := zH_k hZ 48 0 a1 5 (lo := 0) (hi := 12) (by decide) rfl
                            refine wz_br (i3Le (show (12 : Int32) = i3 12 from rfl) (zm_rd (Z := Z) (ν := ν) (k := 48) (show ((0 : Nat) : Int) = 0 from rfl) (i3I (y := a1) (rfl : i3 a1 = i3 a1) (by omega) (by omega) (by omega)) (show ((5 : Nat) : Int) = 5 from rfl)) (by omega) (by omega) (by omega) (by omega)) (fun h34 => ?_) (fun h34 => ?_)
                            · replace hP := zE_p hP h34
                              refine wz_i1 (Eq.trans (i3NE (show (3 : Int32) = i3 3 from rfl) (show (1 : Int32) = i3 1 from rfl) (by omega) (by omega) (by omega) (by omega)) (decide_eq_true (by omega))) ?_
                              refine wz_i1 (Eq.trans (i3NE (show (3 : Int32) = i3 3 from rfl) (show (2 : Int32) = i3 2 from rfl) (by omega) (by omega) (by omega) (by omega)) (decide_eq_true (by omega))) ?_
                              refine wz_i0 (Eq.trans (i3NE (show (3 : Int32) = i3 3 from rfl) (show (3 : Int32) = i3 3 from rfl) (by omega) (by omega) (by omega) (by omega)) (decide_eq_false (by omega))) ?_
                              exact zlGe (E := 14) hP ⟨hZ, zC_r, zU_r, zG_w (zG_k rfl) (Nat.le_of_ble_eq_true rfl) (Nat.le_of_ble_eq_true rfl)⟩
                            · replace hP := zE_n hP h34
                              refine wz_i1 (Eq.trans (i3NE (show (0 : Int32) = i3 0 from rfl) (show (1 : Int32) = i3 1 from rfl) (by omega) (by omega) (by omega) (by omega)) (decide_eq_true (by omega))) ?_
                              refine wz_i1 (Eq.trans (i3NE (show (0 : Int32) = i3 0 from rfl) (show (2 : Int32) = i3 2 from rfl) (by omega) (by omega) (by omega) (by omega)) (decide_eq_true (by omega))) ?_
                              refine wz_i1 (Eq.trans (i3NE (show (0 : Int32) = i3 0 from rfl) (show (3 : Int32) = i3 3 from rfl) (by omega) (by omega) (by omega) (by omega)) (decide_eq_true (by omega))) ?_
                              refine dc_J (zcons rfl (zcons (zvi (show (15 : Int32) = i3 15 from rfl)) (zcons (zvi (rfl : i3 a1 = i3 a1)) (zcons (zvi (rfl : i3 a2 = i3 a2)) (zcons (zvi (rfl : i3 a3 = i3 a3)) (zcons (zvi (rfl : i3 a4 = i3 a4)) (zcons (zvi (show (0 : Int32) = i3 0 from rfl)) (zcons (zvi (show (0 : Int32) = i3 0 from rfl)) rfl)))))))) (dg (hZ).1 (by omega) (by omega) (by omega) (by omega) (by omega) (by omega) (by omega) ?_)
                              have hZ35I := zH_dd hZ (a1 := 15) (a2 := a1) (a3 := a2) (a4 := a3) (a5 := a4) (a6 := 0) (a7 := 0) (by omega) (by omega) (by omega) (by omega) (by omega) (by omega) (by omega)
                              have kZ35 : zC [3, 12, 13, 14, 40, 41, 42, 43, 44, 45, 46, 47, 48, 49, 50, 51, 52, 53, 54, 61, 68, 1099, 1100, 1101, 1102, 1103, 1104, 1105, 1106, 1107, 1108, 1109, 1110, 1111, 1112, 1113, 1114, 1115, 1116] Z (zdd Z 15 a1 a2 a3 a4 0 0) := zC_k zdd_K (by decide) (by decide)
                              have hZ35A : (zdd Z 15 a1 a2 a3 a4 0 0) 68 0 0 0 = 15 ∧ (zdd Z 15 a1 a2 a3 a4 0 0) 68 0 0 1 = a1 ∧ (zdd Z 15 a1 a2 a3 a4 0 0) 68 0 0 2 = a2 ∧ (zdd Z 15 a1 a2 a3 a4 0 0) 68 0 0 3 = a3 ∧ (zdd Z 15 a1 a2 a3 a4 0 0) 68 0 0 4 = a4 ∧ (zdd Z 15 a1 a2 a3 a4 0 0) 68 0 0 5 = 0 ∧ (zdd Z 15 a1 a2 a3 a4 0 0) 68 0 0 6 = 0 := ⟨zdd_68, zdd_68, zdd_68, zdd_68, zdd_68, zdd_68, zdd_68⟩
                              obtain ⟨Z35, hZ35⟩ := zx (zdd Z 15 a1 a2 a3 a4 0 0)
                              have dZ35 : ∀ {k : Nat} {i j : Int}, zhall k = true → ¬ (k = 11 ∧ (j = 15 ∨ j = 16)) → Z35 k 0 i j = Z k 0 i j := fun hk hj => by rw [hZ35]; exact zdd_h (hZ).1 hk hj
                              have jZ35 : zU [0, 2, 3, 4, 5, 6, 7, 8, 9] Z (zdd Z 15 a1 a2 a3 a4 0 0) := zU_dd (hZ).1
                              rw [← hZ35] at hZ35I kZ35 jZ35 hZ35A ⊢
                              have hZ35U : zU [0, 2, 3, 4, 5, 6, 7, 8, 9] Z Z35 := zU_t zU_r jZ35 (zU_b1 (List.Mem.head _) (zU_b1 (List.Mem.tail _ (List.Mem.head _)) (zU_b1 (List.Mem.tail _ (List.Mem.tail _ (List.Mem.head _))) (zU_b1 (List.Mem.tail _ (List.Mem.tail _ (List.Mem.tail _ (List.Mem.head _)))) (zU_b1 (List.Mem.tail _ (List.Mem.tail _ (List.Mem.tail _ (List.Mem.tail _ (List.Mem.head _))))) (zU_b1 (List.Mem.tail _ (List.Mem.tail _ (List.Mem.tail _ (List.Mem.tail _ (List.Mem.tail _ (List.Mem.head _)))))) (zU_b1 (List.Mem.tail _ (List.Mem.tail _ (List.Mem.tail _ (List.Mem.tail _ (List.Mem.tail _ (List.Mem.tail _ (List.Mem.head _))))))) (zU_b1 (List.Mem.tail _ (List.Mem.tail _ (List.Mem.tail _ (List.Mem.tail _ (List.Mem.tail _ (List.Mem.tail _ (List.Mem.tail _ (List.Mem.head _)))))))) (zU_b1 (List.Mem.tail _ (List.Mem.tail _ (List.Mem.tail _ (List.Mem.tail _ (List.Mem.tail _ (List.Mem.tail _ (List.Mem.tail _ (List.Mem.tail _ (List.Mem.head _))))))))) zU_b0)))))))))
                              replace hP := zl_e hP hZ35
                              have hZ35K : zC [3, 12, 13, 14, 40, 41, 42, 43, 44, 45, 46, 47, 48, 49, 50, 51, 52, 53, 54, 61, 68, 1099, 1100, 1101, 1102, 1103, 1104, 1105, 1106, 1107, 1108, 1109, 1110, 1111, 1112, 1113, 1114, 1115, 1116] Z Z35 := zC_t zC_r kZ35 (by decide)
                              clear kZ35 hZ35
                              refine fw_121 _ _ _ _ ?_
                              refine wz_i1 rfl ?_
                              refine wz_i0 (i3O (n := 7) (show (0 : Int32) = i3 0 from rfl) (by omega) (by omega) (by omega)) ?_
                              refine wz_i0 (Eq.trans (i3To (Eq.trans (zm_rd (Z := Z35) (ν := ν) (k := 68) (show ((0 : Nat) : Int) = 0 from rfl) (show ((0 : Nat) : Int) = 0 from rfl) (show ((0 : Nat) : Int) = 0 from rfl)) (congrArg i3 ((hZ35A.1)))) (by omega) (by omega)) (decide_eq_false (by omega))) ?_
                              refine wz_i0 (Eq.trans (i3T (Eq.trans (zm_rd (Z := Z35) (ν := ν) (k := 68) (show ((0 : Nat) : Int) = 0 from rfl) (show ((0 : Nat) : Int) = 0 from rfl) (show ((0 : Nat) : Int) = 0 from rfl)) (congrArg i3 ((hZ35A.1)))) (by omega) (by omega)) (decide_eq_false (by omega))) ?_
                              refine wz_i0 (Eq.trans (i3T (Eq.trans (zm_rd (Z := Z35) (ν := ν) (k := 68) (show ((0 : Nat) : Int) = 0 from rfl) (show ((0 : Nat) : Int) = 0 from rfl) (show ((0 : Nat) : Int) = 0 from rfl)) (congrArg i3 ((hZ35A.1)))) (by omega) (by omega)) (decide_eq_false (by omega))) ?_
                              refine wz_i0 (Eq.trans (i3T (Eq.trans (zm_rd (Z := Z35) (ν := ν) (k := 68) (show ((0 : Nat) : Int) = 0 from rfl) (show ((0 : Nat) : Int) = 0 from rfl) (show ((0 : Nat) : Int) = 0 from rfl)) (congrArg i3 ((hZ35A.1)))) (by omega) (by omega)) (decide_eq_false (by omega))) ?_
                              refine wz_i0 (Eq.trans (i3T (Eq.trans (zm_rd (Z := Z35) (ν := ν) (k := 68) (show ((0 : Nat) : Int) = 0 from rfl) (show ((0 : Nat) : Int) = 0 from rfl) (show ((0 : Nat) : Int) = 0 from rfl)) (congrArg i3 ((hZ35A.1)))) (by omega) (by omega)) (decide_eq_false (by omega))) ?_
                              refine wz_i0 (Eq.trans (i3T (Eq.trans (zm_rd (Z := Z35) (ν := ν) (k := 68) (show ((0 : Nat) : Int) = 0 from rfl) (show ((0 : Nat) : Int) = 0 from rfl) (show ((0 : Nat) : Int) = 0 from rfl)) (congrArg i3 ((hZ35A.1)))) (by omega) (by omega)) (decide_eq_false (by omega))) ?_
                              refine wz_i0 (Eq.trans (i3T (Eq.trans (zm_rd (Z := Z35) (ν := ν) (k := 68) (show ((0 : Nat) : Int) = 0 from rfl) (show ((0 : Nat) : Int) = 0 from rfl) (show ((0 : Nat) : Int) = 0 from rfl)) (congrArg i3 ((hZ35A.1)))) (by omega) (by omega)) (decide_eq_false (by omega))) ?_
                              refine wz_i0 (Eq.trans (i3T (Eq.trans (zm_rd (Z := Z35) (ν := ν) (k := 68) (show ((0 : Nat) : Int) = 0 from rfl) (show ((0 : Nat) : Int) = 0 from rfl) (show ((0 : Nat) : Int) = 0 from rfl)) (congrArg i3 ((hZ35A.1)))) (by omega) (by omega)) (decide_eq_false (by omega))) ?_
                              refine wz_i0 (Eq.trans (i3T (Eq.trans (zm_rd (Z := Z35) (ν := ν) (k := 68) (show ((0 : Nat) : Int) = 0 from rfl) (show ((0 : Nat) : Int) = 0 from rfl) (show ((0 : Nat) : Int) = 0 from rfl)) (congrArg i3 ((hZ35A.1)))) (by omega) (by omega)) (decide_eq_false (by omega))) ?_
                              refine wz_i0 (Eq.trans (i3T (Eq.trans (zm_rd (Z := Z35) (ν := ν) (k := 68) (show ((0 : Nat) : Int) = 0 from rfl) (show ((0 : Nat) : Int) = 0 from rfl) (show ((0 : Nat) : Int) = 0 from rfl)) (congrArg i3 ((hZ35A.1)))) (by omega) (by omega)) (decide_eq_false (by omega))) ?_
                              refine wz_i0 (Eq.trans (i3T (Eq.trans (zm_rd (Z := Z35) (ν := ν) (k := 68) (show ((0 : Nat) : Int) = 0 from rfl) (show ((0 : Nat) : Int) = 0 from rfl) (show ((0 : Nat) : Int) = 0 from rfl)) (congrArg i3 ((hZ35A.1)))) (by omega) (by omega)) (decide_eq_false (by omega))) ?_
                              refine wz_i0 (Eq.trans (i3T (Eq.trans (zm_rd (Z := Z35) (ν := ν) (k := 68) (show ((0 : Nat) : Int) = 0 from rfl) (show ((0 : Nat) : Int) = 0 from rfl) (show ((0 : Nat) : Int) = 0 from rfl)) (congrArg i3 ((hZ35A.1)))) (by omega) (by omega)) (decide_eq_false (by omega))) ?_
                              refine wz_i0 (Eq.trans (i3T (Eq.trans (zm_rd (Z := Z35) (ν := ν) (k := 68) (show ((0 : Nat) : Int) = 0 from rfl) (show ((0 : Nat) : Int) = 0 from rfl) (show ((0 : Nat) : Int) = 0 from rfl)) (congrArg i3 ((hZ35A.1)))) (by omega) (by omega)) (decide_eq_false (by omega))) ?_
                              refine wz_i0 (Eq.trans (i3T (Eq.trans (zm_rd (Z := Z35) (ν := ν) (k := 68) (show ((0 : Nat) : Int) = 0 from rfl) (show ((0 : Nat) : Int) = 0 from rfl) (show ((0 : Nat) : Int) = 0 from rfl)) (congrArg i3 ((hZ35A.1)))) (by omega) (by omega)) (decide_eq_false (by omega))) ?_
                              refine wz_i0 (Eq.trans (i3T (Eq.trans (zm_rd (Z := Z35) (ν := ν) (k := 68) (show ((0 : Nat) : Int) = 0 from rfl) (show ((0 : Nat) : Int) = 0 from rfl) (show ((0 : Nat) : Int) = 0 from rfl)) (congrArg i3 ((hZ35A.1)))) (by omega) (by omega)) (decide_eq_false (by omega))) ?_
                              refine wz_i0 (Eq.trans (i3T (Eq.trans (zm_rd (Z := Z35) (ν := ν) (k := 68) (show ((0 : Nat) : Int) = 0 from rfl) (show ((0 : Nat) : Int) = 0 from rfl) (show ((0 : Nat) : Int) = 0 from rfl)) (congrArg i3 ((hZ35A.1)))) (by omega) (by omega)) (decide_eq_false (by omega))) ?_
                              refine wz_i1 (Eq.trans (i3T (Eq.trans (zm_rd (Z := Z35) (ν := ν) (k := 68) (show ((0 : Nat) : Int) = 0 from rfl) (show ((0 : Nat) : Int) = 0 from rfl) (show ((0 : Nat) : Int) = 0 from rfl)) (congrArg i3 ((hZ35A.1)))) (by omega) (by omega)) (decide_eq_true (by omega))) ?_
                              refine wz_i1 rfl ?_
                              refine wz_i0 (i3O (n := 7) (show (1 : Int32) = i3 1 from rfl) (by omega) (by omega) (by omega)) ?_
                              refine wz_i1 rfl ?_
                              refine wz_i0 (i3O (n := 7) (show (2 : Int32) = i3 2 from rfl) (by omega) (by omega) (by omega)) ?_
                              refine wz_i1 rfl ?_
                              refine wz_i0 (i3O (n := 7) (show (3 : Int32) = i3 3 from rfl) (by omega) (by omega) (by omega)) ?_
                              refine wz_i1 rfl ?_
                              refine wz_i0 (i3O (n := 7) (show (4 : Int32) = i3 4 from rfl) (by omega) (by omega) (by omega)) ?_
                              refine wz_i0 (i3O (n := 2) (Eq.trans (zm_rd (Z := Z35) (ν := ν) (k := 68) (show ((0 : Nat) : Int) = 0 from rfl) (show ((0 : Nat) : Int) = 0 from rfl) (show ((1 : Nat) : Int) = 1 from rfl)) (congrArg i3 ((hZ35A.2.1)))) (by omega) (by omega) (by omega)) ?_
                              refine wz_i0 (i3O (n := 48) (Eq.trans (zm_rd (Z := Z35) (ν := ν) (k := 68) (show ((0 : Nat) : Int) = 0 from rfl) (show ((0 : Nat) : Int) = 0 from rfl) (show ((2 : Nat) : Int) = 2 from rfl)) (congrArg i3 ((hZ35A.2.2.1)))) (by omega) (by omega) (by omega)) ?_
                              obtain ⟨Z36, hZ36⟩ := zx (zu Z35 44 0 a2 10 1)
                              replace hP := zl_e hP hZ36
                              have hZ36I := zH_u hZ35I hZ36 (lo := 0) (hi := 4) (by decide) rfl (by omega) ⟨by decide, by decide⟩ (Or.inl (by decide)) rfl
                              have hZ36U : zU [0, 2, 3, 4, 5, 6, 7, 8, 9] Z Z36 := zU_u hZ35U hZ36 (Or.inr (List.Mem.head _))
                              have hZ36K : zC [3, 12, 13, 14, 40, 41, 42, 43, 44, 45, 46, 47, 48, 49, 50, 51, 52, 53, 54, 61, 68, 1099, 1100, 1101, 1102, 1103, 1104, 1105, 1106, 1107, 1108, 1109, 1110, 1111, 1112, 1113, 1114, 1115, 1116] Z Z36 := zC_u hZ35K hZ36 (by decide)
                              intro μ9 e9
                              replace e9 := e9.trans (zm_wI (Z := Z35) (ν := ν) hZ36 (show ((0 : Nat) : Int) = 0 from rfl) (i3I (y := a2) (Eq.trans (zm_rd (Z := Z35) (ν := ν) (k := 68) (show ((0 : Nat) : Int) = 0 from rfl) (show ((0 : Nat) : Int) = 0 from rfl) (show ((2 : Nat) : Int) = 2 from rfl)) (congrArg i3 ((hZ35A.2.2.1)))) (by omega) (by omega) (by omega)) (show ((10 : Nat) : Int) = 10 from rfl) (show (1 : Int32) = i3 1 from rfl))
                              subst e9
                              have r37 := zH_k hZ35I 48 0 a1 5 (lo := 0) (hi := 12) (by decide) rfl
                              have q38 := dZ35 (k := 48) (i := a1) (j := 5) (by decide) (fun q => absurd q.1 (by decide))
                              refine wz_i0 (i3O (n := 24) (i3A (i3M (Eq.trans (zm_rd (Z := Z35) (ν := ν) (k := 68) (show ((0 : Nat) : Int) = 0 from rfl) (show ((0 : Nat) : Int) = 0 from rfl) (show ((1 : Nat) : Int) = 1 from rfl)) (congrArg i3 ((hZ35A.2.1)))) (show (12 : Int32) = i3 12 from rfl)) (zm_rd (Z := Z35) (ν := ν) (k := 48) (show ((0 : Nat) : Int) = 0 from rfl) (i3I (y := a1) (Eq.trans (zm_rd (Z := Z35) (ν := ν) (k := 68) (show ((0 : Nat) : Int) = 0 from rfl) (show ((0 : Nat) : Int) = 0 from rfl) (show ((1 : Nat) : Int) = 1 from rfl)) (congrArg i3 ((hZ35A.2.1)))) (by omega) (by omega) (by omega)) (show ((5 : Nat) : Int) = 5 from rfl))) (by omega) (by omega) (by omega)) ?_
                              obtain ⟨Z39, hZ39⟩ := zx (zu Z36 49 0 (12 * a1 + (Z35 48 0 a1 5)) 0 a2)
                              replace hP := zl_e hP hZ39
                              have hZ39I := zH_u hZ36I hZ39 (lo := 0) (hi := 47) (by decide) rfl (by omega) ⟨by decide, by decide⟩ (Or.inl (by decide)) rfl
                              have hZ39U : zU [0, 2, 3, 4, 5, 6, 7, 8, 9] Z Z39 := zU_u hZ36U hZ39 (Or.inr (List.Mem.head _))
                              have hZ39K : zC [3, 12, 13, 14, 40, 41, 42, 43, 44, 45, 46, 47, 48, 49, 50, 51, 52, 53, 54, 61, 68, 1099, 1100, 1101, 1102, 1103, 1104, 1105, 1106, 1107, 1108, 1109, 1110, 1111, 1112, 1113, 1114, 1115, 1116] Z Z39 := zC_u hZ36K hZ39 (by decide)
                              intro μ9 e9
                              replace e9 := e9.trans (zm_wI (Z := Z36) (ν := ν) hZ39 (show ((0 : Nat) : Int) = 0 from rfl) (i3I (y := (12 * a1 + (Z35 48 0 a1 5))) (i3A (i3M (Eq.trans (zm_rd (Z := Z35) (ν := ν) (k := 68) (show ((0 : Nat) : Int) = 0 from rfl) (show ((0 : Nat) : Int) = 0 from rfl) (show ((1 : Nat) : Int) = 1 from rfl)) (congrArg i3 ((hZ35A.2.1)))) (show (12 : Int32) = i3 12 from rfl)) (zm_rd (Z := Z35) (ν := ν) (k := 48) (show ((0 : Nat) : Int) = 0 from rfl) (i3I (y := a1) (Eq.trans (zm_rd (Z := Z35) (ν := ν) (k := 68) (show ((0 : Nat) : Int) = 0 from rfl) (show ((0 : Nat) : Int) = 0 from rfl) (show ((1 : Nat) : Int) = 1 from rfl)) (congrArg i3 ((hZ35A.2.1)))) (by omega) (by omega) (by omega)) (show ((5 : Nat) : Int) = 5 from rfl))) (by omega) (by omega) (by omega)) (show ((0 : Nat) : Int) = 0 from rfl) (Eq.trans (zm_rd (Z := Z35) (ν := ν) (k := 68) (show ((0 : Nat) : Int) = 0 from rfl) (show ((0 : Nat) : Int) = 0 from rfl) (show ((2 : Nat) : Int) = 2 from rfl)) (congrArg i3 ((hZ35A.2.2.1)))))
                              subst e9
                              refine wz_i0 (i3O (n := 24) (i3A (i3M (Eq.trans (zm_rd (Z := Z35) (ν := ν) (k := 68) (show ((0 : Nat) : Int) = 0 from rfl) (show ((0 : Nat) : Int) = 0 from rfl) (show ((1 : Nat) : Int) = 1 from rfl)) (congrArg i3 ((hZ35A.2.1)))) (show (12 : Int32) = i3 12 from rfl)) (zm_rd (Z := Z35) (ν := ν) (k := 48) (show ((0 : Nat) : Int) = 0 from rfl) (i3I (y := a1) (Eq.trans (zm_rd (Z := Z35) (ν := ν) (k := 68) (show ((0 : Nat) : Int) = 0 from rfl) (show ((0 : Nat) : Int) = 0 from rfl) (show ((1 : Nat) : Int) = 1 from rfl)) (congrArg i3 ((hZ35A.2.1)))) (by omega) (by omega) (by omega)) (show ((5 : Nat) : Int) = 5 from rfl))) (by omega) (by omega) (by omega)) ?_
                              obtain ⟨Z40, hZ40⟩ := zx (zu Z39 49 0 (12 * a1 + (Z35 48 0 a1 5)) 1 a3)
                              replace hP := zl_e hP hZ40
                              have hZ40I := zH_u hZ39I hZ40 (lo := 0) (hi := 9999) (by decide) rfl (by omega) ⟨by decide, by decide⟩ (Or.inl (by decide)) rfl
                              have hZ40U : zU [0, 2, 3, 4, 5, 6, 7, 8, 9] Z Z40 := zU_u hZ39U hZ40 (Or.inr (List.Mem.head _))
                              have hZ40K : zC [3, 12, 13, 14, 40, 41, 42, 43, 44, 45, 46, 47, 48, 49, 50, 51, 52, 53, 54, 61, 68, 1099, 1100, 1101, 1102, 1103, 1104, 1105, 1106, 1107, 1108, 1109, 1110, 1111, 1112, 1113, 1114, 1115, 1116] Z Z40 := zC_u hZ39K hZ40 (by decide)
                              intro μ9 e9
                              replace e9 := e9.trans (zm_wI (Z := Z39) (ν := ν) hZ40 (show ((0 : Nat) : Int) = 0 from rfl) (i3I (y := (12 * a1 + (Z35 48 0 a1 5))) (i3A (i3M (Eq.trans (zm_rd (Z := Z35) (ν := ν) (k := 68) (show ((0 : Nat) : Int) = 0 from rfl) (show ((0 : Nat) : Int) = 0 from rfl) (show ((1 : Nat) : Int) = 1 from rfl)) (congrArg i3 ((hZ35A.2.1)))) (show (12 : Int32) = i3 12 from rfl)) (zm_rd (Z := Z35) (ν := ν) (k := 48) (show ((0 : Nat) : Int) = 0 from rfl) (i3I (y := a1) (Eq.trans (zm_rd (Z := Z35) (ν := ν) (k := 68) (show ((0 : Nat) : Int) = 0 from rfl) (show ((0 : Nat) : Int) = 0 from rfl) (show ((1 : Nat) : Int) = 1 from rfl)) (congrArg i3 ((hZ35A.2.1)))) (by omega) (by omega) (by omega)) (show ((5 : Nat) : Int) = 5 from rfl))) (by omega) (by omega) (by omega)) (show ((1 : Nat) : Int) = 1 from rfl) (Eq.trans (zm_rd (Z := Z35) (ν := ν) (k := 68) (show ((0 : Nat) : Int) = 0 from rfl) (show ((0 : Nat) : Int) = 0 from rfl) (show ((3 : Nat) : Int) = 3 from rfl)) (congrArg i3 ((hZ35A.2.2.2.1)))))
                              subst e9
                              refine wz_i0 (i3O (n := 24) (i3A (i3M (Eq.trans (zm_rd (Z := Z35) (ν := ν) (k := 68) (show ((0 : Nat) : Int) = 0 from rfl) (show ((0 : Nat) : Int) = 0 from rfl) (show ((1 : Nat) : Int) = 1 from rfl)) (congrArg i3 ((hZ35A.2.1)))) (show (12 : Int32) = i3 12 from rfl)) (zm_rd (Z := Z35) (ν := ν) (k := 48) (show ((0 : Nat) : Int) = 0 from rfl) (i3I (y := a1) (Eq.trans (zm_rd (Z := Z35) (ν := ν) (k := 68) (show ((0 : Nat) : Int) = 0 from rfl) (show ((0 : Nat) : Int) = 0 from rfl) (show ((1 : Nat) : Int) = 1 from rfl)) (congrArg i3 ((hZ35A.2.1)))) (by omega) (by omega) (by omega)) (show ((5 : Nat) : Int) = 5 from rfl))) (by omega) (by omega) (by omega)) ?_
                              obtain ⟨Z41, hZ41⟩ := zx (zu Z40 49 0 (12 * a1 + (Z35 48 0 a1 5)) 2 a4)
                              replace hP := zl_e hP hZ41
                              have hZ41I := zH_u hZ40I hZ41 (lo := 0) (hi := 9999) (by decide) rfl (by omega) ⟨by decide, by decide⟩ (Or.inl (by decide)) rfl
                              have hZ41U : zU [0, 2, 3, 4, 5, 6, 7, 8, 9] Z Z41 := zU_u hZ40U hZ41 (Or.inr (List.Mem.head _))
                              have hZ41K : zC [3, 12, 13, 14, 40, 41, 42, 43, 44, 45, 46, 47, 48, 49, 50, 51, 52, 53, 54, 61, 68, 1099, 1100, 1101, 1102, 1103, 1104, 1105, 1106, 1107, 1108, 1109, 1110, 1111, 1112, 1113, 1114, 1115, 1116] Z Z41 := zC_u hZ40K hZ41 (by decide)
                              intro μ9 e9
                              replace e9 := e9.trans (zm_wI (Z := Z40) (ν := ν) hZ41 (show ((0 : Nat) : Int) = 0 from rfl) (i3I (y := (12 * a1 + (Z35 48 0 a1 5))) (i3A (i3M (Eq.trans (zm_rd (Z := Z35) (ν := ν) (k := 68) (show ((0 : Nat) : Int) = 0 from rfl) (show ((0 : Nat) : Int) = 0 from rfl) (show ((1 : Nat) : Int) = 1 from rfl)) (congrArg i3 ((hZ35A.2.1)))) (show (12 : Int32) = i3 12 from rfl)) (zm_rd (Z := Z35) (ν := ν) (k := 48) (show ((0 : Nat) : Int) = 0 from rfl) (i3I (y := a1) (Eq.trans (zm_rd (Z := Z35) (ν := ν) (k := 68) (show ((0 : Nat) : Int) = 0 from rfl) (show ((0 : Nat) : Int) = 0 from rfl) (show ((1 : Nat) : Int) = 1 from rfl)) (congrArg i3 ((hZ35A.2.1)))) (by omega) (by omega) (by omega)) (show ((5 : Nat) : Int) = 5 from rfl))) (by omega) (by omega) (by omega)) (show ((2 : Nat) : Int) = 2 from rfl) (Eq.trans (zm_rd (Z := Z35) (ν := ν) (k := 68) (show ((0 : Nat) : Int) = 0 from rfl) (show ((0 : Nat) : Int) = 0 from rfl) (show ((4 : Nat) : Int) = 4 from rfl)) (congrArg i3 ((hZ35A.2.2.2.2.1)))))
                              subst e9
                              refine wz_i0 (i3O (n := 2) (Eq.trans (zm_rd (Z := Z35) (ν := ν) (k := 68) (show ((0 : Nat) : Int) = 0 from rfl) (show ((0 : Nat) : Int) = 0 from rfl) (show ((1 : Nat) : Int) = 1 from rfl)) (congrArg i3 ((hZ35A.2.1)))) (by omega) (by omega) (by omega)) ?_
                              have r42 := zH_k hZ41I 48 0 a1 5 (lo := 0) (hi := 12) (by decide) rfl
                              have q43 := (zu_ne (k' := 48) (b' := 0) (i' := a1) (j' := 5) hZ41 (fun q => absurd q.1 (by decide))).trans ((zu_ne (k' := 48) (b' := 0) (i' := a1) (j' := 5) hZ40 (fun q => absurd q.1 (by decide))).trans ((zu_ne (k' := 48) (b' := 0) (i' := a1) (j' := 5) hZ39 (fun q => absurd q.1 (by decide))).trans (zu_ne (k' := 48) (b' := 0) (i' := a1) (j' := 5) hZ36 (fun q => absurd q.1 (by decide)))))
                              obtain ⟨Z44, hZ44⟩ := zx (zu Z41 48 0 a1 5 ((Z41 48 0 a1 5) + 1))
                              replace hP := zl_e hP hZ44
                              have hZ44I := zH_u hZ41I hZ44 (lo := 0) (hi := 12) (by decide) rfl (by omega) ⟨by decide, by decide⟩ (Or.inl (by decide)) rfl
                              have hZ44U : zU [0, 2, 3, 4, 5, 6, 7, 8, 9] Z Z44 := zU_u hZ41U hZ44 (Or.inr (List.Mem.head _))
                              have hZ44K : zC [3, 12, 13, 14, 40, 41, 42, 43, 44, 45, 46, 47, 48, 49, 50, 51, 52, 53, 54, 61, 68, 1099, 1100, 1101, 1102, 1103, 1104, 1105, 1106, 1107, 1108, 1109, 1110, 1111, 1112, 1113, 1114, 1115, 1116] Z Z44 := zC_u hZ41K hZ44 (by decide)
                              intro μ9 e9
                              replace e9 := e9.trans (zm_wI (Z := Z41) (ν := ν) hZ44 (show ((0 : Nat) : Int) = 0 from rfl) (i3I (y := a1) (Eq.trans (zm_rd (Z := Z35) (ν := ν) (k := 68) (show ((0 : Nat) : Int) = 0 from rfl) (show ((0 : Nat) : Int) = 0 from rfl) (show ((1 : Nat) : Int) = 1 from rfl)) (congrArg i3 ((hZ35A.2.1)))) (by omega) (by omega) (by omega)) (show ((5 : Nat) : Int) = 5 from rfl) (i3A (zm_rd (Z := Z41) (ν := ν) (k := 48) (show ((0 : Nat) : Int) = 0 from rfl) (i3I (y := a1) (Eq.trans (zm_rd (Z := Z35) (ν := ν) (k := 68) (show ((0 : Nat) : Int) = 0 from rfl) (show ((0 : Nat) : Int) = 0 from rfl) (show ((1 : Nat) : Int) = 1 from rfl)) (congrArg i3 ((hZ35A.2.1)))) (by omega) (by omega) (by omega)) (show ((5 : Nat) : Int) = 5 from rfl)) (show (1 : Int32) = i3 1 from rfl)))
                              subst e9
                              exact zlG hP (zm_rd (Z := Z35) (ν := ν) (k := 48) (show ((0 : Nat) : Int) = 0 from rfl) (i3I (y := a1) (Eq.trans (zm_rd (Z := Z35) (ν := ν) (k := 68) (show ((0 : Nat) : Int) = 0 from rfl) (show ((0 : Nat) : Int) = 0 from rfl) (show ((1 : Nat) : Int) = 1 from rfl)) (congrArg i3 ((hZ35A.2.1)))) (by omega) (by omega) (by omega)) (show ((5 : Nat) : Int) = 5 from rfl)) ⟨hZ44I, hZ44K, hZ44U, zG_w zG_r (Nat.le_of_ble_eq_true rfl) (Nat.le_of_ble_eq_true rfl)⟩
                          · replace hP := zE_n hP h32
                            refine wz_i0 (i3O (n := 6) (zm_rd (Z := Z) (ν := ν) (k := 44) (show ((0 : Nat) : Int) = 0 from rfl) (i3I (y := a2) (rfl : i3 a2 = i3 a2) (by omega) (by omega) (by omega)) (show ((12 : Nat) : Int) = 12 from rfl)) (by omega) (by omega) (by omega)) ?_
                            have r45 := zH_k hZ 43 0 (Z 44 0 a2 12) 10 (lo := -1) (hi := 695) (by decide) rfl
                            have r46 := zH_k hZ 11 0 0 13 (lo := 0) (hi := 671) (by decide) rfl
                            refine wz_br (i3Le (zm_rd (Z := Z) (ν := ν) (k := 43) (show ((0 : Nat) : Int) = 0 from rfl) (i3I (y := (Z 44 0 a2 12)) (zm_rd (Z := Z) (ν := ν) (k := 44) (show ((0 : Nat) : Int) = 0 from rfl) (i3I (y := a2) (rfl : i3 a2 = i3 a2) (by omega) (by omega) (by omega)) (show ((12 : Nat) : Int) = 12 from rfl)) (by omega) (by omega) (by omega)) (show ((10 : Nat) : Int) = 10 from rfl)) (zm_rd (Z := Z) (ν := ν) (k := 11) (show ((0 : Nat) : Int) = 0 from rfl) (show ((0 : Nat) : Int) = 0 from rfl) (show ((13 : Nat) : Int) = 13 from rfl)) (by omega) (by omega) (by omega) (by omega)) (fun h47 => ?_) (fun h47 => ?_)
                            · replace hP := zE_p hP h47
                              refine wz_i0 (i3O (n := 2) (rfl : i3 a1 = i3 a1) (by omega) (by omega) (by omega)) ?_
                              have r48 := zH_k hZ 48 0 a1 5 (lo := 0) (hi := 12) (by decide) rfl
                              refine wz_br (i3Le (show (12 : Int32) = i3 12 from rfl) (zm_rd (Z := Z) (ν := ν) (k := 48) (show ((0 : Nat) : Int) = 0 from rfl) (i3I (y := a1) (rfl : i3 a1 = i3 a1) (by omega) (by omega) (by omega)) (show ((5 : Nat) : Int) = 5 from rfl)) (by omega) (by omega) (by omega) (by omega)) (fun h49 => ?_) (fun h49 => ?_)
                              · replace hP := zE_p hP h49
                                refine wz_i1 (Eq.trans (i3NE (show (3 : Int32) = i3 3 from rfl) (show (1 : Int32) = i3 1 from rfl) (by omega) (by omega) (by omega) (by omega)) (decide_eq_true (by omega))) ?_
                                refine wz_i1 (Eq.trans (i3NE (show (3 : Int32) = i3 3 from rfl) (show (2 : Int32) = i3 2 from rfl) (by omega) (by omega) (by omega) (by omega)) (decide_eq_true (by omega))) ?_
                                refine wz_i0 (Eq.trans (i3NE (show (3 : Int32) = i3 3 from rfl) (show (3 : Int32) = i3 3 from rfl) (by omega) (by omega) (by omega) (by omega)) (decide_eq_false (by omega))) ?_
                                exact zlGe (E := 14) hP ⟨hZ, zC_r, zU_r, zG_w (zG_k rfl) (Nat.le_of_ble_eq_true rfl) (Nat.le_of_ble_eq_true rfl)⟩
                              · replace hP := zE_n hP h49
                                refine wz_i1 (Eq.trans (i3NE (show (0 : Int32) = i3 0 from rfl) (show (1 : Int32) = i3 1 from rfl) (by omega) (by omega) (by omega) (by omega)) (decide_eq_true (by omega))) ?_
                                refine wz_i1 (Eq.trans (i3NE (show (0 : Int32) = i3 0 from rfl) (show (2 : Int32) = i3 2 from rfl) (by omega) (by omega) (by omega) (by omega)) (decide_eq_true (by omega))) ?_
                                refine wz_i1 (Eq.trans (i3NE (show (0 : Int32) = i3 0 from rfl) (show (3 : Int32) = i3 3 from rfl) (by omega) (by omega) (by omega) (by omega)) (decide_eq_true (by omega))) ?_
                                refine dc_J (zcons rfl (zcons (zvi (show (15 : Int32) = i3 15 from rfl)) (zcons (zvi (rfl : i3 a1 = i3 a1)) (zcons (zvi (rfl : i3 a2 = i3 a2)) (zcons (zvi (rfl : i3 a3 = i3 a3)) (zcons (zvi (rfl : i3 a4 = i3 a4)) (zcons (zvi (show (0 : Int32) = i3 0 from rfl)) (zcons (zvi (show (0 : Int32) = i3 0 from rfl)) rfl)))))))) (dg (hZ).1 (by omega) (by omega) (by omega) (by omega) (by omega) (by omega) (by omega) ?_)
                                have hZ50I := zH_dd hZ (a1 := 15) (a2 := a1) (a3 := a2) (a4 := a3) (a5 := a4) (a6 := 0) (a7 := 0) (by omega) (by omega) (by omega) (by omega) (by omega) (by omega) (by omega)
                                have kZ50 : zC [3, 12, 13, 14, 40, 41, 42, 43, 44, 45, 46, 47, 48, 49, 50, 51, 52, 53, 54, 61, 68, 1099, 1100, 1101, 1102, 1103, 1104, 1105, 1106, 1107, 1108, 1109, 1110, 1111, 1112, 1113, 1114, 1115, 1116] Z (zdd Z 15 a1 a2 a3 a4 0 0) := zC_k zdd_K (by decide) (by decide)
                                have hZ50A : (zdd Z 15 a1 a2 a3 a4 0 0) 68 0 0 0 = 15 ∧ (zdd Z 15 a1 a2 a3 a4 0 0) 68 0 0 1 = a1 ∧ (zdd Z 15 a1 a2 a3 a4 0 0) 68 0 0 2 = a2 ∧ (zdd Z 15 a1 a2 a3 a4 0 0) 68 0 0 3 = a3 ∧ (zdd Z 15 a1 a2 a3 a4 0 0) 68 0 0 4 = a4 ∧ (zdd Z 15 a1 a2 a3 a4 0 0) 68 0 0 5 = 0 ∧ (zdd Z 15 a1 a2 a3 a4 0 0) 68 0 0 6 = 0 := ⟨zdd_68, zdd_68, zdd_68, zdd_68, zdd_68, zdd_68, zdd_68⟩
                                obtain ⟨Z50, hZ50⟩ := zx (zdd Z 15 a1 a2 a3 a4 0 0)
                                have dZ50 : ∀ {k : Nat} {i j : Int}, zhall k = true → ¬ (k = 11 ∧ (j = 15 ∨ j = 16)) → Z50 k 0 i j = Z k 0 i j := fun hk hj => by rw [hZ50]; exact zdd_h (hZ).1 hk hj
                                have jZ50 : zU [0, 2, 3, 4, 5, 6, 7, 8, 9] Z (zdd Z 15 a1 a2 a3 a4 0 0) := zU_dd (hZ).1
                                rw [← hZ50] at hZ50I kZ50 jZ50 hZ50A ⊢
                                have hZ50U : zU [0, 2, 3, 4, 5, 6, 7, 8, 9] Z Z50 := zU_t zU_r jZ50 (zU_b1 (List.Mem.head _) (zU_b1 (List.Mem.tail _ (List.Mem.head _)) (zU_b1 (List.Mem.tail _ (List.Mem.tail _ (List.Mem.head _))) (zU_b1 (List.Mem.tail _ (List.Mem.tail _ (List.Mem.tail _ (List.Mem.head _)))) (zU_b1 (List.Mem.tail _ (List.Mem.tail _ (List.Mem.tail _ (List.Mem.tail _ (List.Mem.head _))))) (zU_b1 (List.Mem.tail _ (List.Mem.tail _ (List.Mem.tail _ (List.Mem.tail _ (List.Mem.tail _ (List.Mem.head _)))))) (zU_b1 (List.Mem.tail _ (List.Mem.tail _ (List.Mem.tail _ (List.Mem.tail _ (List.Mem.tail _ (List.Mem.tail _ (List.Mem.head _))))))) (zU_b1 (List.Mem.tail _ (List.Mem.tail _ (List.Mem.tail _ (List.Mem.tail _ (List.Mem.tail _ (List.Mem.tail _ (List.Mem.tail _ (List.Mem.head _)))))))) (zU_b1 (List.Mem.tail _ (List.Mem.tail _ (List.Mem.tail _ (List.Mem.tail _ (List.Mem.tail _ (List.Mem.tail _ (List.Mem.tail _ (List.Mem.tail _ (List.Mem.head _))))))))) zU_b0)))))))))
                                replace hP := zl_e hP hZ50
                                have hZ50K : zC [3, 12, 13, 14, 40, 41, 42, 43, 44, 45, 46, 47, 48, 49, 50, 51, 52, 53, 54, 61, 68, 1099, 1100, 1101, 1102, 1103, 1104, 1105, 1106, 1107, 1108, 1109, 1110, 1111, 1112, 1113, 1114, 1115, 1116] Z Z50 := zC_t zC_r kZ50 (by decide)
                                clear kZ50 hZ50
                                refine fw_121 _ _ _ _ ?_
                                refine wz_i1 rfl ?_
                                refine wz_i0 (i3O (n := 7) (show (0 : Int32) = i3 0 from rfl) (by omega) (by omega) (by omega)) ?_
                                refine wz_i0 (Eq.trans (i3To (Eq.trans (zm_rd (Z := Z50) (ν := ν) (k := 68) (show ((0 : Nat) : Int) = 0 from rfl) (show ((0 : Nat) : Int) = 0 from rfl) (show ((0 : Nat) : Int) = 0 from rfl)) (congrArg i3 ((hZ50A.1)))) (by omega) (by omega)) (decide_eq_false (by omega))) ?_
                                refine wz_i0 (Eq.trans (i3T (Eq.trans (zm_rd (Z := Z50) (ν := ν) (k := 68) (show ((0 : Nat) : Int) = 0 from rfl) (show ((0 : Nat) : Int) = 0 from rfl) (show ((0 : Nat) : Int) = 0 from rfl)) (congrArg i3 ((hZ50A.1)))) (by omega) (by omega)) (decide_eq_false (by omega))) ?_
                                refine wz_i0 (Eq.trans (i3T (Eq.trans (zm_rd (Z := Z50) (ν := ν) (k := 68) (show ((0 : Nat) : Int) = 0 from rfl) (show ((0 : Nat) : Int) = 0 from rfl) (show ((0 : Nat) : Int) = 0 from rfl)) (congrArg i3 ((hZ50A.1)))) (by omega) (by omega)) (decide_eq_false (by omega))) ?_
                                refine wz_i0 (Eq.trans (i3T (Eq.trans (zm_rd (Z := Z50) (ν := ν) (k := 68) (show ((0 : Nat) : Int) = 0 from rfl) (show ((0 : Nat) : Int) = 0 from rfl) (show ((0 : Nat) : Int) = 0 from rfl)) (congrArg i3 ((hZ50A.1)))) (by omega) (by omega)) (decide_eq_false (by omega))) ?_
                                refine wz_i0 (Eq.trans (i3T (Eq.trans (zm_rd (Z := Z50) (ν := ν) (k := 68) (show ((0 : Nat) : Int) = 0 from rfl) (show ((0 : Nat) : Int) = 0 from rfl) (show ((0 : Nat) : Int) = 0 from rfl)) (congrArg i3 ((hZ50A.1)))) (by omega) (by omega)) (decide_eq_false (by omega))) ?_
                                refine wz_i0 (Eq.trans (i3T (Eq.trans (zm_rd (Z := Z50) (ν := ν) (k := 68) (show ((0 : Nat) : Int) = 0 from rfl) (show ((0 : Nat) : Int) = 0 from rfl) (show ((0 : Nat) : Int) = 0 from rfl)) (congrArg i3 ((hZ50A.1)))) (by omega) (by omega)) (decide_eq_false (by omega))) ?_
                                refine wz_i0 (Eq.trans (i3T (Eq.trans (zm_rd (Z := Z50) (ν := ν) (k := 68) (show ((0 : Nat) : Int) = 0 from rfl) (show ((0 : Nat) : Int) = 0 from rfl) (show ((0 : Nat) : Int) = 0 from rfl)) (congrArg i3 ((hZ50A.1)))) (by omega) (by omega)) (decide_eq_false (by omega))) ?_
                                refine wz_i0 (Eq.trans (i3T (Eq.trans (zm_rd (Z := Z50) (ν := ν) (k := 68) (show ((0 : Nat) : Int) = 0 from rfl) (show ((0 : Nat) : Int) = 0 from rfl) (show ((0 : Nat) : Int) = 0 from rfl)) (congrArg i3 ((hZ50A.1)))) (by omega) (by omega)) (decide_eq_false (by omega))) ?_
                                refine wz_i0 (Eq.trans (i3T (Eq.trans (zm_rd (Z := Z50) (ν := ν) (k := 68) (show ((0 : Nat) : Int) = 0 from rfl) (show ((0 : Nat) : Int) = 0 from rfl) (show ((0 : Nat) : Int) = 0 from rfl)) (congrArg i3 ((hZ50A.1)))) (by omega) (by omega)) (decide_eq_false (by omega))) ?_
                                refine wz_i0 (Eq.trans (i3T (Eq.trans (zm_rd (Z := Z50) (ν := ν) (k := 68) (show ((0 : Nat) : Int) = 0 from rfl) (show ((0 : Nat) : Int) = 0 from rfl) (show ((0 : Nat) : Int) = 0 from rfl)) (congrArg i3 ((hZ50A.1)))) (by omega) (by omega)) (decide_eq_false (by omega))) ?_
                                refine wz_i0 (Eq.trans (i3T (Eq.trans (zm_rd (Z := Z50) (ν := ν) (k := 68) (show ((0 : Nat) : Int) = 0 from rfl) (show ((0 : Nat) : Int) = 0 from rfl) (show ((0 : Nat) : Int) = 0 from rfl)) (congrArg i3 ((hZ50A.1)))) (by omega) (by omega)) (decide_eq_false (by omega))) ?_
                                refine wz_i0 (Eq.trans (i3T (Eq.trans (zm_rd (Z := Z50) (ν := ν) (k := 68) (show ((0 : Nat) : Int) = 0 from rfl) (show ((0 : Nat) : Int) = 0 from rfl) (show ((0 : Nat) : Int) = 0 from rfl)) (congrArg i3 ((hZ50A.1)))) (by omega) (by omega)) (decide_eq_false (by omega))) ?_
                                refine wz_i0 (Eq.trans (i3T (Eq.trans (zm_rd (Z := Z50) (ν := ν) (k := 68) (show ((0 : Nat) : Int) = 0 from rfl) (show ((0 : Nat) : Int) = 0 from rfl) (show ((0 : Nat) : Int) = 0 from rfl)) (congrArg i3 ((hZ50A.1)))) (by omega) (by omega)) (decide_eq_false (by omega))) ?_
                                refine wz_i0 (Eq.trans (i3T (Eq.trans (zm_rd (Z := Z50) (ν := ν) (k := 68) (show ((0 : Nat) : Int) = 0 from rfl) (show ((0 : Nat) : Int) = 0 from rfl) (show ((0 : Nat) : Int) = 0 from rfl)) (congrArg i3 ((hZ50A.1)))) (by omega) (by omega)) (decide_eq_false (by omega))) ?_
                                refine wz_i0 (Eq.trans (i3T (Eq.trans (zm_rd (Z := Z50) (ν := ν) (k := 68) (show ((0 : Nat) : Int) = 0 from rfl) (show ((0 : Nat) : Int) = 0 from rfl) (show ((0 : Nat) : Int) = 0 from rfl)) (congrArg i3 ((hZ50A.1)))) (by omega) (by omega)) (decide_eq_false (by omega))) ?_
                                refine wz_i0 (Eq.trans (i3T (Eq.trans (zm_rd (Z := Z50) (ν := ν) (k := 68) (show ((0 : Nat) : Int) = 0 from rfl) (show ((0 : Nat) : Int) = 0 from rfl) (show ((0 : Nat) : Int) = 0 from rfl)) (congrArg i3 ((hZ50A.1)))) (by omega) (by omega)) (decide_eq_false (by omega))) ?_
                                refine wz_i1 (Eq.trans (i3T (Eq.trans (zm_rd (Z := Z50) (ν := ν) (k := 68) (show ((0 : Nat) : Int) = 0 from rfl) (show ((0 : Nat) : Int) = 0 from rfl) (show ((0 : Nat) : Int) = 0 from rfl)) (congrArg i3 ((hZ50A.1)))) (by omega) (by omega)) (decide_eq_true (by omega))) ?_
                                refine wz_i1 rfl ?_
                                refine wz_i0 (i3O (n := 7) (show (1 : Int32) = i3 1 from rfl) (by omega) (by omega) (by omega)) ?_
                                refine wz_i1 rfl ?_
                                refine wz_i0 (i3O (n := 7) (show (2 : Int32) = i3 2 from rfl) (by omega) (by omega) (by omega)) ?_
                                refine wz_i1 rfl ?_
                                refine wz_i0 (i3O (n := 7) (show (3 : Int32) = i3 3 from rfl) (by omega) (by omega) (by omega)) ?_
                                refine wz_i1 rfl ?_
                                refine wz_i0 (i3O (n := 7) (show (4 : Int32) = i3 4 from rfl) (by omega) (by omega) (by omega)) ?_
                                refine wz_i0 (i3O (n := 2) (Eq.trans (zm_rd (Z := Z50) (ν := ν) (k := 68) (show ((0 : Nat) : Int) = 0 from rfl) (show ((0 : Nat) : Int) = 0 from rfl) (show ((1 : Nat) : Int) = 1 from rfl)) (congrArg i3 ((hZ50A.2.1)))) (by omega) (by omega) (by omega)) ?_
                                refine wz_i0 (i3O (n := 48) (Eq.trans (zm_rd (Z := Z50) (ν := ν) (k := 68) (show ((0 : Nat) : Int) = 0 from rfl) (show ((0 : Nat) : Int) = 0 from rfl) (show ((2 : Nat) : Int) = 2 from rfl)) (congrArg i3 ((hZ50A.2.2.1)))) (by omega) (by omega) (by omega)) ?_
                                obtain ⟨Z51, hZ51⟩ := zx (zu Z50 44 0 a2 10 1)
                                replace hP := zl_e hP hZ51
                                have hZ51I := zH_u hZ50I hZ51 (lo := 0) (hi := 4) (by decide) rfl (by omega) ⟨by decide, by decide⟩ (Or.inl (by decide)) rfl
                                have hZ51U : zU [0, 2, 3, 4, 5, 6, 7, 8, 9] Z Z51 := zU_u hZ50U hZ51 (Or.inr (List.Mem.head _))
                                have hZ51K : zC [3, 12, 13, 14, 40, 41, 42, 43, 44, 45, 46, 47, 48, 49, 50, 51, 52, 53, 54, 61, 68, 1099, 1100, 1101, 1102, 1103, 1104, 1105, 1106, 1107, 1108, 1109, 1110, 1111, 1112, 1113, 1114, 1115, 1116] Z Z51 := zC_u hZ50K hZ51 (by decide)
                                intro μ9 e9
                                replace e9 := e9.trans (zm_wI (Z := Z50) (ν := ν) hZ51 (show ((0 : Nat) : Int) = 0 from rfl) (i3I (y := a2) (Eq.trans (zm_rd (Z := Z50) (ν := ν) (k := 68) (show ((0 : Nat) : Int) = 0 from rfl) (show ((0 : Nat) : Int) = 0 from rfl) (show ((2 : Nat) : Int) = 2 from rfl)) (congrArg i3 ((hZ50A.2.2.1)))) (by omega) (by omega) (by omega)) (show ((10 : Nat) : Int) = 10 from rfl) (show (1 : Int32) = i3 1 from rfl))
                                subst e9
                                have r52 := zH_k hZ50I 48 0 a1 5 (lo := 0) (hi := 12) (by decide) rfl
                                have q53 := dZ50 (k := 48) (i := a1) (j := 5) (by decide) (fun q => absurd q.1 (by decide))
                                refine wz_i0 (i3O (n := 24) (i3A (i3M (Eq.trans (zm_rd (Z := Z50) (ν := ν) (k := 68) (show ((0 : Nat) : Int) = 0 from rfl) (show ((0 : Nat) : Int) = 0 from rfl) (show ((1 : Nat) : Int) = 1 from rfl)) (congrArg i3 ((hZ50A.2.1)))) (show (12 : Int32) = i3 12 from rfl)) (zm_rd (Z := Z50) (ν := ν) (k := 48) (show ((0 : Nat) : Int) = 0 from rfl) (i3I (y := a1) (Eq.trans (zm_rd (Z := Z50) (ν := ν) (k := 68) (show ((0 : Nat) : Int) = 0 from rfl) (show ((0 : Nat) : Int) = 0 from rfl) (show ((1 : Nat) : Int) = 1 from rfl)) (congrArg i3 ((hZ50A.2.1)))) (by omega) (by omega) (by omega)) (show ((5 : Nat) : Int) = 5 from rfl))) (by omega) (by omega) (by omega)) ?_
                                obtain ⟨Z54, hZ54⟩ := zx (zu Z51 49 0 (12 * a1 + (Z50 48 0 a1 5)) 0 a2)
                                replace hP := zl_e hP hZ54
                                have hZ54I := zH_u hZ51I hZ54 (lo := 0) (hi := 47) (by decide) rfl (by omega) ⟨by decide, by decide⟩ (Or.inl (by decide)) rfl
                                have hZ54U : zU [0, 2, 3, 4, 5, 6, 7, 8, 9] Z Z54 := zU_u hZ51U hZ54 (Or.inr (List.Mem.head _))
                                have hZ54K : zC [3, 12, 13, 14, 40, 41, 42, 43, 44, 45, 46, 47, 48, 49, 50, 51, 52, 53, 54, 61, 68, 1099, 1100, 1101, 1102, 1103, 1104, 1105, 1106, 1107, 1108, 1109, 1110, 1111, 1112, 1113, 1114, 1115, 1116] Z Z54 := zC_u hZ51K hZ54 (by decide)
                                intro μ9 e9
                                replace e9 := e9.trans (zm_wI (Z := Z51) (ν := ν) hZ54 (show ((0 : Nat) : Int) = 0 from rfl) (i3I (y := (12 * a1 + (Z50 48 0 a1 5))) (i3A (i3M (Eq.trans (zm_rd (Z := Z50) (ν := ν) (k := 68) (show ((0 : Nat) : Int) = 0 from rfl) (show ((0 : Nat) : Int) = 0 from rfl) (show ((1 : Nat) : Int) = 1 from rfl)) (congrArg i3 ((hZ50A.2.1)))) (show (12 : Int32) = i3 12 from rfl)) (zm_rd (Z := Z50) (ν := ν) (k := 48) (show ((0 : Nat) : Int) = 0 from rfl) (i3I (y := a1) (Eq.trans (zm_rd (Z := Z50) (ν := ν) (k := 68) (show ((0 : Nat) : Int) = 0 from rfl) (show ((0 : Nat) : Int) = 0 from rfl) (show ((1 : Nat) : Int) = 1 from rfl)) (congrArg i3 ((hZ50A.2.1)))) (by omega) (by omega) (by omega)) (show ((5 : Nat) : Int) = 5 from rfl))) (by omega) (by omega) (by omega)) (show ((0 : Nat) : Int) = 0 from rfl) (Eq.trans (zm_rd (Z := Z50) (ν := ν) (k := 68) (show ((0 : Nat) : Int) = 0 from rfl) (show ((0 : Nat) : Int) = 0 from rfl) (show ((2 : Nat) : Int) = 2 from rfl)) (congrArg i3 ((hZ50A.2.2.1)))))
                                subst e9
                                refine wz_i0 (i3O (n := 24) (i3A (i3M (Eq.trans (zm_rd (Z := Z50) (ν := ν) (k := 68) (show ((0 : Nat) : Int) = 0 from rfl) (show ((0 : Nat) : Int) = 0 from rfl) (show ((1 : Nat) : Int) = 1 from rfl)) (congrArg i3 ((hZ50A.2.1)))) (show (12 : Int32) = i3 12 from rfl)) (zm_rd (Z := Z50) (ν := ν) (k := 48) (show ((0 : Nat) : Int) = 0 from rfl) (i3I (y := a1) (Eq.trans (zm_rd (Z := Z50) (ν := ν) (k := 68) (show ((0 : Nat) : Int) = 0 from rfl) (show ((0 : Nat) : Int) = 0 from rfl) (show ((1 : Nat) : Int) = 1 from rfl)) (congrArg i3 ((hZ50A.2.1)))) (by omega) (by omega) (by omega)) (show ((5 : Nat) : Int) = 5 from rfl))) (by omega) (by omega) (by omega)) ?_
                                obtain ⟨Z55, hZ55⟩ := zx (zu Z54 49 0 (12 * a1 + (Z50 48 0 a1 5)) 1 a3)
                                replace hP := zl_e hP hZ55
                                have hZ55I := zH_u hZ54I hZ55 (lo := 0) (hi := 9999) (by decide) rfl (by omega) ⟨by decide, by decide⟩ (Or.inl (by decide)) rfl
                                have hZ55U : zU [0, 2, 3, 4, 5, 6, 7, 8, 9] Z Z55 := zU_u hZ54U hZ55 (Or.inr (List.Mem.head _))
                                have hZ55K : zC [3, 12, 13, 14, 40, 41, 42, 43, 44, 45, 46, 47, 48, 49, 50, 51, 52, 53, 54, 61, 68, 1099, 1100, 1101, 1102, 1103, 1104, 1105, 1106, 1107, 1108, 1109, 1110, 1111, 1112, 1113, 1114, 1115, 1116] Z Z55 := zC_u hZ54K hZ55 (by decide)
                                intro μ9 e9
                                replace e9 := e9.trans (zm_wI (Z := Z54) (ν := ν) hZ55 (show ((0 : Nat) : Int) = 0 from rfl) (i3I (y := (12 * a1 + (Z50 48 0 a1 5))) (i3A (i3M (Eq.trans (zm_rd (Z := Z50) (ν := ν) (k := 68) (show ((0 : Nat) : Int) = 0 from rfl) (show ((0 : Nat) : Int) = 0 from rfl) (show ((1 : Nat) : Int) = 1 from rfl)) (congrArg i3 ((hZ50A.2.1)))) (show (12 : Int32) = i3 12 from rfl)) (zm_rd (Z := Z50) (ν := ν) (k := 48) (show ((0 : Nat) : Int) = 0 from rfl) (i3I (y := a1) (Eq.trans (zm_rd (Z := Z50) (ν := ν) (k := 68) (show ((0 : Nat) : Int) = 0 from rfl) (show ((0 : Nat) : Int) = 0 from rfl) (show ((1 : Nat) : Int) = 1 from rfl)) (congrArg i3 ((hZ50A.2.1)))) (by omega) (by omega) (by omega)) (show ((5 : Nat) : Int) = 5 from rfl))) (by omega) (by omega) (by omega)) (show ((1 : Nat) : Int) = 1 from rfl) (Eq.trans (zm_rd (Z := Z50) (ν := ν) (k := 68) (show ((0 : Nat) : Int) = 0 from rfl) (show ((0 : Nat) : Int) = 0 from rfl) (show ((3 : Nat) : Int) = 3 from rfl)) (congrArg i3 ((hZ50A.2.2.2.1)))))
                                subst e9
                                refine wz_i0 (i3O (n := 24) (i3A (i3M (Eq.trans (zm_rd (Z := Z50) (ν := ν) (k := 68) (show ((0 : Nat) : Int) = 0 from rfl) (show ((0 : Nat) : Int) = 0 from rfl) (show ((1 : Nat) : Int) = 1 from rfl)) (congrArg i3 ((hZ50A.2.1)))) (show (12 : Int32) = i3 12 from rfl)) (zm_rd (Z := Z50) (ν := ν) (k := 48) (show ((0 : Nat) : Int) = 0 from rfl) (i3I (y := a1) (Eq.trans (zm_rd (Z := Z50) (ν := ν) (k := 68) (show ((0 : Nat) : Int) = 0 from rfl) (show ((0 : Nat) : Int) = 0 from rfl) (show ((1 : Nat) : Int) = 1 from rfl)) (congrArg i3 ((hZ50A.2.1)))) (by omega) (by omega) (by omega)) (show ((5 : Nat) : Int) = 5 from rfl))) (by omega) (by omega) (by omega)) ?_
                                obtain ⟨Z56, hZ56⟩ := zx (zu Z55 49 0 (12 * a1 + (Z50 48 0 a1 5)) 2 a4)
                                replace hP := zl_e hP hZ56
                                have hZ56I := zH_u hZ55I hZ56 (lo := 0) (hi := 9999) (by decide) rfl (by omega) ⟨by decide, by decide⟩ (Or.inl (by decide)) rfl
                                have hZ56U : zU [0, 2, 3, 4, 5, 6, 7, 8, 9] Z Z56 := zU_u hZ55U hZ56 (Or.inr (List.Mem.head _))
                                have hZ56K : zC [3, 12, 13, 14, 40, 41, 42, 43, 44, 45, 46, 47, 48, 49, 50, 51, 52, 53, 54, 61, 68, 1099, 1100, 1101, 1102, 1103, 1104, 1105, 1106, 1107, 1108, 1109, 1110, 1111, 1112, 1113, 1114, 1115, 1116] Z Z56 := zC_u hZ55K hZ56 (by decide)
                                intro μ9 e9
                                replace e9 := e9.trans (zm_wI (Z := Z55) (ν := ν) hZ56 (show ((0 : Nat) : Int) = 0 from rfl) (i3I (y := (12 * a1 + (Z50 48 0 a1 5))) (i3A (i3M (Eq.trans (zm_rd (Z := Z50) (ν := ν) (k := 68) (show ((0 : Nat) : Int) = 0 from rfl) (show ((0 : Nat) : Int) = 0 from rfl) (show ((1 : Nat) : Int) = 1 from rfl)) (congrArg i3 ((hZ50A.2.1)))) (show (12 : Int32) = i3 12 from rfl)) (zm_rd (Z := Z50) (ν := ν) (k := 48) (show ((0 : Nat) : Int) = 0 from rfl) (i3I (y := a1) (Eq.trans (zm_rd (Z := Z50) (ν := ν) (k := 68) (show ((0 : Nat) : Int) = 0 from rfl) (show ((0 : Nat) : Int) = 0 from rfl) (show ((1 : Nat) : Int) = 1 from rfl)) (congrArg i3 ((hZ50A.2.1)))) (by omega) (by omega) (by omega)) (show ((5 : Nat) : Int) = 5 from rfl))) (by omega) (by omega) (by omega)) (show ((2 : Nat) : Int) = 2 from rfl) (Eq.trans (zm_rd (Z := Z50) (ν := ν) (k := 68) (show ((0 : Nat) : Int) = 0 from rfl) (show ((0 : Nat) : Int) = 0 from rfl) (show ((4 : Nat) : Int) = 4 from rfl)) (congrArg i3 ((hZ50A.2.2.2.2.1)))))
                                subst e9
                                refine wz_i0 (i3O (n := 2) (Eq.trans (zm_rd (Z := Z50) (ν := ν) (k := 68) (show ((0 : Nat) : Int) = 0 from rfl) (show ((0 : Nat) : Int) = 0 from rfl) (show ((1 : Nat) : Int) = 1 from rfl)) (congrArg i3 ((hZ50A.2.1)))) (by omega) (by omega) (by omega)) ?_
                                have r57 := zH_k hZ56I 48 0 a1 5 (lo := 0) (hi := 12) (by decide) rfl
                                have q58 := (zu_ne (k' := 48) (b' := 0) (i' := a1) (j' := 5) hZ56 (fun q => absurd q.1 (by decide))).trans ((zu_ne (k' := 48) (b' := 0) (i' := a1) (j' := 5) hZ55 (fun q => absurd q.1 (by decide))).trans ((zu_ne (k' := 48) (b' := 0) (i' := a1) (j' := 5) hZ54 (fun q => absurd q.1 (by decide))).trans (zu_ne (k' := 48) (b' := 0) (i' := a1) (j' := 5) hZ51 (fun q => absurd q.1 (by decide)))))
                                obtain ⟨Z59, hZ59⟩ := zx (zu Z56 48 0 a1 5 ((Z56 48 0 a1 5) + 1))
                                replace hP := zl_e hP hZ59
                                have hZ59I := zH_u hZ56I hZ59 (lo := 0) (hi := 12) (by decide) rfl (by omega) ⟨by decide, by decide⟩ (Or.inl (by decide)) rfl
                                have hZ59U : zU [0, 2, 3, 4, 5, 6, 7, 8, 9] Z Z59 := zU_u hZ56U hZ59 (Or.inr (List.Mem.head _))
                                have hZ59K : zC [3, 12, 13, 14, 40, 41, 42, 43, 44, 45, 46, 47, 48, 49, 50, 51, 52, 53, 54, 61, 68, 1099, 1100, 1101, 1102, 1103, 1104, 1105, 1106, 1107, 1108, 1109, 1110, 1111, 1112, 1113, 1114, 1115, 1116] Z Z59 := zC_u hZ56K hZ59 (by decide)
                                intro μ9 e9
                                replace e9 := e9.trans (zm_wI (Z := Z56) (ν := ν) hZ59 (show ((0 : Nat) : Int) = 0 from rfl) (i3I (y := a1) (Eq.trans (zm_rd (Z := Z50) (ν := ν) (k := 68) (show ((0 : Nat) : Int) = 0 from rfl) (show ((0 : Nat) : Int) = 0 from rfl) (show ((1 : Nat) : Int) = 1 from rfl)) (congrArg i3 ((hZ50A.2.1)))) (by omega) (by omega) (by omega)) (show ((5 : Nat) : Int) = 5 from rfl) (i3A (zm_rd (Z := Z56) (ν := ν) (k := 48) (show ((0 : Nat) : Int) = 0 from rfl) (i3I (y := a1) (Eq.trans (zm_rd (Z := Z50) (ν := ν) (k := 68) (show ((0 : Nat) : Int) = 0 from rfl) (show ((0 : Nat) : Int) = 0 from rfl) (show ((1 : Nat) : Int) = 1 from rfl)) (congrArg i3 ((hZ50A.2.1)))) (by omega) (by omega) (by omega)) (show ((5 : Nat) : Int) = 5 from rfl)) (show (1 : Int32) = i3 1 from rfl)))
                                subst e9
                                exact zlG hP (zm_rd (Z := Z50) (ν := ν) (k := 48) (show ((0 : Nat) : Int) = 0 from rfl) (i3I (y := a1) (Eq.trans (zm_rd (Z := Z50) (ν := ν) (k := 68) (show ((0 : Nat) : Int) = 0 from rfl) (show ((0 : Nat) : Int) = 0 from rfl) (show ((1 : Nat) : Int) = 1 from rfl)) (congrArg i3 ((hZ50A.2.1)))) (by omega) (by omega) (by omega)) (show ((5 : Nat) : Int) = 5 from rfl)) ⟨hZ59I, hZ59K, hZ59U, zG_w zG_r (Nat.le_of_ble_eq_true rfl) (Nat.le_of_ble_eq_true rfl)⟩
                            · replace hP := zE_n hP h47
                              refine wz_i1 (Eq.trans (i3NE (show (3 : Int32) = i3 3 from rfl) (show (1 : Int32) = i3 1 from rfl) (by omega) (by omega) (by omega) (by omega)) (decide_eq_true (by omega))) ?_
                              refine wz_i1 (Eq.trans (i3NE (show (3 : Int32) = i3 3 from rfl) (show (2 : Int32) = i3 2 from rfl) (by omega) (by omega) (by omega) (by omega)) (decide_eq_true (by omega))) ?_
                              refine wz_i0 (Eq.trans (i3NE (show (3 : Int32) = i3 3 from rfl) (show (3 : Int32) = i3 3 from rfl) (by omega) (by omega) (by omega) (by omega)) (decide_eq_false (by omega))) ?_
                              exact zlGe (E := 14) hP ⟨hZ, zC_r, zU_r, zG_w (zG_k rfl) (Nat.le_of_ble_eq_true rfl) (Nat.le_of_ble_eq_true rfl)⟩
                  · replace hP := zE_n hP h12
                    refine wz_i1 (Eq.trans (i3NE (show (2 : Int32) = i3 2 from rfl) (show (1 : Int32) = i3 1 from rfl) (by omega) (by omega) (by omega) (by omega)) (decide_eq_true (by omega))) ?_
                    refine wz_i0 (Eq.trans (i3NE (show (2 : Int32) = i3 2 from rfl) (show (2 : Int32) = i3 2 from rfl) (by omega) (by omega) (by omega) (by omega)) (decide_eq_false (by omega))) ?_
                    exact zlGe (E := 12) hP ⟨hZ, zC_r, zU_r, zG_w (zG_k rfl) (Nat.le_of_ble_eq_true rfl) (Nat.le_of_ble_eq_true rfl)⟩
        · replace hP := zE_n hP h6
          refine wz_i0 (Eq.trans (i3NE (show (1 : Int32) = i3 1 from rfl) (show (1 : Int32) = i3 1 from rfl) (by omega) (by omega) (by omega) (by omega)) (decide_eq_false (by omega))) ?_
          exact zlGe (E := 23) hP ⟨hZ, zC_r, zU_r, zG_w (zG_k rfl) (Nat.le_of_ble_eq_true rfl) (Nat.le_of_ble_eq_true rfl)⟩
/- yX11_ripe -/
def zx_235 (Z : qz_Z) (a1 : Int) (a2 : Int) (a3 : Int) : qz_Z × Int × Int := (if 0 ≤ a1 ∧ a1 < (Z 11 0 0 3) then (if a2 = (-1) then (if (Z 11 0 0 13) ≤ a3 ∧ a3 ≤ 671 then (if (Z 44 0 a1 12) ≠ (-1) then (if 6 ≠ (Z 44 0 a1 12) then (zlet (zf_180 Z 0 a1 6 1 a3) (fun v9 => (Z, v9, 0))) else (zlet (zf_180 Z 0 a1 6 0 a3) (fun v10 => (Z, v10, 0)))) else (Z, (-1), 0)) else (Z, 0, 13)) else (if 0 ≤ a2 ∧ a2 < (Z 11 0 0 2) then (if (Z 11 0 0 13) ≤ a3 ∧ a3 ≤ 671 then (if (Z 44 0 a1 12) ≠ (-1) then (if a2 ≠ (Z 44 0 a1 12) then (zlet (zf_180 Z 0 a1 a2 1 a3) (fun v18 => (Z, v18, 0))) else (zlet (zf_180 Z 0 a1 a2 0 a3) (fun v19 => (Z, v19, 0)))) else (Z, (-1), 0)) else (Z, 0, 13)) else (Z, 0, 24))) else (Z, 0, 24))
theorem sx_235 {M : Nat} {Z : qz_Z} {ν : qz_N} (hZ : zH ((none, M) : zSM) Z) (hM : ((none, M) : zSM).2 + 0 ≤ 1000000000) {a1 : Int} (ga1 : -2147483648 ≤ a1 ∧ a1 ≤ 2147483647) {a2 : Int} (ga2 : -2147483648 ≤ a2 ∧ a2 ≤ 2147483647) {a3 : Int} (ga3 : -2147483648 ≤ a3 ∧ a3 ≤ 2147483647) : ∃ (Z1 : qz_Z) (ν1 : qz_N) (v E : Int), (Z1, v, E) = zx_235 Z a1 a2 a3 ∧ qf_235 [.inr (.inr (some (0, 0, 0))), .inl (i3 a1), .inl (i3 a2), .inl (i3 a3)] (zm Z ν) = some (zm Z1 ν1, zoX v E) ∧ (fun Z1 ν1 => zH ((none, M) : zSM) Z1 ∧ zC [] Z Z1 ∧ zU [] Z Z1 ∧ zG 1 6 ν ν1) Z1 ν1 := by
  obtain ⟨P, hP⟩ := zx (zx_235 Z a1 a2 a3)
  refine zc_G (Q := fun Z1 ν1 => zH ((none, M) : zSM) Z1 ∧ zC [] Z Z1 ∧ zU [] Z Z1 ∧ zG 1 6 ν ν1) hP (fw_235 (i3 a1) (i3 a2) (i3 a3) _ _ ?_)
  replace hP : zE P (zx_235 Z a1 a2 a3) := hP
  unfold zx_235 at hP
  have r1 := zH_k hZ 11 0 0 3 (lo := 0) (hi := 48) (by decide) rfl
  refine wz_thing (rfl : i3 a1 = i3 a1) (zm_rd (Z := Z) (ν := ν) (k := 11) (show ((0 : Nat) : Int) = 0 from rfl) (show ((0 : Nat) : Int) = 0 from rfl) (show ((3 : Nat) : Int) = 3 from rfl)) (by omega) (by omega) (by omega) (by omega) (fun h2 => ?_) (fun h2 => ?_)
  · replace hP := zE_p hP h2
    refine wz_br (i3E (rfl : i3 a2 = i3 a2) (show (-1 : Int32) = i3 (-1) from rfl) (by omega) (by omega) (by omega) (by omega)) (fun h3 => ?_) (fun h3 => ?_)
    · replace hP := zE_p hP h3
      have r4 := zH_k hZ 11 0 0 13 (lo := 0) (hi := 671) (by decide) rfl
      refine wz_inR (rfl : i3 a3 = i3 a3) (zm_rd (Z := Z) (ν := ν) (k := 11) (show ((0 : Nat) : Int) = 0 from rfl) (show ((0 : Nat) : Int) = 0 from rfl) (show ((13 : Nat) : Int) = 13 from rfl)) (show (671 : Int32) = i3 671 from rfl) (by omega) (by omega) (by omega) (by omega) (by omega) (by omega) (fun h5 => ?_) (fun h5 => ?_)
      · replace hP := zE_p hP h5
        refine wz_i0 (i3O (n := 48) (rfl : i3 a1 = i3 a1) (by omega) (by omega) (by omega)) ?_
        have r6 := zH_k hZ 44 0 a1 12 (lo := -1) (hi := 6) (by decide) rfl
        refine wz_br (i3NE (zm_rd (Z := Z) (ν := ν) (k := 44) (show ((0 : Nat) : Int) = 0 from rfl) (i3I (y := a1) (rfl : i3 a1 = i3 a1) (by omega) (by omega) (by omega)) (show ((12 : Nat) : Int) = 12 from rfl)) (show (-1 : Int32) = i3 (-1) from rfl) (by omega) (by omega) (by omega) (by omega)) (fun h7 => ?_) (fun h7 => ?_)
        · replace hP := zE_p hP h7
          refine wz_i0 (Eq.trans (i3NE (rfl : i3 a2 = i3 a2) (show (-1 : Int32) = i3 (-1) from rfl) (by omega) (by omega) (by omega) (by omega)) (decide_eq_false (by omega))) ?_
          refine wz_br (i3NE (show (6 : Int32) = i3 6 from rfl) (zm_rd (Z := Z) (ν := ν) (k := 44) (show ((0 : Nat) : Int) = 0 from rfl) (i3I (y := a1) (rfl : i3 a1 = i3 a1) (by omega) (by omega) (by omega)) (show ((12 : Nat) : Int) = 12 from rfl)) (by omega) (by omega) (by omega) (by omega)) (fun h8 => ?_) (fun h8 => ?_)
          · replace hP := zE_p hP h8
            obtain ⟨v9, hv9, c9, lv9, uv9⟩ := sp_180 (ν := ν) hZ 0 (a1 := a1) (by omega) (a2 := 6) (by omega) (a3 := 1) (by omega) (a4 := a3) (by omega) (zbh (c := 0) (k := 0) hM (Nat.le_of_ble_eq_true rfl))
            replace hP := zl_e hP hv9
            refine wz_cI_of (zas (zcons rfl (zcons (zvi (rfl : i3 a1 = i3 a1)) (zcons (zvi (show (6 : Int32) = i3 6 from rfl)) (zcons (zvi (show (1 : Int32) = i3 1 from rfl)) (zcons (zvi (rfl : i3 a3 = i3 a3)) rfl))))) c9) ?_
            clear c9
            exact zlG hP (rfl : i3 v9 = i3 v9) ⟨hZ, zC_r, zU_r, zG_w zG_r (Nat.le_of_ble_eq_true rfl) (Nat.le_of_ble_eq_true rfl)⟩
          · replace hP := zE_n hP h8
            obtain ⟨v10, hv10, c9, lv10, uv10⟩ := sp_180 (ν := ν) hZ 0 (a1 := a1) (by omega) (a2 := 6) (by omega) (a3 := 0) (by omega) (a4 := a3) (by omega) (zbh (c := 0) (k := 0) hM (Nat.le_of_ble_eq_true rfl))
            replace hP := zl_e hP hv10
            refine wz_cI_of (zas (zcons rfl (zcons (zvi (rfl : i3 a1 = i3 a1)) (zcons (zvi (show (6 : Int32) = i3 6 from rfl)) (zcons (zvi (show (0 : Int32) = i3 0 from rfl)) (zcons (zvi (rfl : i3 a3 = i3 a3)) rfl))))) c9) ?_
            clear c9
            exact zlG hP (rfl : i3 v10 = i3 v10) ⟨hZ, zC_r, zU_r, zG_w zG_r (Nat.le_of_ble_eq_true rfl) (Nat.le_of_ble_eq_true rfl)⟩
        · replace hP := zE_n hP h7
          exact zlG hP (show (-1 : Int32) = i3 (-1) from rfl) ⟨hZ, zC_r, zU_r, zG_w zG_r (Nat.le_of_ble_eq_true rfl) (Nat.le_of_ble_eq_true rfl)⟩
      · replace hP := zE_n hP h5
        exact zlGe (E := 12) hP ⟨hZ, zC_r, zU_r, zG_w (zG_k rfl) (Nat.le_of_ble_eq_true rfl) (Nat.le_of_ble_eq_true rfl)⟩
    · replace hP := zE_n hP h3
      have r11 := zH_k hZ 11 0 0 2 (lo := 0) (hi := 6) (by decide) rfl
      refine wz_thing (rfl : i3 a2 = i3 a2) (zm_rd (Z := Z) (ν := ν) (k := 11) (show ((0 : Nat) : Int) = 0 from rfl) (show ((0 : Nat) : Int) = 0 from rfl) (show ((2 : Nat) : Int) = 2 from rfl)) (by omega) (by omega) (by omega) (by omega) (fun h12 => ?_) (fun h12 => ?_)
      · replace hP := zE_p hP h12
        have r13 := zH_k hZ 11 0 0 13 (lo := 0) (hi := 671) (by decide) rfl
        refine wz_inR (rfl : i3 a3 = i3 a3) (zm_rd (Z := Z) (ν := ν) (k := 11) (show ((0 : Nat) : Int) = 0 from rfl) (show ((0 : Nat) : Int) = 0 from rfl) (show ((13 : Nat) : Int) = 13 from rfl)) (show (671 : Int32) = i3 671 from rfl) (by omega) (by omega) (by omega) (by omega) (by omega) (by omega) (fun h14 => ?_) (fun h14 => ?_)
        · replace hP := zE_p hP h14
          refine wz_i0 (i3O (n := 48) (rfl : i3 a1 = i3 a1) (by omega) (by omega) (by omega)) ?_
          have r15 := zH_k hZ 44 0 a1 12 (lo := -1) (hi := 6) (by decide) rfl
          refine wz_br (i3NE (zm_rd (Z := Z) (ν := ν) (k := 44) (show ((0 : Nat) : Int) = 0 from rfl) (i3I (y := a1) (rfl : i3 a1 = i3 a1) (by omega) (by omega) (by omega)) (show ((12 : Nat) : Int) = 12 from rfl)) (show (-1 : Int32) = i3 (-1) from rfl) (by omega) (by omega) (by omega) (by omega)) (fun h16 => ?_) (fun h16 => ?_)
          · replace hP := zE_p hP h16
            refine wz_i1 (Eq.trans (i3NE (rfl : i3 a2 = i3 a2) (show (-1 : Int32) = i3 (-1) from rfl) (by omega) (by omega) (by omega) (by omega)) (decide_eq_true (by omega))) ?_
            refine wz_br (i3NE (rfl : i3 a2 = i3 a2) (zm_rd (Z := Z) (ν := ν) (k := 44) (show ((0 : Nat) : Int) = 0 from rfl) (i3I (y := a1) (rfl : i3 a1 = i3 a1) (by omega) (by omega) (by omega)) (show ((12 : Nat) : Int) = 12 from rfl)) (by omega) (by omega) (by omega) (by omega)) (fun h17 => ?_) (fun h17 => ?_)
            · replace hP := zE_p hP h17
              obtain ⟨v18, hv18, c9, lv18, uv18⟩ := sp_180 (ν := ν) hZ 0 (a1 := a1) (by omega) (a2 := a2) (by omega) (a3 := 1) (by omega) (a4 := a3) (by omega) (zbh (c := 0) (k := 0) hM (Nat.le_of_ble_eq_true rfl))
              replace hP := zl_e hP hv18
              refine wz_cI_of (zas (zcons rfl (zcons (zvi (rfl : i3 a1 = i3 a1)) (zcons (zvi (rfl : i3 a2 = i3 a2)) (zcons (zvi (show (1 : Int32) = i3 1 from rfl)) (zcons (zvi (rfl : i3 a3 = i3 a3)) rfl))))) c9) ?_
              clear c9
              exact zlG hP (rfl : i3 v18 = i3 v18) ⟨hZ, zC_r, zU_r, zG_w zG_r (Nat.le_of_ble_eq_true rfl) (Nat.le_of_ble_eq_true rfl)⟩
            · replace hP := zE_n hP h17
              obtain ⟨v19, hv19, c9, lv19, uv19⟩ := sp_180 (ν := ν) hZ 0 (a1 := a1) (by omega) (a2 := a2) (by omega) (a3 := 0) (by omega) (a4 := a3) (by omega) (zbh (c := 0) (k := 0) hM (Nat.le_of_ble_eq_true rfl))
              replace hP := zl_e hP hv19
              refine wz_cI_of (zas (zcons rfl (zcons (zvi (rfl : i3 a1 = i3 a1)) (zcons (zvi (rfl : i3 a2 = i3 a2)) (zcons (zvi (show (0 : Int32) = i3 0 from rfl)) (zcons (zvi (rfl : i3 a3 = i3 a3)) rfl))))) c9) ?_
              clear c9
              exact zlG hP (rfl : i3 v19 = i3 v19) ⟨hZ, zC_r, zU_r, zG_w zG_r (Nat.le_of_ble_eq_true rfl) (Nat.le_of_ble_eq_true rfl)⟩
          · replace hP := zE_n hP h16
            exact zlG hP (show (-1 : Int32) = i3 (-1) from rfl) ⟨hZ, zC_r, zU_r, zG_w zG_r (Nat.le_of_ble_eq_true rfl) (Nat.le_of_ble_eq_true rfl)⟩
        · replace hP := zE_n hP h14
          exact zlGe (E := 12) hP ⟨hZ, zC_r, zU_r, zG_w (zG_k rfl) (Nat.le_of_ble_eq_true rfl) (Nat.le_of_ble_eq_true rfl)⟩
      · replace hP := zE_n hP h12
        exact zlGe (E := 23) hP ⟨hZ, zC_r, zU_r, zG_w (zG_k rfl) (Nat.le_of_ble_eq_true rfl) (Nat.le_of_ble_eq_true rfl)⟩
  · replace hP := zE_n hP h2
    exact zlGe (E := 23) hP ⟨hZ, zC_r, zU_r, zG_w (zG_k rfl) (Nat.le_of_ble_eq_true rfl) (Nat.le_of_ble_eq_true rfl)⟩
/- yX11_room -/
def zx_236 (Z : qz_Z) (a1 : Int) (a2 : Int) (a3 : Int) : qz_Z × Int × Int := (if 1 ≤ a1 ∧ a1 ≤ 12 then (if 0 ≤ a2 ∧ a2 ≤ 9 then (if 0 ≤ a3 ∧ a3 ≤ 9 then (if 6 ≤ (Z 11 0 0 2) then (Z, 0, 15) else (zlet (zdd Z 4 a1 a2 a3 0 0 0) (fun Z8 => (zlet (zu Z8 43 0 (Z8 11 0 0 2) 0 a1) (fun Z11 => (zlet (zu Z11 43 0 (Z8 11 0 0 2) 1 a2) (fun Z12 => (zlet (zu Z12 43 0 (Z8 11 0 0 2) 2 a3) (fun Z13 => (zlet (zu Z13 43 0 (Z8 11 0 0 2) 3 18) (fun Z14 => (zlet (zu Z14 43 0 (Z8 11 0 0 2) 5 (Z14 12 0 0 ((Z14 11 0 0 13) / 24))) (fun Z17 => (zlet (zu Z17 43 0 (Z8 11 0 0 2) 10 (-1)) (fun Z18 => (zlet (zu Z18 11 0 0 2 ((Z18 11 0 0 2) + 1)) (fun Z21 => (Z21, (Z18 11 0 0 2), 0)))))))))))))))))) else (Z, 0, 13)) else (Z, 0, 13)) else (Z, 0, 13))
theorem sx_236 {M : Nat} {Z : qz_Z} {ν : qz_N} (hZ : zH ((none, M) : zSM) Z) (hM : ((none, M) : zSM).2 + 0 ≤ 1000000000) {a1 : Int} (ga1 : -2147483648 ≤ a1 ∧ a1 ≤ 2147483647) {a2 : Int} (ga2 : -2147483648 ≤ a2 ∧ a2 ≤ 2147483647) {a3 : Int} (ga3 : -2147483648 ≤ a3 ∧ a3 ≤ 2147483647) : ∃ (Z1 : qz_Z) (ν1 : qz_N) (v E : Int), (Z1, v, E) = zx_236 Z a1 a2 a3 ∧ qf_236 [.inr (.inr (some (0, 0, 0))), .inl (i3 a1), .inl (i3 a2), .inl (i3 a3)] (zm Z ν) = some (zm Z1 ν1, zoX v E) ∧ (fun Z1 ν1 => zH ((none, M) : zSM) Z1 ∧ zC [3, 12, 13, 14, 40, 41, 42, 43, 44, 45, 46, 47, 48, 49, 50, 51, 52, 53, 54, 61, 68, 1099, 1100, 1101, 1102, 1103, 1104, 1105, 1106, 1107, 1108, 1109, 1110, 1111, 1112, 1113, 1114, 1115, 1116] Z Z1 ∧ zU [0, 2, 3, 4, 5, 6, 7, 8, 9] Z Z1 ∧ zG 1 6 ν ν1) Z1 ν1 := by
  obtain ⟨P, hP⟩ := zx (zx_236 Z a1 a2 a3)
  refine zc_G (Q := fun Z1 ν1 => zH ((none, M) : zSM) Z1 ∧ zC [3, 12, 13, 14, 40, 41, 42, 43, 44, 45, 46, 47, 48, 49, 50, 51, 52, 53, 54, 61, 68, 1099, 1100, 1101, 1102, 1103, 1104, 1105, 1106, 1107, 1108, 1109, 1110, 1111, 1112, 1113, 1114, 1115, 1116] Z Z1 ∧ zU [0, 2, 3, 4, 5, 6, 7, 8, 9] Z Z1 ∧ zG 1 6 ν ν1) hP (fw_236 (i3 a1) (i3 a2) (i3 a3) _ _ ?_)
  replace hP : zE P (zx_236 Z a1 a2 a3) := hP
  unfold zx_236 at hP
  refine wz_inR (rfl : i3 a1 = i3 a1) (show (1 : Int32) = i3 1 from rfl) (show (12 : Int32) = i3 12 from rfl) (by omega) (by omega) (by omega) (by omega) (by omega) (by omega) (fun h1 => ?_) (fun h1 => ?_)
  · replace hP := zE_p hP h1
    refine wz_inR (rfl : i3 a2 = i3 a2) (show (0 : Int32) = i3 0 from rfl) (show (9 : Int32) = i3 9 from rfl) (by omega) (by omega) (by omega) (by omega) (by omega) (by omega) (fun h2 => ?_) (fun h2 => ?_)
    · replace hP := zE_p hP h2
      refine wz_inR (rfl : i3 a3 = i3 a3) (show (0 : Int32) = i3 0 from rfl) (show (9 : Int32) = i3 9 from rfl) (by omega) (by omega) (by omega) (by omega) (by omega) (by omega) (fun h3 => ?_) (fun h3 => ?_)
      · replace hP := zE_p hP h3
        have r4 := zH_k hZ 11 0 0 2 (lo := 0) (hi := 6) (by decide) rfl
        refine wz_br (i3Le (show (6 : Int32) = i3 6 from rfl) (zm_rd (Z := Z) (ν := ν) (k := 11) (show ((0 : Nat) : Int) = 0 from rfl) (show ((0 : Nat) : Int) = 0 from rfl) (show ((2 : Nat) : Int) = 2 from rfl)) (by omega) (by omega) (by omega) (by omega)) (fun h5 => ?_) (fun h5 => ?_)
        · replace hP := zE_p hP h5
          refine wz_inT_n (show (0 : Int32) = i3 0 from rfl) (by omega) (by omega) (by omega) ?_
          exact zlGe (E := 14) hP ⟨hZ, zC_r, zU_r, zG_w (zG_k rfl) (Nat.le_of_ble_eq_true rfl) (Nat.le_of_ble_eq_true rfl)⟩
        · replace hP := zE_n hP h5
          refine wz_inT_y (show (1 : Int32) = i3 1 from rfl) (by omega) (by omega) (by omega) ?_
          refine dc_J (zcons rfl (zcons (zvi (show (4 : Int32) = i3 4 from rfl)) (zcons (zvi (rfl : i3 a1 = i3 a1)) (zcons (zvi (rfl : i3 a2 = i3 a2)) (zcons (zvi (rfl : i3 a3 = i3 a3)) (zcons (zvi (show (0 : Int32) = i3 0 from rfl)) (zcons (zvi (show (0 : Int32) = i3 0 from rfl)) (zcons (zvi (show (0 : Int32) = i3 0 from rfl)) rfl)))))))) (dg (hZ).1 (by omega) (by omega) (by omega) (by omega) (by omega) (by omega) (by omega) ?_)
          have hZ8I := zH_dd hZ (a1 := 4) (a2 := a1) (a3 := a2) (a4 := a3) (a5 := 0) (a6 := 0) (a7 := 0) (by omega) (by omega) (by omega) (by omega) (by omega) (by omega) (by omega)
          have kZ8 : zC [3, 12, 13, 14, 40, 41, 42, 43, 44, 45, 46, 47, 48, 49, 50, 51, 52, 53, 54, 61, 68, 1099, 1100, 1101, 1102, 1103, 1104, 1105, 1106, 1107, 1108, 1109, 1110, 1111, 1112, 1113, 1114, 1115, 1116] Z (zdd Z 4 a1 a2 a3 0 0 0) := zC_k zdd_K (by decide) (by decide)
          have hZ8A : (zdd Z 4 a1 a2 a3 0 0 0) 68 0 0 0 = 4 ∧ (zdd Z 4 a1 a2 a3 0 0 0) 68 0 0 1 = a1 ∧ (zdd Z 4 a1 a2 a3 0 0 0) 68 0 0 2 = a2 ∧ (zdd Z 4 a1 a2 a3 0 0 0) 68 0 0 3 = a3 ∧ (zdd Z 4 a1 a2 a3 0 0 0) 68 0 0 4 = 0 ∧ (zdd Z 4 a1 a2 a3 0 0 0) 68 0 0 5 = 0 ∧ (zdd Z 4 a1 a2 a3 0 0 0) 68 0 0 6 = 0 := ⟨zdd_68, zdd_68, zdd_68, zdd_68, zdd_68, zdd_68, zdd_68⟩
          obtain ⟨Z8, hZ8⟩ := zx (zdd Z 4 a1 a2 a3 0 0 0)
          have dZ8 : ∀ {k : Nat} {i j : Int}, zhall k = true → ¬ (k = 11 ∧ (j = 15 ∨ j = 16)) → Z8 k 0 i j = Z k 0 i j := fun hk hj => by rw [hZ8]; exact zdd_h (hZ).1 hk hj
          have jZ8 : zU [0, 2, 3, 4, 5, 6, 7, 8, 9] Z (zdd Z 4 a1 a2 a3 0 0 0) := zU_dd (hZ).1
          rw [← hZ8] at hZ8I kZ8 jZ8 hZ8A ⊢
          have hZ8U : zU [0, 2, 3, 4, 5, 6, 7, 8, 9] Z Z8 := zU_t zU_r jZ8 (zU_b1 (List.Mem.head _) (zU_b1 (List.Mem.tail _ (List.Mem.head _)) (zU_b1 (List.Mem.tail _ (List.Mem.tail _ (List.Mem.head _))) (zU_b1 (List.Mem.tail _ (List.Mem.tail _ (List.Mem.tail _ (List.Mem.head _)))) (zU_b1 (List.Mem.tail _ (List.Mem.tail _ (List.Mem.tail _ (List.Mem.tail _ (List.Mem.head _))))) (zU_b1 (List.Mem.tail _ (List.Mem.tail _ (List.Mem.tail _ (List.Mem.tail _ (List.Mem.tail _ (List.Mem.head _)))))) (zU_b1 (List.Mem.tail _ (List.Mem.tail _ (List.Mem.tail _ (List.Mem.tail _ (List.Mem.tail _ (List.Mem.tail _ (List.Mem.head _))))))) (zU_b1 (List.Mem.tail _ (List.Mem.tail _ (List.Mem.tail _ (List.Mem.tail _ (List.Mem.tail _ (List.Mem.tail _ (List.Mem.tail _ (List.Mem.head _)))))))) (zU_b1 (List.Mem.tail _ (List.Mem.tail _ (List.Mem.tail _ (List.Mem.tail _ (List.Mem.tail _ (List.Mem.tail _ (List.Mem.tail _ (List.Mem.tail _ (List.Mem.head _))))))))) zU_b0)))))))))
          replace hP := zl_e hP hZ8
          have hZ8K : zC [3, 12, 13, 14, 40, 41, 42, 43, 44, 45, 46, 47, 48, 49, 50, 51, 52, 53, 54, 61, 68, 1099, 1100, 1101, 1102, 1103, 1104, 1105, 1106, 1107, 1108, 1109, 1110, 1111, 1112, 1113, 1114, 1115, 1116] Z Z8 := zC_t zC_r kZ8 (by decide)
          clear kZ8 hZ8
          refine fw_121 _ _ _ _ ?_
          refine wz_i1 rfl ?_
          refine wz_i0 (i3O (n := 7) (show (0 : Int32) = i3 0 from rfl) (by omega) (by omega) (by omega)) ?_
          refine wz_i0 (Eq.trans (i3To (Eq.trans (zm_rd (Z := Z8) (ν := ν) (k := 68) (show ((0 : Nat) : Int) = 0 from rfl) (show ((0 : Nat) : Int) = 0 from rfl) (show ((0 : Nat) : Int) = 0 from rfl)) (congrArg i3 ((hZ8A.1)))) (by omega) (by omega)) (decide_eq_false (by omega))) ?_
          refine wz_i0 (Eq.trans (i3T (Eq.trans (zm_rd (Z := Z8) (ν := ν) (k := 68) (show ((0 : Nat) : Int) = 0 from rfl) (show ((0 : Nat) : Int) = 0 from rfl) (show ((0 : Nat) : Int) = 0 from rfl)) (congrArg i3 ((hZ8A.1)))) (by omega) (by omega)) (decide_eq_false (by omega))) ?_
          refine wz_i0 (Eq.trans (i3T (Eq.trans (zm_rd (Z := Z8) (ν := ν) (k := 68) (show ((0 : Nat) : Int) = 0 from rfl) (show ((0 : Nat) : Int) = 0 from rfl) (show ((0 : Nat) : Int) = 0 from rfl)) (congrArg i3 ((hZ8A.1)))) (by omega) (by omega)) (decide_eq_false (by omega))) ?_
          refine wz_i0 (Eq.trans (i3T (Eq.trans (zm_rd (Z := Z8) (ν := ν) (k := 68) (show ((0 : Nat) : Int) = 0 from rfl) (show ((0 : Nat) : Int) = 0 from rfl) (show ((0 : Nat) : Int) = 0 from rfl)) (congrArg i3 ((hZ8A.1)))) (by omega) (by omega)) (decide_eq_false (by omega))) ?_
          refine wz_i0 (Eq.trans (i3T (Eq.trans (zm_rd (Z := Z8) (ν := ν) (k := 68) (show ((0 : Nat) : Int) = 0 from rfl) (show ((0 : Nat) : Int) = 0 from rfl) (show ((0 : Nat) : Int) = 0 from rfl)) (congrArg i3 ((hZ8A.1)))) (by omega) (by omega)) (decide_eq_false (by omega))) ?_
          refine wz_i1 (Eq.trans (i3T (Eq.trans (zm_rd (Z := Z8) (ν := ν) (k := 68) (show ((0 : Nat) : Int) = 0 from rfl) (show ((0 : Nat) : Int) = 0 from rfl) (show ((0 : Nat) : Int) = 0 from rfl)) (congrArg i3 ((hZ8A.1)))) (by omega) (by omega)) (decide_eq_true (by omega))) ?_
          refine wz_i1 rfl ?_
          refine wz_i0 (i3O (n := 7) (show (1 : Int32) = i3 1 from rfl) (by omega) (by omega) (by omega)) ?_
          refine wz_i1 rfl ?_
          refine wz_i0 (i3O (n := 7) (show (2 : Int32) = i3 2 from rfl) (by omega) (by omega) (by omega)) ?_
          refine wz_i1 rfl ?_
          refine wz_i0 (i3O (n := 7) (show (3 : Int32) = i3 3 from rfl) (by omega) (by omega) (by omega)) ?_
          have r9 := zH_k hZ8I 11 0 0 2 (lo := 0) (hi := 6) (by decide) rfl
          have q10 := dZ8 (k := 11) (i := 0) (j := 2) (by decide) (by omega)
          refine wz_i0 (i3O (n := 6) (zm_rd (Z := Z8) (ν := ν) (k := 11) (show ((0 : Nat) : Int) = 0 from rfl) (show ((0 : Nat) : Int) = 0 from rfl) (show ((2 : Nat) : Int) = 2 from rfl)) (by omega) (by omega) (by omega)) ?_
          obtain ⟨Z11, hZ11⟩ := zx (zu Z8 43 0 (Z8 11 0 0 2) 0 a1)
          replace hP := zl_e hP hZ11
          have hZ11I := zH_u hZ8I hZ11 (lo := 0) (hi := 12) (by decide) rfl (by omega) ⟨by decide, by decide⟩ (Or.inl (by decide)) rfl
          have hZ11U : zU [0, 2, 3, 4, 5, 6, 7, 8, 9] Z Z11 := zU_u hZ8U hZ11 (Or.inr (List.Mem.head _))
          have hZ11K : zC [3, 12, 13, 14, 40, 41, 42, 43, 44, 45, 46, 47, 48, 49, 50, 51, 52, 53, 54, 61, 68, 1099, 1100, 1101, 1102, 1103, 1104, 1105, 1106, 1107, 1108, 1109, 1110, 1111, 1112, 1113, 1114, 1115, 1116] Z Z11 := zC_u hZ8K hZ11 (by decide)
          intro μ9 e9
          replace e9 := e9.trans (zm_wI (Z := Z8) (ν := ν) hZ11 (show ((0 : Nat) : Int) = 0 from rfl) (i3I (y := (Z8 11 0 0 2)) (zm_rd (Z := Z8) (ν := ν) (k := 11) (show ((0 : Nat) : Int) = 0 from rfl) (show ((0 : Nat) : Int) = 0 from rfl) (show ((2 : Nat) : Int) = 2 from rfl)) (by omega) (by omega) (by omega)) (show ((0 : Nat) : Int) = 0 from rfl) (Eq.trans (zm_rd (Z := Z8) (ν := ν) (k := 68) (show ((0 : Nat) : Int) = 0 from rfl) (show ((0 : Nat) : Int) = 0 from rfl) (show ((1 : Nat) : Int) = 1 from rfl)) (congrArg i3 ((hZ8A.2.1)))))
          subst e9
          obtain ⟨Z12, hZ12⟩ := zx (zu Z11 43 0 (Z8 11 0 0 2) 1 a2)
          replace hP := zl_e hP hZ12
          have hZ12I := zH_u hZ11I hZ12 (lo := 0) (hi := 9) (by decide) rfl (by omega) ⟨by decide, by decide⟩ (Or.inl (by decide)) rfl
          have hZ12U : zU [0, 2, 3, 4, 5, 6, 7, 8, 9] Z Z12 := zU_u hZ11U hZ12 (Or.inr (List.Mem.head _))
          have hZ12K : zC [3, 12, 13, 14, 40, 41, 42, 43, 44, 45, 46, 47, 48, 49, 50, 51, 52, 53, 54, 61, 68, 1099, 1100, 1101, 1102, 1103, 1104, 1105, 1106, 1107, 1108, 1109, 1110, 1111, 1112, 1113, 1114, 1115, 1116] Z Z12 := zC_u hZ11K hZ12 (by decide)
          intro μ9 e9
          replace e9 := e9.trans (zm_wI (Z := Z11) (ν := ν) hZ12 (show ((0 : Nat) : Int) = 0 from rfl) (i3I (y := (Z8 11 0 0 2)) (zm_rd (Z := Z8) (ν := ν) (k := 11) (show ((0 : Nat) : Int) = 0 from rfl) (show ((0 : Nat) : Int) = 0 from rfl) (show ((2 : Nat) : Int) = 2 from rfl)) (by omega) (by omega) (by omega)) (show ((1 : Nat) : Int) = 1 from rfl) (Eq.trans (zm_rd (Z := Z8) (ν := ν) (k := 68) (show ((0 : Nat) : Int) = 0 from rfl) (show ((0 : Nat) : Int) = 0 from rfl) (show ((2 : Nat) : Int) = 2 from rfl)) (congrArg i3 ((hZ8A.2.2.1)))))
          subst e9
          obtain ⟨Z13, hZ13⟩ := zx (zu Z12 43 0 (Z8 11 0 0 2) 2 a3)
          replace hP := zl_e hP hZ13
          have hZ13I := zH_u hZ12I hZ13 (lo := 0) (hi := 9) (by decide) rfl (by omega) ⟨by decide, by decide⟩ (Or.inl (by decide)) rfl
          have hZ13U : zU [0, 2, 3, 4, 5, 6, 7, 8, 9] Z Z13 := zU_u hZ12U hZ13 (Or.inr (List.Mem.head _))
          have hZ13K : zC [3, 12, 13, 14, 40, 41, 42, 43, 44, 45, 46, 47, 48, 49, 50, 51, 52, 53, 54, 61, 68, 1099, 1100, 1101, 1102, 1103, 1104, 1105, 1106, 1107, 1108, 1109, 1110, 1111, 1112, 1113, 1114, 1115, 1116] Z Z13 := zC_u hZ12K hZ13 (by decide)
          intro μ9 e9
          replace e9 := e9.trans (zm_wI (Z := Z12) (ν := ν) hZ13 (show ((0 : Nat) : Int) = 0 from rfl) (i3I (y := (Z8 11 0 0 2)) (zm_rd (Z := Z8) (ν := ν) (k := 11) (show ((0 : Nat) : Int) = 0 from rfl) (show ((0 : Nat) : Int) = 0 from rfl) (show ((2 : Nat) : Int) = 2 from rfl)) (by omega) (by omega) (by omega)) (show ((2 : Nat) : Int) = 2 from rfl) (Eq.trans (zm_rd (Z := Z8) (ν := ν) (k := 68) (show ((0 : Nat) : Int) = 0 from rfl) (show ((0 : Nat) : Int) = 0 from rfl) (show ((3 : Nat) : Int) = 3 from rfl)) (congrArg i3 ((hZ8A.2.2.2.1)))))
          subst e9
          obtain ⟨Z14, hZ14⟩ := zx (zu Z13 43 0 (Z8 11 0 0 2) 3 18)
          replace hP := zl_e hP hZ14
          have hZ14I := zH_u hZ13I hZ14 (lo := 0) (hi := 40) (by decide) rfl (by omega) ⟨by decide, by decide⟩ (Or.inl (by decide)) rfl
          have hZ14U : zU [0, 2, 3, 4, 5, 6, 7, 8, 9] Z Z14 := zU_u hZ13U hZ14 (Or.inr (List.Mem.head _))
          have hZ14K : zC [3, 12, 13, 14, 40, 41, 42, 43, 44, 45, 46, 47, 48, 49, 50, 51, 52, 53, 54, 61, 68, 1099, 1100, 1101, 1102, 1103, 1104, 1105, 1106, 1107, 1108, 1109, 1110, 1111, 1112, 1113, 1114, 1115, 1116] Z Z14 := zC_u hZ13K hZ14 (by decide)
          intro μ9 e9
          replace e9 := e9.trans (zm_wI (Z := Z13) (ν := ν) hZ14 (show ((0 : Nat) : Int) = 0 from rfl) (i3I (y := (Z8 11 0 0 2)) (zm_rd (Z := Z8) (ν := ν) (k := 11) (show ((0 : Nat) : Int) = 0 from rfl) (show ((0 : Nat) : Int) = 0 from rfl) (show ((2 : Nat) : Int) = 2 from rfl)) (by omega) (by omega) (by omega)) (show ((3 : Nat) : Int) = 3 from rfl) (show (18 : Int32) = i3 18 from rfl))
          subst e9
          have r15 := zH_k hZ14I 11 0 0 13 (lo := 0) (hi := 671) (by decide) rfl
          refine wz_i0 (i3O (n := 28) (i3D (zm_rd (Z := Z14) (ν := ν) (k := 11) (show ((0 : Nat) : Int) = 0 from rfl) (show ((0 : Nat) : Int) = 0 from rfl) (show ((13 : Nat) : Int) = 13 from rfl)) (show (24 : Int32) = i3 24 from rfl) (by omega) (by omega) (by omega) (by omega)) (by omega) (by omega) (by omega)) ?_
          have r16 := zH_k hZ14I 12 0 0 ((Z14 11 0 0 13) / 24) (lo := 0) (hi := 40) (by decide) (zrc_12 (by omega) (by omega))
          obtain ⟨Z17, hZ17⟩ := zx (zu Z14 43 0 (Z8 11 0 0 2) 5 (Z14 12 0 0 ((Z14 11 0 0 13) / 24)))
          replace hP := zl_e hP hZ17
          have hZ17I := zH_u hZ14I hZ17 (lo := 0) (hi := 40) (by decide) rfl (by omega) ⟨by decide, by decide⟩ (Or.inl (by decide)) rfl
          have hZ17U : zU [0, 2, 3, 4, 5, 6, 7, 8, 9] Z Z17 := zU_u hZ14U hZ17 (Or.inr (List.Mem.head _))
          have hZ17K : zC [3, 12, 13, 14, 40, 41, 42, 43, 44, 45, 46, 47, 48, 49, 50, 51, 52, 53, 54, 61, 68, 1099, 1100, 1101, 1102, 1103, 1104, 1105, 1106, 1107, 1108, 1109, 1110, 1111, 1112, 1113, 1114, 1115, 1116] Z Z17 := zC_u hZ14K hZ17 (by decide)
          intro μ9 e9
          replace e9 := e9.trans (zm_wI (Z := Z14) (ν := ν) hZ17 (show ((0 : Nat) : Int) = 0 from rfl) (i3I (y := (Z8 11 0 0 2)) (zm_rd (Z := Z8) (ν := ν) (k := 11) (show ((0 : Nat) : Int) = 0 from rfl) (show ((0 : Nat) : Int) = 0 from rfl) (show ((2 : Nat) : Int) = 2 from rfl)) (by omega) (by omega) (by omega)) (show ((5 : Nat) : Int) = 5 from rfl) (zm_rd (Z := Z14) (ν := ν) (k := 12) (show ((0 : Nat) : Int) = 0 from rfl) (show ((0 : Nat) : Int) = 0 from rfl) (i3I (y := ((Z14 11 0 0 13) / 24)) (i3D (zm_rd (Z := Z14) (ν := ν) (k := 11) (show ((0 : Nat) : Int) = 0 from rfl) (show ((0 : Nat) : Int) = 0 from rfl) (show ((13 : Nat) : Int) = 13 from rfl)) (show (24 : Int32) = i3 24 from rfl) (by omega) (by omega) (by omega) (by omega)) (by omega) (by omega) (by omega))))
          subst e9
          obtain ⟨Z18, hZ18⟩ := zx (zu Z17 43 0 (Z8 11 0 0 2) 10 (-1))
          replace hP := zl_e hP hZ18
          have hZ18I := zH_u hZ17I hZ18 (lo := -1) (hi := 695) (by decide) rfl (by omega) ⟨by decide, by decide⟩ (Or.inl (by decide)) rfl
          have hZ18U : zU [0, 2, 3, 4, 5, 6, 7, 8, 9] Z Z18 := zU_u hZ17U hZ18 (Or.inr (List.Mem.head _))
          have hZ18K : zC [3, 12, 13, 14, 40, 41, 42, 43, 44, 45, 46, 47, 48, 49, 50, 51, 52, 53, 54, 61, 68, 1099, 1100, 1101, 1102, 1103, 1104, 1105, 1106, 1107, 1108, 1109, 1110, 1111, 1112, 1113, 1114, 1115, 1116] Z Z18 := zC_u hZ17K hZ18 (by decide)
          intro μ9 e9
          replace e9 := e9.trans (zm_wI (Z := Z17) (ν := ν) hZ18 (show ((0 : Nat) : Int) = 0 from rfl) (i3I (y := (Z8 11 0 0 2)) (zm_rd (Z := Z8) (ν := ν) (k := 11) (show ((0 : Nat) : Int) = 0 from rfl) (show ((0 : Nat) : Int) = 0 from rfl) (show ((2 : Nat) : Int) = 2 from rfl)) (by omega) (by omega) (by omega)) (show ((10 : Nat) : Int) = 10 from rfl) (show (-1 : Int32) = i3 (-1) from rfl))
          subst e9
          have r19 := zH_k hZ18I 11 0 0 2 (lo := 0) (hi := 6) (by decide) rfl
          have q20 := (zu_ne (k' := 11) (b' := 0) (i' := 0) (j' := 2) hZ18 (fun q => absurd q.1 (by decide))).trans ((zu_ne (k' := 11) (b' := 0) (i' := 0) (j' := 2) hZ17 (fun q => absurd q.1 (by decide))).trans ((zu_ne (k' := 11) (b' := 0) (i' := 0) (j' := 2) hZ14 (fun q => absurd q.1 (by decide))).trans ((zu_ne (k' := 11) (b' := 0) (i' := 0) (j' := 2) hZ13 (fun q => absurd q.1 (by decide))).trans ((zu_ne (k' := 11) (b' := 0) (i' := 0) (j' := 2) hZ12 (fun q => absurd q.1 (by decide))).trans (zu_ne (k' := 11) (b' := 0) (i' := 0) (j' := 2) hZ11 (fun q => absurd q.1 (by decide)))))))
          obtain ⟨Z21, hZ21⟩ := zx (zu Z18 11 0 0 2 ((Z18 11 0 0 2) + 1))
          replace hP := zl_e hP hZ21
          have hZ21I := zH_u hZ18I hZ21 (lo := 0) (hi := 6) (by decide) rfl (by omega) ⟨by decide, by decide⟩ (Or.inl (by decide)) rfl
          have hZ21U : zU [0, 2, 3, 4, 5, 6, 7, 8, 9] Z Z21 := zU_u hZ18U hZ21 (Or.inr (List.Mem.head _))
          have hZ21K : zC [3, 12, 13, 14, 40, 41, 42, 43, 44, 45, 46, 47, 48, 49, 50, 51, 52, 53, 54, 61, 68, 1099, 1100, 1101, 1102, 1103, 1104, 1105, 1106, 1107, 1108, 1109, 1110, 1111, 1112, 1113, 1114, 1115, 1116] Z Z21 := zC_u hZ18K hZ21 (by decide)
          intro μ9 e9
          replace e9 := e9.trans (zm_wI (Z := Z18) (ν := ν) hZ21 (show ((0 : Nat) : Int) = 0 from rfl) (show ((0 : Nat) : Int) = 0 from rfl) (show ((2 : Nat) : Int) = 2 from rfl) (i3A (zm_rd (Z := Z18) (ν := ν) (k := 11) (show ((0 : Nat) : Int) = 0 from rfl) (show ((0 : Nat) : Int) = 0 from rfl) (show ((2 : Nat) : Int) = 2 from rfl)) (show (1 : Int32) = i3 1 from rfl)))
          subst e9
          exact zlG hP (zm_rd (Z := Z18) (ν := ν) (k := 11) (show ((0 : Nat) : Int) = 0 from rfl) (show ((0 : Nat) : Int) = 0 from rfl) (show ((2 : Nat) : Int) = 2 from rfl)) ⟨hZ21I, hZ21K, hZ21U, zG_w zG_r (Nat.le_of_ble_eq_true rfl) (Nat.le_of_ble_eq_true rfl)⟩
      · replace hP := zE_n hP h3
        exact zlGe (E := 12) hP ⟨hZ, zC_r, zU_r, zG_w (zG_k rfl) (Nat.le_of_ble_eq_true rfl) (Nat.le_of_ble_eq_true rfl)⟩
    · replace hP := zE_n hP h2
      exact zlGe (E := 12) hP ⟨hZ, zC_r, zU_r, zG_w (zG_k rfl) (Nat.le_of_ble_eq_true rfl) (Nat.le_of_ble_eq_true rfl)⟩
  · replace hP := zE_n hP h1
    exact zlGe (E := 12) hP ⟨hZ, zC_r, zU_r, zG_w (zG_k rfl) (Nat.le_of_ble_eq_true rfl) (Nat.le_of_ble_eq_true rfl)⟩
/- yX7_isStop -/
def zf_134 (Z : qz_Z) (a0b : Int) (a1 : Int) : Int := (if a1 = 7 then 1 else (if a1 < 1 then 0 else (if (Z 11 a0b 0 2) < a1 then 0 else 1)))
theorem sp_134 {s : zSM} {Z : qz_Z} {ν : qz_N} (hZ : zH s Z) (a0b : Nat) {a1 : Int} (ga1 : 0 ≤ a1 ∧ a1 ≤ 9) (hM : s.2 + 0 ≤ 1000000000) : ∃ P : Int, P = zf_134 Z a0b a1 ∧ (qf_134 [.inr (.inr (some (10, a0b, 0))), .inl (i3 a1)] (zm Z ν) = some (zm Z ν, .inl (some (.inl (i3 P)))) ∧ 0 ≤ P ∧ P ≤ 1) := by
  obtain ⟨P, hP⟩ := zx (zf_134 Z a0b a1)
  refine zc_R (Q := fun P => 0 ≤ P ∧ P ≤ 1) hP (fw_134 a0b (i3 a1) _ _ ?_)
  replace hP : zE P (zf_134 Z a0b a1) := hP
  unfold zf_134 at hP
  refine wz_br (i3E (rfl : i3 a1 = i3 a1) (show (7 : Int32) = i3 7 from rfl) (by omega) (by omega) (by omega) (by omega)) (fun h1 => ?_) (fun h1 => ?_)
  · replace hP := zE_p hP h1
    exact zlR hP (show (1 : Int32) = i3 1 from rfl) ⟨by omega, by omega⟩
  · replace hP := zE_n hP h1
    refine wz_br (i3L (rfl : i3 a1 = i3 a1) (show (1 : Int32) = i3 1 from rfl) (by omega) (by omega) (by omega) (by omega)) (fun h2 => ?_) (fun h2 => ?_)
    · replace hP := zE_p hP h2
      exact zlR hP (show (0 : Int32) = i3 0 from rfl) ⟨by omega, by omega⟩
    · replace hP := zE_n hP h2
      have r3 := zH_k hZ 11 a0b 0 2 (lo := 0) (hi := 6) (by decide) rfl
      refine wz_br (i3L (zm_rd (Z := Z) (ν := ν) (k := 11) (rfl : ((a0b : Nat) : Int) = a0b) (show ((0 : Nat) : Int) = 0 from rfl) (show ((2 : Nat) : Int) = 2 from rfl)) (rfl : i3 a1 = i3 a1) (by omega) (by omega) (by omega) (by omega)) (fun h4 => ?_) (fun h4 => ?_)
      · replace hP := zE_p hP h4
        exact zlR hP (show (0 : Int32) = i3 0 from rfl) ⟨by omega, by omega⟩
      · replace hP := zE_n hP h4
        exact zlR hP (show (1 : Int32) = i3 1 from rfl) ⟨by omega, by omega⟩
/- yX7_areStops -/
def zl_129_1 (x0b : Int) : Nat → qz_Z → Int → Int → Int × Int
  | 0, Z, x2, x3 => (x2, x3)
  | m + 1, Z, x2, x3 => (if x3 ≤ 0 then (x2, x3) else (if x2 = 0 then (x2, x3) else (zlet (zf_134 Z x0b (x3 % 10)) (fun v4 => zl_129_1 x0b m Z v4 (x3 / 10)))))
theorem sl_129_1 {s : zSM} {gg : Int} {Z : qz_Z} {ν : qz_N} (hZ : zH s Z) (hM : s.2 + 0 ≤ 1000000000) (x0b : Nat) {x2 : Int} (gx2 : 0 ≤ x2 ∧ x2 ≤ 1) {x3 : Int} (gx3 : -2147483648 ≤ x3 ∧ x3 ≤ 2147483647) (gr0 : x2 ≤ gg) {k : wz_K} {R : wz_R} {L : qz_L} (hL : qz_fg [true, false, true, true] L = [some (.inr (.inr (some (10, x0b, 0)))), none, some (.inl (i3 x2)), some (.inl (i3 x3))]) {T : Int × Int} (hP : zE T (zl_129_1 x0b (zlog x3 + 1) Z x2 x3)) (hk : ∀ (L9 : qz_L) (yx2 yx3 : Int), qz_fg [false, false, true, false] L9 = [none, none, some (.inl (i3 yx2)), none] → (0 ≤ yx2 ∧ yx2 ≤ 1) → (-2147483648 ≤ yx3 ∧ yx3 ≤ 2147483647) → (yx2 ≤ gg) → zE T ((yx2, yx3)) → k 0 (L9, [], zm Z ν)) : wz_loop qb_129_1 65536 k R (L, [], zm Z ν) := by
  have hpre0 := zlog_le x3
  refine wz_lp sb_129_1 (fun m x => ∃ x2 : Int, ∃ x3 : Int, qz_fg [true, false, true, true] x.1 = [some (.inr (.inr (some (10, x0b, 0)))), none, some (.inl (i3 x2)), some (.inl (i3 x3))] ∧ x.2 = ([], zm Z ν) ∧ m = zlog x3 ∧ (0 ≤ x2 ∧ x2 ≤ 1) ∧ (-2147483648 ≤ x3 ∧ x3 ≤ 2147483647) ∧ (x2 ≤ gg) ∧ zE T (zl_129_1 x0b (m + 1) Z x2 x3)) ?_ 65536 (zlog x3) _ (by omega) ⟨x2, x3, hL, rfl, rfl, gx2, gx3, gr0, hP⟩
  clear hpre0
  clear hP gr0 gx2 gx3 hL
  clear x2 x3
  rintro m ⟨L, st, μ⟩ ⟨x2, x3, hL, hx, hm, gx2, gx3, gr0, hP⟩
  cases hx
  refine fb_129_1 x0b (i3 x2) (i3 x3) _ _ _ _ hL ?_
  have r1 := zlog_s x3 (by omega)
  refine wz_br (i3Le (rfl : i3 x3 = i3 x3) (show (0 : Int32) = i3 0 from rfl) (by omega) (by omega) (by omega) (by omega)) (fun h2 => ?_) (fun h2 => ?_)
  · replace hP := zE_p hP h2
    exact hk _ _ _ (zconso rfl (zconso rfl (zconso (zvo (rfl : i3 x2 = i3 x2)) (zconso rfl rfl))))  (by omega) (by omega) (by omega) hP
  · replace hP := zE_n hP h2
    refine wz_br (i3E (rfl : i3 x2 = i3 x2) (show (0 : Int32) = i3 0 from rfl) (by omega) (by omega) (by omega) (by omega)) (fun h3 => ?_) (fun h3 => ?_)
    · replace hP := zE_p hP h3
      exact hk _ _ _ (zconso rfl (zconso rfl (zconso (zvo (rfl : i3 x2 = i3 x2)) (zconso rfl rfl))))  (by omega) (by omega) (by omega) hP
    · replace hP := zE_n hP h3
      obtain ⟨v4, hv4, c9, lv4, uv4⟩ := sp_134 (ν := ν) hZ x0b (a1 := (x3 % 10)) (by omega) (zbh (c := 0) (k := 0) hM (Nat.le_of_ble_eq_true rfl))
      replace hP := zl_e hP hv4
      refine wz_cI_of (zas (zcons rfl (zcons (zvi (i3R (rfl : i3 x3 = i3 x3) (show (10 : Int32) = i3 10 from rfl) (by omega) (by omega) (by omega) (by omega))) rfl)) c9) ?_
      clear c9
      obtain ⟨m2, rfl⟩ : ∃ m2, m = m2 + 1 := ⟨m - 1, by omega⟩
      exact wz_k1 ⟨m2, by omega, v4, (x3 / 10), (zconso rfl (zconso rfl (zconso (zvo (rfl : i3 v4 = i3 v4)) (zconso (zvo (i3D (rfl : i3 x3 = i3 x3) (show (10 : Int32) = i3 10 from rfl) (by omega) (by omega) (by omega) (by omega))) rfl)))), rfl,  by omega, by omega, by omega, by omega,  hP⟩
/- yX7_areStops -/
def zf_129 (Z : qz_Z) (a0b : Int) (a1 : Int) : Int := (if a1 < 0 then (zlet2 (zl_129_1 a0b (zlog a1 + 1) Z 0 a1) (fun y2 y3 => y2)) else (if 999999 < a1 then (zlet2 (zl_129_1 a0b (zlog a1 + 1) Z 0 a1) (fun y6 y7 => y6)) else (zlet2 (zl_129_1 a0b (zlog a1 + 1) Z 1 a1) (fun y9 y10 => y9))))
theorem sp_129 {s : zSM} {Z : qz_Z} {ν : qz_N} (hZ : zH s Z) (a0b : Nat) {a1 : Int} (ga1 : -2147483648 ≤ a1 ∧ a1 ≤ 2147483647) (hM : s.2 + 0 ≤ 1000000000) : ∃ P : Int, P = zf_129 Z a0b a1 ∧ (qf_129 [.inr (.inr (some (10, a0b, 0))), .inl (i3 a1)] (zm Z ν) = some (zm Z ν, .inl (some (.inl (i3 P)))) ∧ 0 ≤ P ∧ P ≤ 1 ∧ (P = 0 ∨ 0 ≤ a1 ∧ a1 ≤ 999999)) := by
  obtain ⟨P, hP⟩ := zx (zf_129 Z a0b a1)
  refine zc_R (Q := fun P => 0 ≤ P ∧ P ≤ 1 ∧ (P = 0 ∨ 0 ≤ a1 ∧ a1 ≤ 999999)) hP (fw_129 a0b (i3 a1) _ _ ?_)
  replace hP : zE P (zf_129 Z a0b a1) := hP
  unfold zf_129 at hP
  refine wz_br (i3L (rfl : i3 a1 = i3 a1) (show (0 : Int32) = i3 0 from rfl) (by omega) (by omega) (by omega) (by omega)) (fun h1 => ?_) (fun h1 => ?_)
  · replace hP := zE_p hP h1
    refine sl_129_1 (ν := ν) hZ (zbh (c := 0) (k := 0) hM (Nat.le_of_ble_eq_true rfl)) a0b (x2 := 0) (by omega) (x3 := a1) (by omega) (gg := 0) (by omega) (zconso rfl (zconso rfl (zconso (zvo (show (0 : Int32) = i3 0 from rfl)) (zconso (zvo (rfl : i3 a1 = i3 a1)) rfl)))) rfl ?_
    intro L4 y2 y3 hL4 gy2 gy3 gL4_0 q9
    replace hP := zl_e2 hP (Eq.symm q9)
    clear q9
    refine fc_129_2 (i3 y2) _ _ _ _ hL4 ?_
    refine wz_i1 (i3B (rfl : i3 y2 = i3 y2) (by omega)) ?_
    exact zlR hP (rfl : i3 y2 = i3 y2) ⟨by omega, by omega, by omega⟩
  · replace hP := zE_n hP h1
    refine wz_br (i3L (show (999999 : Int32) = i3 999999 from rfl) (rfl : i3 a1 = i3 a1) (by omega) (by omega) (by omega) (by omega)) (fun h5 => ?_) (fun h5 => ?_)
    · replace hP := zE_p hP h5
      refine sl_129_1 (ν := ν) hZ (zbh (c := 0) (k := 0) hM (Nat.le_of_ble_eq_true rfl)) a0b (x2 := 0) (by omega) (x3 := a1) (by omega) (gg := 0) (by omega) (zconso rfl (zconso rfl (zconso (zvo (show (0 : Int32) = i3 0 from rfl)) (zconso (zvo (rfl : i3 a1 = i3 a1)) rfl)))) rfl ?_
      intro L8 y6 y7 hL8 gy6 gy7 gL8_0 q9
      replace hP := zl_e2 hP (Eq.symm q9)
      clear q9
      refine fc_129_2 (i3 y6) _ _ _ _ hL8 ?_
      refine wz_i1 (i3B (rfl : i3 y6 = i3 y6) (by omega)) ?_
      exact zlR hP (rfl : i3 y6 = i3 y6) ⟨by omega, by omega, by omega⟩
    · replace hP := zE_n hP h5
      refine sl_129_1 (ν := ν) hZ (zbh (c := 0) (k := 0) hM (Nat.le_of_ble_eq_true rfl)) a0b (x2 := 1) (by omega) (x3 := a1) (by omega) (gg := 1) (by omega) (zconso rfl (zconso rfl (zconso (zvo (show (1 : Int32) = i3 1 from rfl)) (zconso (zvo (rfl : i3 a1 = i3 a1)) rfl)))) rfl ?_
      intro L11 y9 y10 hL11 gy9 gy10 gL11_0 q9
      replace hP := zl_e2 hP (Eq.symm q9)
      clear q9
      refine fc_129_2 (i3 y9) _ _ _ _ hL11 ?_
      refine wz_i1 (i3B (rfl : i3 y9 = i3 y9) (by omega)) ?_
      exact zlR hP (rfl : i3 y9 = i3 y9) ⟨by omega, by omega, by omega⟩
/- yX11_round -/
def zx_237 (Z : qz_Z) (a1 : Int) (a2 : Int) (a3 : Int) : qz_Z × Int × Int := (if 0 ≤ a1 ∧ a1 < (Z 11 0 0 9) then (if 0 ≤ a2 ∧ a2 ≤ 127 then (zlet (zf_129 Z 0 a3) (fun v4 => (if v4 ≠ 0 then (zlet (zdd Z 23 a1 a2 a3 0 0 0) (fun Z7 => (zlet (zu Z7 51 0 a1 2 a2) (fun Z8 => (zlet (zu Z8 51 0 a1 3 a3) (fun Z9 => (zlet (zf_133 Z9 a3) (fun v10 => (Z9, v10, 0))))))))) else (Z, 0, 13)))) else (Z, 0, 13)) else (Z, 0, 24))
theorem sx_237 {M : Nat} {Z : qz_Z} {ν : qz_N} (hZ : zH ((none, M) : zSM) Z) (hM : ((none, M) : zSM).2 + 0 ≤ 1000000000) {a1 : Int} (ga1 : -2147483648 ≤ a1 ∧ a1 ≤ 2147483647) {a2 : Int} (ga2 : -2147483648 ≤ a2 ∧ a2 ≤ 2147483647) {a3 : Int} (ga3 : -2147483648 ≤ a3 ∧ a3 ≤ 2147483647) : ∃ (Z1 : qz_Z) (ν1 : qz_N) (v E : Int), (Z1, v, E) = zx_237 Z a1 a2 a3 ∧ qf_237 [.inr (.inr (some (0, 0, 0))), .inl (i3 a1), .inl (i3 a2), .inl (i3 a3)] (zm Z ν) = some (zm Z1 ν1, zoX v E) ∧ (fun Z1 ν1 => zH ((none, M) : zSM) Z1 ∧ zC [3, 12, 13, 14, 40, 41, 42, 43, 44, 45, 46, 47, 48, 49, 50, 51, 52, 53, 54, 61, 68, 1099, 1100, 1101, 1102, 1103, 1104, 1105, 1106, 1107, 1108, 1109, 1110, 1111, 1112, 1113, 1114, 1115, 1116] Z Z1 ∧ zU [0, 2, 3, 4, 5, 6, 7, 8, 9] Z Z1 ∧ zG 1 6 ν ν1) Z1 ν1 := by
  obtain ⟨P, hP⟩ := zx (zx_237 Z a1 a2 a3)
  refine zc_G (Q := fun Z1 ν1 => zH ((none, M) : zSM) Z1 ∧ zC [3, 12, 13, 14, 40, 41, 42, 43, 44, 45, 46, 47, 48, 49, 50, 51, 52, 53, 54, 61, 68, 1099, 1100, 1101, 1102, 1103, 1104, 1105, 1106, 1107, 1108, 1109, 1110, 1111, 1112, 1113, 1114, 1115, 1116] Z Z1 ∧ zU [0, 2, 3, 4, 5, 6, 7, 8, 9] Z Z1 ∧ zG 1 6 ν ν1) hP (fw_237 (i3 a1) (i3 a2) (i3 a3) _ _ ?_)
  replace hP : zE P (zx_237 Z a1 a2 a3) := hP
  unfold zx_237 at hP
  have r1 := zH_k hZ 11 0 0 9 (lo := 0) (hi := 2) (by decide) rfl
  refine wz_thing (rfl : i3 a1 = i3 a1) (zm_rd (Z := Z) (ν := ν) (k := 11) (show ((0 : Nat) : Int) = 0 from rfl) (show ((0 : Nat) : Int) = 0 from rfl) (show ((9 : Nat) : Int) = 9 from rfl)) (by omega) (by omega) (by omega) (by omega) (fun h2 => ?_) (fun h2 => ?_)
  · replace hP := zE_p hP h2
    refine wz_inR (rfl : i3 a2 = i3 a2) (show (0 : Int32) = i3 0 from rfl) (show (127 : Int32) = i3 127 from rfl) (by omega) (by omega) (by omega) (by omega) (by omega) (by omega) (fun h3 => ?_) (fun h3 => ?_)
    · replace hP := zE_p hP h3
      obtain ⟨v4, hv4, c9, lv4, uv4, wv40⟩ := sp_129 (ν := ν) hZ 0 (a1 := a3) (by omega) (zbh (c := 0) (k := 0) hM (Nat.le_of_ble_eq_true rfl))
      replace hP := zl_e hP hv4
      refine wz_cI_of (zas (zcons rfl (zcons (zvi (rfl : i3 a3 = i3 a3)) rfl)) c9) ?_
      clear c9
      have w5 : v4 = 0 ∨ 0 ≤ a3 ∧ a3 ≤ 999999 := wv40
      refine wz_br (i3NE (rfl : i3 v4 = i3 v4) (show (0 : Int32) = i3 0 from rfl) (by omega) (by omega) (by omega) (by omega)) (fun h6 => ?_) (fun h6 => ?_)
      · replace hP := zE_p hP h6
        refine dc_J (zcons rfl (zcons (zvi (show (23 : Int32) = i3 23 from rfl)) (zcons (zvi (rfl : i3 a1 = i3 a1)) (zcons (zvi (rfl : i3 a2 = i3 a2)) (zcons (zvi (rfl : i3 a3 = i3 a3)) (zcons (zvi (show (0 : Int32) = i3 0 from rfl)) (zcons (zvi (show (0 : Int32) = i3 0 from rfl)) (zcons (zvi (show (0 : Int32) = i3 0 from rfl)) rfl)))))))) (dg (hZ).1 (by omega) (by omega) (by omega) (by omega) (by omega) (by omega) (by omega) ?_)
        have hZ7I := zH_dd hZ (a1 := 23) (a2 := a1) (a3 := a2) (a4 := a3) (a5 := 0) (a6 := 0) (a7 := 0) (by omega) (by omega) (by omega) (by omega) (by omega) (by omega) (by omega)
        have kZ7 : zC [3, 12, 13, 14, 40, 41, 42, 43, 44, 45, 46, 47, 48, 49, 50, 51, 52, 53, 54, 61, 68, 1099, 1100, 1101, 1102, 1103, 1104, 1105, 1106, 1107, 1108, 1109, 1110, 1111, 1112, 1113, 1114, 1115, 1116] Z (zdd Z 23 a1 a2 a3 0 0 0) := zC_k zdd_K (by decide) (by decide)
        have hZ7A : (zdd Z 23 a1 a2 a3 0 0 0) 68 0 0 0 = 23 ∧ (zdd Z 23 a1 a2 a3 0 0 0) 68 0 0 1 = a1 ∧ (zdd Z 23 a1 a2 a3 0 0 0) 68 0 0 2 = a2 ∧ (zdd Z 23 a1 a2 a3 0 0 0) 68 0 0 3 = a3 ∧ (zdd Z 23 a1 a2 a3 0 0 0) 68 0 0 4 = 0 ∧ (zdd Z 23 a1 a2 a3 0 0 0) 68 0 0 5 = 0 ∧ (zdd Z 23 a1 a2 a3 0 0 0) 68 0 0 6 = 0 := ⟨zdd_68, zdd_68, zdd_68, zdd_68, zdd_68, zdd_68, zdd_68⟩
        obtain ⟨Z7, hZ7⟩ := zx (zdd Z 23 a1 a2 a3 0 0 0)
        have dZ7 : ∀ {k : Nat} {i j : Int}, zhall k = true → ¬ (k = 11 ∧ (j = 15 ∨ j = 16)) → Z7 k 0 i j = Z k 0 i j := fun hk hj => by rw [hZ7]; exact zdd_h (hZ).1 hk hj
        have jZ7 : zU [0, 2, 3, 4, 5, 6, 7, 8, 9] Z (zdd Z 23 a1 a2 a3 0 0 0) := zU_dd (hZ).1
        rw [← hZ7] at hZ7I kZ7 jZ7 hZ7A ⊢
        have hZ7U : zU [0, 2, 3, 4, 5, 6, 7, 8, 9] Z Z7 := zU_t zU_r jZ7 (zU_b1 (List.Mem.head _) (zU_b1 (List.Mem.tail _ (List.Mem.head _)) (zU_b1 (List.Mem.tail _ (List.Mem.tail _ (List.Mem.head _))) (zU_b1 (List.Mem.tail _ (List.Mem.tail _ (List.Mem.tail _ (List.Mem.head _)))) (zU_b1 (List.Mem.tail _ (List.Mem.tail _ (List.Mem.tail _ (List.Mem.tail _ (List.Mem.head _))))) (zU_b1 (List.Mem.tail _ (List.Mem.tail _ (List.Mem.tail _ (List.Mem.tail _ (List.Mem.tail _ (List.Mem.head _)))))) (zU_b1 (List.Mem.tail _ (List.Mem.tail _ (List.Mem.tail _ (List.Mem.tail _ (List.Mem.tail _ (List.Mem.tail _ (List.Mem.head _))))))) (zU_b1 (List.Mem.tail _ (List.Mem.tail _ (List.Mem.tail _ (List.Mem.tail _ (List.Mem.tail _ (List.Mem.tail _ (List.Mem.tail _ (List.Mem.head _)))))))) (zU_b1 (List.Mem.tail _ (List.Mem.tail _ (List.Mem.tail _ (List.Mem.tail _ (List.Mem.tail _ (List.Mem.tail _ (List.Mem.tail _ (List.Mem.tail _ (List.Mem.head _))))))))) zU_b0)))))))))
        replace hP := zl_e hP hZ7
        have hZ7K : zC [3, 12, 13, 14, 40, 41, 42, 43, 44, 45, 46, 47, 48, 49, 50, 51, 52, 53, 54, 61, 68, 1099, 1100, 1101, 1102, 1103, 1104, 1105, 1106, 1107, 1108, 1109, 1110, 1111, 1112, 1113, 1114, 1115, 1116] Z Z7 := zC_t zC_r kZ7 (by decide)
        clear kZ7 hZ7
        refine fw_121 _ _ _ _ ?_
        refine wz_i1 rfl ?_
        refine wz_i0 (i3O (n := 7) (show (0 : Int32) = i3 0 from rfl) (by omega) (by omega) (by omega)) ?_
        refine wz_i0 (Eq.trans (i3To (Eq.trans (zm_rd (Z := Z7) (ν := ν) (k := 68) (show ((0 : Nat) : Int) = 0 from rfl) (show ((0 : Nat) : Int) = 0 from rfl) (show ((0 : Nat) : Int) = 0 from rfl)) (congrArg i3 ((hZ7A.1)))) (by omega) (by omega)) (decide_eq_false (by omega))) ?_
        refine wz_i0 (Eq.trans (i3T (Eq.trans (zm_rd (Z := Z7) (ν := ν) (k := 68) (show ((0 : Nat) : Int) = 0 from rfl) (show ((0 : Nat) : Int) = 0 from rfl) (show ((0 : Nat) : Int) = 0 from rfl)) (congrArg i3 ((hZ7A.1)))) (by omega) (by omega)) (decide_eq_false (by omega))) ?_
        refine wz_i0 (Eq.trans (i3T (Eq.trans (zm_rd (Z := Z7) (ν := ν) (k := 68) (show ((0 : Nat) : Int) = 0 from rfl) (show ((0 : Nat) : Int) = 0 from rfl) (show ((0 : Nat) : Int) = 0 from rfl)) (congrArg i3 ((hZ7A.1)))) (by omega) (by omega)) (decide_eq_false (by omega))) ?_
        refine wz_i0 (Eq.trans (i3T (Eq.trans (zm_rd (Z := Z7) (ν := ν) (k := 68) (show ((0 : Nat) : Int) = 0 from rfl) (show ((0 : Nat) : Int) = 0 from rfl) (show ((0 : Nat) : Int) = 0 from rfl)) (congrArg i3 ((hZ7A.1)))) (by omega) (by omega)) (decide_eq_false (by omega))) ?_
        refine wz_i0 (Eq.trans (i3T (Eq.trans (zm_rd (Z := Z7) (ν := ν) (k := 68) (show ((0 : Nat) : Int) = 0 from rfl) (show ((0 : Nat) : Int) = 0 from rfl) (show ((0 : Nat) : Int) = 0 from rfl)) (congrArg i3 ((hZ7A.1)))) (by omega) (by omega)) (decide_eq_false (by omega))) ?_
        refine wz_i0 (Eq.trans (i3T (Eq.trans (zm_rd (Z := Z7) (ν := ν) (k := 68) (show ((0 : Nat) : Int) = 0 from rfl) (show ((0 : Nat) : Int) = 0 from rfl) (show ((0 : Nat) : Int) = 0 from rfl)) (congrArg i3 ((hZ7A.1)))) (by omega) (by omega)) (decide_eq_false (by omega))) ?_
        refine wz_i0 (Eq.trans (i3T (Eq.trans (zm_rd (Z := Z7) (ν := ν) (k := 68) (show ((0 : Nat) : Int) = 0 from rfl) (show ((0 : Nat) : Int) = 0 from rfl) (show ((0 : Nat) : Int) = 0 from rfl)) (congrArg i3 ((hZ7A.1)))) (by omega) (by omega)) (decide_eq_false (by omega))) ?_
        refine wz_i0 (Eq.trans (i3T (Eq.trans (zm_rd (Z := Z7) (ν := ν) (k := 68) (show ((0 : Nat) : Int) = 0 from rfl) (show ((0 : Nat) : Int) = 0 from rfl) (show ((0 : Nat) : Int) = 0 from rfl)) (congrArg i3 ((hZ7A.1)))) (by omega) (by omega)) (decide_eq_false (by omega))) ?_
        refine wz_i0 (Eq.trans (i3T (Eq.trans (zm_rd (Z := Z7) (ν := ν) (k := 68) (show ((0 : Nat) : Int) = 0 from rfl) (show ((0 : Nat) : Int) = 0 from rfl) (show ((0 : Nat) : Int) = 0 from rfl)) (congrArg i3 ((hZ7A.1)))) (by omega) (by omega)) (decide_eq_false (by omega))) ?_
        refine wz_i0 (Eq.trans (i3T (Eq.trans (zm_rd (Z := Z7) (ν := ν) (k := 68) (show ((0 : Nat) : Int) = 0 from rfl) (show ((0 : Nat) : Int) = 0 from rfl) (show ((0 : Nat) : Int) = 0 from rfl)) (congrArg i3 ((hZ7A.1)))) (by omega) (by omega)) (decide_eq_false (by omega))) ?_
        refine wz_i0 (Eq.trans (i3T (Eq.trans (zm_rd (Z := Z7) (ν := ν) (k := 68) (show ((0 : Nat) : Int) = 0 from rfl) (show ((0 : Nat) : Int) = 0 from rfl) (show ((0 : Nat) : Int) = 0 from rfl)) (congrArg i3 ((hZ7A.1)))) (by omega) (by omega)) (decide_eq_false (by omega))) ?_
        refine wz_i0 (Eq.trans (i3T (Eq.trans (zm_rd (Z := Z7) (ν := ν) (k := 68) (show ((0 : Nat) : Int) = 0 from rfl) (show ((0 : Nat) : Int) = 0 from rfl) (show ((0 : Nat) : Int) = 0 from rfl)) (congrArg i3 ((hZ7A.1)))) (by omega) (by omega)) (decide_eq_false (by omega))) ?_
        refine wz_i0 (Eq.trans (i3T (Eq.trans (zm_rd (Z := Z7) (ν := ν) (k := 68) (show ((0 : Nat) : Int) = 0 from rfl) (show ((0 : Nat) : Int) = 0 from rfl) (show ((0 : Nat) : Int) = 0 from rfl)) (congrArg i3 ((hZ7A.1)))) (by omega) (by omega)) (decide_eq_false (by omega))) ?_
        refine wz_i0 (Eq.trans (i3T (Eq.trans (zm_rd (Z := Z7) (ν := ν) (k := 68) (show ((0 : Nat) : Int) = 0 from rfl) (show ((0 : Nat) : Int) = 0 from rfl) (show ((0 : Nat) : Int) = 0 from rfl)) (congrArg i3 ((hZ7A.1)))) (by omega) (by omega)) (decide_eq_false (by omega))) ?_
        refine wz_i0 (Eq.trans (i3T (Eq.trans (zm_rd (Z := Z7) (ν := ν) (k := 68) (show ((0 : Nat) : Int) = 0 from rfl) (show ((0 : Nat) : Int) = 0 from rfl) (show ((0 : Nat) : Int) = 0 from rfl)) (congrArg i3 ((hZ7A.1)))) (by omega) (by omega)) (decide_eq_false (by omega))) ?_
        refine wz_i0 (Eq.trans (i3T (Eq.trans (zm_rd (Z := Z7) (ν := ν) (k := 68) (show ((0 : Nat) : Int) = 0 from rfl) (show ((0 : Nat) : Int) = 0 from rfl) (show ((0 : Nat) : Int) = 0 from rfl)) (congrArg i3 ((hZ7A.1)))) (by omega) (by omega)) (decide_eq_false (by omega))) ?_
        refine wz_i0 (Eq.trans (i3T (Eq.trans (zm_rd (Z := Z7) (ν := ν) (k := 68) (show ((0 : Nat) : Int) = 0 from rfl) (show ((0 : Nat) : Int) = 0 from rfl) (show ((0 : Nat) : Int) = 0 from rfl)) (congrArg i3 ((hZ7A.1)))) (by omega) (by omega)) (decide_eq_false (by omega))) ?_
        refine wz_i0 (Eq.trans (i3T (Eq.trans (zm_rd (Z := Z7) (ν := ν) (k := 68) (show ((0 : Nat) : Int) = 0 from rfl) (show ((0 : Nat) : Int) = 0 from rfl) (show ((0 : Nat) : Int) = 0 from rfl)) (congrArg i3 ((hZ7A.1)))) (by omega) (by omega)) (decide_eq_false (by omega))) ?_
        refine wz_i0 (Eq.trans (i3T (Eq.trans (zm_rd (Z := Z7) (ν := ν) (k := 68) (show ((0 : Nat) : Int) = 0 from rfl) (show ((0 : Nat) : Int) = 0 from rfl) (show ((0 : Nat) : Int) = 0 from rfl)) (congrArg i3 ((hZ7A.1)))) (by omega) (by omega)) (decide_eq_false (by omega))) ?_
        refine wz_i0 (Eq.trans (i3T (Eq.trans (zm_rd (Z := Z7) (ν := ν) (k := 68) (show ((0 : Nat) : Int) = 0 from rfl) (show ((0 : Nat) : Int) = 0 from rfl) (show ((0 : Nat) : Int) = 0 from rfl)) (congrArg i3 ((hZ7A.1)))) (by omega) (by omega)) (decide_eq_false (by omega))) ?_
        refine wz_i0 (Eq.trans (i3T (Eq.trans (zm_rd (Z := Z7) (ν := ν) (k := 68) (show ((0 : Nat) : Int) = 0 from rfl) (show ((0 : Nat) : Int) = 0 from rfl) (show ((0 : Nat) : Int) = 0 from rfl)) (congrArg i3 ((hZ7A.1)))) (by omega) (by omega)) (decide_eq_false (by omega))) ?_
        refine wz_i0 (Eq.trans (i3T (Eq.trans (zm_rd (Z := Z7) (ν := ν) (k := 68) (show ((0 : Nat) : Int) = 0 from rfl) (show ((0 : Nat) : Int) = 0 from rfl) (show ((0 : Nat) : Int) = 0 from rfl)) (congrArg i3 ((hZ7A.1)))) (by omega) (by omega)) (decide_eq_false (by omega))) ?_
        refine wz_i0 (Eq.trans (i3T (Eq.trans (zm_rd (Z := Z7) (ν := ν) (k := 68) (show ((0 : Nat) : Int) = 0 from rfl) (show ((0 : Nat) : Int) = 0 from rfl) (show ((0 : Nat) : Int) = 0 from rfl)) (congrArg i3 ((hZ7A.1)))) (by omega) (by omega)) (decide_eq_false (by omega))) ?_
        refine wz_i0 (Eq.trans (i3T (Eq.trans (zm_rd (Z := Z7) (ν := ν) (k := 68) (show ((0 : Nat) : Int) = 0 from rfl) (show ((0 : Nat) : Int) = 0 from rfl) (show ((0 : Nat) : Int) = 0 from rfl)) (congrArg i3 ((hZ7A.1)))) (by omega) (by omega)) (decide_eq_false (by omega))) ?_
        refine wz_i1 (Eq.trans (i3T (Eq.trans (zm_rd (Z := Z7) (ν := ν) (k := 68) (show ((0 : Nat) : Int) = 0 from rfl) (show ((0 : Nat) : Int) = 0 from rfl) (show ((0 : Nat) : Int) = 0 from rfl)) (congrArg i3 ((hZ7A.1)))) (by omega) (by omega)) (decide_eq_true (by omega))) ?_
        refine wz_i1 rfl ?_
        refine wz_i0 (i3O (n := 7) (show (1 : Int32) = i3 1 from rfl) (by omega) (by omega) (by omega)) ?_
        refine wz_i1 rfl ?_
        refine wz_i0 (i3O (n := 7) (show (2 : Int32) = i3 2 from rfl) (by omega) (by omega) (by omega)) ?_
        refine wz_i1 rfl ?_
        refine wz_i0 (i3O (n := 7) (show (3 : Int32) = i3 3 from rfl) (by omega) (by omega) (by omega)) ?_
        refine wz_i0 (i3O (n := 2) (Eq.trans (zm_rd (Z := Z7) (ν := ν) (k := 68) (show ((0 : Nat) : Int) = 0 from rfl) (show ((0 : Nat) : Int) = 0 from rfl) (show ((1 : Nat) : Int) = 1 from rfl)) (congrArg i3 ((hZ7A.2.1)))) (by omega) (by omega) (by omega)) ?_
        obtain ⟨Z8, hZ8⟩ := zx (zu Z7 51 0 a1 2 a2)
        replace hP := zl_e hP hZ8
        have hZ8I := zH_u hZ7I hZ8 (lo := 0) (hi := 127) (by decide) rfl (by omega) ⟨by decide, by decide⟩ (Or.inl (by decide)) rfl
        have hZ8U : zU [0, 2, 3, 4, 5, 6, 7, 8, 9] Z Z8 := zU_u hZ7U hZ8 (Or.inr (List.Mem.head _))
        have hZ8K : zC [3, 12, 13, 14, 40, 41, 42, 43, 44, 45, 46, 47, 48, 49, 50, 51, 52, 53, 54, 61, 68, 1099, 1100, 1101, 1102, 1103, 1104, 1105, 1106, 1107, 1108, 1109, 1110, 1111, 1112, 1113, 1114, 1115, 1116] Z Z8 := zC_u hZ7K hZ8 (by decide)
        intro μ9 e9
        replace e9 := e9.trans (zm_wI (Z := Z7) (ν := ν) hZ8 (show ((0 : Nat) : Int) = 0 from rfl) (i3I (y := a1) (Eq.trans (zm_rd (Z := Z7) (ν := ν) (k := 68) (show ((0 : Nat) : Int) = 0 from rfl) (show ((0 : Nat) : Int) = 0 from rfl) (show ((1 : Nat) : Int) = 1 from rfl)) (congrArg i3 ((hZ7A.2.1)))) (by omega) (by omega) (by omega)) (show ((2 : Nat) : Int) = 2 from rfl) (Eq.trans (zm_rd (Z := Z7) (ν := ν) (k := 68) (show ((0 : Nat) : Int) = 0 from rfl) (show ((0 : Nat) : Int) = 0 from rfl) (show ((2 : Nat) : Int) = 2 from rfl)) (congrArg i3 ((hZ7A.2.2.1)))))
        subst e9
        refine wz_i0 (i3O (n := 2) (Eq.trans (zm_rd (Z := Z7) (ν := ν) (k := 68) (show ((0 : Nat) : Int) = 0 from rfl) (show ((0 : Nat) : Int) = 0 from rfl) (show ((1 : Nat) : Int) = 1 from rfl)) (congrArg i3 ((hZ7A.2.1)))) (by omega) (by omega) (by omega)) ?_
        obtain ⟨Z9, hZ9⟩ := zx (zu Z8 51 0 a1 3 a3)
        replace hP := zl_e hP hZ9
        have hZ9I := zH_u hZ8I hZ9 (lo := 0) (hi := 999999) (by decide) rfl (by omega) ⟨by decide, by decide⟩ (Or.inl (by decide)) rfl
        have hZ9U : zU [0, 2, 3, 4, 5, 6, 7, 8, 9] Z Z9 := zU_u hZ8U hZ9 (Or.inr (List.Mem.head _))
        have hZ9K : zC [3, 12, 13, 14, 40, 41, 42, 43, 44, 45, 46, 47, 48, 49, 50, 51, 52, 53, 54, 61, 68, 1099, 1100, 1101, 1102, 1103, 1104, 1105, 1106, 1107, 1108, 1109, 1110, 1111, 1112, 1113, 1114, 1115, 1116] Z Z9 := zC_u hZ8K hZ9 (by decide)
        intro μ9 e9
        replace e9 := e9.trans (zm_wI (Z := Z8) (ν := ν) hZ9 (show ((0 : Nat) : Int) = 0 from rfl) (i3I (y := a1) (Eq.trans (zm_rd (Z := Z7) (ν := ν) (k := 68) (show ((0 : Nat) : Int) = 0 from rfl) (show ((0 : Nat) : Int) = 0 from rfl) (show ((1 : Nat) : Int) = 1 from rfl)) (congrArg i3 ((hZ7A.2.1)))) (by omega) (by omega) (by omega)) (show ((3 : Nat) : Int) = 3 from rfl) (Eq.trans (zm_rd (Z := Z7) (ν := ν) (k := 68) (show ((0 : Nat) : Int) = 0 from rfl) (show ((0 : Nat) : Int) = 0 from rfl) (show ((3 : Nat) : Int) = 3 from rfl)) (congrArg i3 ((hZ7A.2.2.2.1)))))
        subst e9
        obtain ⟨v10, hv10, c9, lv10, uv10⟩ := sp_133z (ν := ν) hZ9I (a0 := a3) (by omega) (zbh (c := 0) (k := 0) hM (Nat.le_of_ble_eq_true rfl))
        replace hP := zl_e hP hv10
        refine wz_cI_of (zas (zcons (zvi (Eq.trans (zm_rd (Z := Z7) (ν := ν) (k := 68) (show ((0 : Nat) : Int) = 0 from rfl) (show ((0 : Nat) : Int) = 0 from rfl) (show ((3 : Nat) : Int) = 3 from rfl)) (congrArg i3 ((hZ7A.2.2.2.1))))) rfl) c9) ?_
        clear c9
        exact zlG hP (rfl : i3 v10 = i3 v10) ⟨hZ9I, hZ9K, hZ9U, zG_w zG_r (Nat.le_of_ble_eq_true rfl) (Nat.le_of_ble_eq_true rfl)⟩
      · replace hP := zE_n hP h6
        exact zlGe (E := 12) hP ⟨hZ, zC_r, zU_r, zG_w (zG_k rfl) (Nat.le_of_ble_eq_true rfl) (Nat.le_of_ble_eq_true rfl)⟩
    · replace hP := zE_n hP h3
      exact zlGe (E := 12) hP ⟨hZ, zC_r, zU_r, zG_w (zG_k rfl) (Nat.le_of_ble_eq_true rfl) (Nat.le_of_ble_eq_true rfl)⟩
  · replace hP := zE_n hP h2
    exact zlGe (E := 23) hP ⟨hZ, zC_r, zU_r, zG_w (zG_k rfl) (Nat.le_of_ble_eq_true rfl) (Nat.le_of_ble_eq_true rfl)⟩
/- yX2_sendFault -/
def zf_55 (Z : qz_Z) (a0b : Int) (a1 : Int) (a2 : Int) : Int := (if a1 < 0 then 1 else (if a1 < (Z 11 a0b 0 8) then (if a2 = (-1) then (if (Z 50 a0b a1 2) ≠ 0 then 3 else 0) else (if a2 ≤ (Z 11 a0b 0 13) then 2 else (if a2 ≤ 671 then (if (Z 50 a0b a1 2) ≠ 0 then 3 else 0) else 2))) else 1))
theorem sp_55 {s : zSM} {Z : qz_Z} {ν : qz_N} (hZ : zH s Z) (a0b : Nat) {a1 : Int} (ga1 : -2147483648 ≤ a1 ∧ a1 ≤ 2147483647) {a2 : Int} (ga2 : -2147483648 ≤ a2 ∧ a2 ≤ 2147483647) (hM : s.2 + 0 ≤ 1000000000) : ∃ P : Int, P = zf_55 Z a0b a1 a2 ∧ (qf_55 [.inr (.inr (some (10, a0b, 0))), .inl (i3 a1), .inl (i3 a2)] (zm Z ν) = some (zm Z ν, .inl (some (.inl (i3 P)))) ∧ 0 ≤ P ∧ P ≤ 3) := by
  obtain ⟨P, hP⟩ := zx (zf_55 Z a0b a1 a2)
  refine zc_R (Q := fun P => 0 ≤ P ∧ P ≤ 3) hP (fw_55 a0b (i3 a1) (i3 a2) _ _ ?_)
  replace hP : zE P (zf_55 Z a0b a1 a2) := hP
  unfold zf_55 at hP
  refine wz_br (i3L (rfl : i3 a1 = i3 a1) (show (0 : Int32) = i3 0 from rfl) (by omega) (by omega) (by omega) (by omega)) (fun h1 => ?_) (fun h1 => ?_)
  · replace hP := zE_p hP h1
    exact zlR hP (show (1 : Int32) = i3 1 from rfl) ⟨by omega, by omega⟩
  · replace hP := zE_n hP h1
    have r2 := zH_k hZ 11 a0b 0 8 (lo := 0) (hi := 4) (by decide) rfl
    refine wz_br (i3L (rfl : i3 a1 = i3 a1) (zm_rd (Z := Z) (ν := ν) (k := 11) (rfl : ((a0b : Nat) : Int) = a0b) (show ((0 : Nat) : Int) = 0 from rfl) (show ((8 : Nat) : Int) = 8 from rfl)) (by omega) (by omega) (by omega) (by omega)) (fun h3 => ?_) (fun h3 => ?_)
    · replace hP := zE_p hP h3
      refine wz_br (i3E (rfl : i3 a2 = i3 a2) (show (-1 : Int32) = i3 (-1) from rfl) (by omega) (by omega) (by omega) (by omega)) (fun h4 => ?_) (fun h4 => ?_)
      · replace hP := zE_p hP h4
        refine wz_i0 (i3O (n := 4) (rfl : i3 a1 = i3 a1) (by omega) (by omega) (by omega)) ?_
        have r5 := zH_k hZ 50 a0b a1 2 (lo := 0) (hi := 1) (by decide) rfl
        refine wz_br (i3NE (zm_rd (Z := Z) (ν := ν) (k := 50) (rfl : ((a0b : Nat) : Int) = a0b) (i3I (y := a1) (rfl : i3 a1 = i3 a1) (by omega) (by omega) (by omega)) (show ((2 : Nat) : Int) = 2 from rfl)) (show (0 : Int32) = i3 0 from rfl) (by omega) (by omega) (by omega) (by omega)) (fun h6 => ?_) (fun h6 => ?_)
        · replace hP := zE_p hP h6
          exact zlR hP (show (3 : Int32) = i3 3 from rfl) ⟨by omega, by omega⟩
        · replace hP := zE_n hP h6
          exact zlR hP (show (0 : Int32) = i3 0 from rfl) ⟨by omega, by omega⟩
      · replace hP := zE_n hP h4
        have r7 := zH_k hZ 11 a0b 0 13 (lo := 0) (hi := 671) (by decide) rfl
        refine wz_br (i3Le (rfl : i3 a2 = i3 a2) (zm_rd (Z := Z) (ν := ν) (k := 11) (rfl : ((a0b : Nat) : Int) = a0b) (show ((0 : Nat) : Int) = 0 from rfl) (show ((13 : Nat) : Int) = 13 from rfl)) (by omega) (by omega) (by omega) (by omega)) (fun h8 => ?_) (fun h8 => ?_)
        · replace hP := zE_p hP h8
          exact zlR hP (show (2 : Int32) = i3 2 from rfl) ⟨by omega, by omega⟩
        · replace hP := zE_n hP h8
          refine wz_br (i3Le (rfl : i3 a2 = i3 a2) (show (671 : Int32) = i3 671 from rfl) (by omega) (by omega) (by omega) (by omega)) (fun h9 => ?_) (fun h9 => ?_)
          · replace hP := zE_p hP h9
            refine wz_i0 (i3O (n := 4) (rfl : i3 a1 = i3 a1) (by omega) (by omega) (by omega)) ?_
            have r10 := zH_k hZ 50 a0b a1 2 (lo := 0) (hi := 1) (by decide) rfl
            refine wz_br (i3NE (zm_rd (Z := Z) (ν := ν) (k := 50) (rfl : ((a0b : Nat) : Int) = a0b) (i3I (y := a1) (rfl : i3 a1 = i3 a1) (by omega) (by omega) (by omega)) (show ((2 : Nat) : Int) = 2 from rfl)) (show (0 : Int32) = i3 0 from rfl) (by omega) (by omega) (by omega) (by omega)) (fun h11 => ?_) (fun h11 => ?_)
            · replace hP := zE_p hP h11
              exact zlR hP (show (3 : Int32) = i3 3 from rfl) ⟨by omega, by omega⟩
            · replace hP := zE_n hP h11
              exact zlR hP (show (0 : Int32) = i3 0 from rfl) ⟨by omega, by omega⟩
          · replace hP := zE_n hP h9
            exact zlR hP (show (2 : Int32) = i3 2 from rfl) ⟨by omega, by omega⟩
    · replace hP := zE_n hP h3
      exact zlR hP (show (1 : Int32) = i3 1 from rfl) ⟨by omega, by omega⟩
/- yX11_send -/
def zx_239 (Z : qz_Z) (a1 : Int) (a2 : Int) : qz_Z × Int × Int := (if a1 < 0 then (Z, 0, 24) else (if a1 < (Z 11 0 0 8) then (if a2 = (-1) then (if (Z 50 0 a1 2) ≠ 0 then (Z, 0, 15) else (zlet (zdd Z 21 a1 a2 0 0 0 0) (fun Z7 => (zlet (zu Z7 50 0 a1 3 a2) (fun Z8 => (Z8, (Z7 50 0 a1 3), 0)))))) else (if a2 ≤ (Z 11 0 0 13) then (Z, 0, 13) else (if a2 ≤ 671 then (if (Z 50 0 a1 2) ≠ 0 then (Z, 0, 15) else (zlet (zdd Z 21 a1 a2 0 0 0 0) (fun Z15 => (zlet (zu Z15 50 0 a1 3 a2) (fun Z16 => (Z16, (Z15 50 0 a1 3), 0)))))) else (Z, 0, 13)))) else (Z, 0, 24)))
theorem sx_239 {M : Nat} {Z : qz_Z} {ν : qz_N} (hZ : zH ((none, M) : zSM) Z) (hM : ((none, M) : zSM).2 + 0 ≤ 1000000000) {a1 : Int} (ga1 : -2147483648 ≤ a1 ∧ a1 ≤ 2147483647) {a2 : Int} (ga2 : -2147483648 ≤ a2 ∧ a2 ≤ 2147483647) : ∃ (Z1 : qz_Z) (ν1 : qz_N) (v E : Int), (Z1, v, E) = zx_239 Z a1 a2 ∧ qf_239 [.inr (.inr (some (0, 0, 0))), .inl (i3 a1), .inl (i3 a2)] (zm Z ν) = some (zm Z1 ν1, zoX v E) ∧ (fun Z1 ν1 => zH ((none, M) : zSM) Z1 ∧ zC [3, 12, 13, 14, 40, 41, 42, 43, 44, 45, 46, 47, 48, 49, 50, 51, 52, 53, 54, 61, 68, 1099, 1100, 1101, 1102, 1103, 1104, 1105, 1106, 1107, 1108, 1109, 1110, 1111, 1112, 1113, 1114, 1115, 1116] Z Z1 ∧ zU [0, 2, 3, 4, 5, 6, 7, 8, 9] Z Z1 ∧ zG 1 6 ν ν1) Z1 ν1 := by
  obtain ⟨P, hP⟩ := zx (zx_239 Z a1 a2)
  refine zc_G (Q := fun Z1 ν1 => zH ((none, M) : zSM) Z1 ∧ zC [3, 12, 13, 14, 40, 41, 42, 43, 44, 45, 46, 47, 48, 49, 50, 51, 52, 53, 54, 61, 68, 1099, 1100, 1101, 1102, 1103, 1104, 1105, 1106, 1107, 1108, 1109, 1110, 1111, 1112, 1113, 1114, 1115, 1116] Z Z1 ∧ zU [0, 2, 3, 4, 5, 6, 7, 8, 9] Z Z1 ∧ zG 1 6 ν ν1) hP (fw_239 (i3 a1) (i3 a2) _ _ ?_)
  replace hP : zE P (zx_239 Z a1 a2) := hP
  unfold zx_239 at hP
  refine fw_55 _ _ _ _ _ ?_
  refine wz_br (i3L (rfl : i3 a1 = i3 a1) (show (0 : Int32) = i3 0 from rfl) (by omega) (by omega) (by omega) (by omega)) (fun h1 => ?_) (fun h1 => ?_)
  · replace hP := zE_p hP h1
    refine wz_i0 (Eq.trans (i3NE (show (1 : Int32) = i3 1 from rfl) (show (1 : Int32) = i3 1 from rfl) (by omega) (by omega) (by omega) (by omega)) (decide_eq_false (by omega))) ?_
    exact zlGe (E := 23) hP ⟨hZ, zC_r, zU_r, zG_w (zG_k rfl) (Nat.le_of_ble_eq_true rfl) (Nat.le_of_ble_eq_true rfl)⟩
  · replace hP := zE_n hP h1
    have r2 := zH_k hZ 11 0 0 8 (lo := 0) (hi := 4) (by decide) rfl
    refine wz_br (i3L (rfl : i3 a1 = i3 a1) (zm_rd (Z := Z) (ν := ν) (k := 11) (show ((0 : Nat) : Int) = 0 from rfl) (show ((0 : Nat) : Int) = 0 from rfl) (show ((8 : Nat) : Int) = 8 from rfl)) (by omega) (by omega) (by omega) (by omega)) (fun h3 => ?_) (fun h3 => ?_)
    · replace hP := zE_p hP h3
      refine wz_br (i3E (rfl : i3 a2 = i3 a2) (show (-1 : Int32) = i3 (-1) from rfl) (by omega) (by omega) (by omega) (by omega)) (fun h4 => ?_) (fun h4 => ?_)
      · replace hP := zE_p hP h4
        refine wz_i0 (i3O (n := 4) (rfl : i3 a1 = i3 a1) (by omega) (by omega) (by omega)) ?_
        have r5 := zH_k hZ 50 0 a1 2 (lo := 0) (hi := 1) (by decide) rfl
        refine wz_br (i3NE (zm_rd (Z := Z) (ν := ν) (k := 50) (show ((0 : Nat) : Int) = 0 from rfl) (i3I (y := a1) (rfl : i3 a1 = i3 a1) (by omega) (by omega) (by omega)) (show ((2 : Nat) : Int) = 2 from rfl)) (show (0 : Int32) = i3 0 from rfl) (by omega) (by omega) (by omega) (by omega)) (fun h6 => ?_) (fun h6 => ?_)
        · replace hP := zE_p hP h6
          refine wz_i1 (Eq.trans (i3NE (show (3 : Int32) = i3 3 from rfl) (show (1 : Int32) = i3 1 from rfl) (by omega) (by omega) (by omega) (by omega)) (decide_eq_true (by omega))) ?_
          refine wz_i1 (Eq.trans (i3NE (show (3 : Int32) = i3 3 from rfl) (show (2 : Int32) = i3 2 from rfl) (by omega) (by omega) (by omega) (by omega)) (decide_eq_true (by omega))) ?_
          refine wz_i0 (Eq.trans (i3NE (show (3 : Int32) = i3 3 from rfl) (show (3 : Int32) = i3 3 from rfl) (by omega) (by omega) (by omega) (by omega)) (decide_eq_false (by omega))) ?_
          exact zlGe (E := 14) hP ⟨hZ, zC_r, zU_r, zG_w (zG_k rfl) (Nat.le_of_ble_eq_true rfl) (Nat.le_of_ble_eq_true rfl)⟩
        · replace hP := zE_n hP h6
          refine wz_i1 (Eq.trans (i3NE (show (0 : Int32) = i3 0 from rfl) (show (1 : Int32) = i3 1 from rfl) (by omega) (by omega) (by omega) (by omega)) (decide_eq_true (by omega))) ?_
          refine wz_i1 (Eq.trans (i3NE (show (0 : Int32) = i3 0 from rfl) (show (2 : Int32) = i3 2 from rfl) (by omega) (by omega) (by omega) (by omega)) (decide_eq_true (by omega))) ?_
          refine wz_i1 (Eq.trans (i3NE (show (0 : Int32) = i3 0 from rfl) (show (3 : Int32) = i3 3 from rfl) (by omega) (by omega) (by omega) (by omega)) (decide_eq_true (by omega))) ?_
          refine dc_J (zcons rfl (zcons (zvi (show (21 : Int32) = i3 21 from rfl)) (zcons (zvi (rfl : i3 a1 = i3 a1)) (zcons (zvi (rfl : i3 a2 = i3 a2)) (zcons (zvi (show (0 : Int32) = i3 0 from rfl)) (zcons (zvi (show (0 : Int32) = i3 0 from rfl)) (zcons (zvi (show (0 : Int32) = i3 0 from rfl)) (zcons (zvi (show (0 : Int32) = i3 0 from rfl)) rfl)))))))) (dg (hZ).1 (by omega) (by omega) (by omega) (by omega) (by omega) (by omega) (by omega) ?_)
          have hZ7I := zH_dd hZ (a1 := 21) (a2 := a1) (a3 := a2) (a4 := 0) (a5 := 0) (a6 := 0) (a7 := 0) (by omega) (by omega) (by omega) (by omega) (by omega) (by omega) (by omega)
          have kZ7 : zC [3, 12, 13, 14, 40, 41, 42, 43, 44, 45, 46, 47, 48, 49, 50, 51, 52, 53, 54, 61, 68, 1099, 1100, 1101, 1102, 1103, 1104, 1105, 1106, 1107, 1108, 1109, 1110, 1111, 1112, 1113, 1114, 1115, 1116] Z (zdd Z 21 a1 a2 0 0 0 0) := zC_k zdd_K (by decide) (by decide)
          have hZ7A : (zdd Z 21 a1 a2 0 0 0 0) 68 0 0 0 = 21 ∧ (zdd Z 21 a1 a2 0 0 0 0) 68 0 0 1 = a1 ∧ (zdd Z 21 a1 a2 0 0 0 0) 68 0 0 2 = a2 ∧ (zdd Z 21 a1 a2 0 0 0 0) 68 0 0 3 = 0 ∧ (zdd Z 21 a1 a2 0 0 0 0) 68 0 0 4 = 0 ∧ (zdd Z 21 a1 a2 0 0 0 0) 68 0 0 5 = 0 ∧ (zdd Z 21 a1 a2 0 0 0 0) 68 0 0 6 = 0 := ⟨zdd_68, zdd_68, zdd_68, zdd_68, zdd_68, zdd_68, zdd_68⟩
          obtain ⟨Z7, hZ7⟩ := zx (zdd Z 21 a1 a2 0 0 0 0)
          have dZ7 : ∀ {k : Nat} {i j : Int}, zhall k = true → ¬ (k = 11 ∧ (j = 15 ∨ j = 16)) → Z7 k 0 i j = Z k 0 i j := fun hk hj => by rw [hZ7]; exact zdd_h (hZ).1 hk hj
          have jZ7 : zU [0, 2, 3, 4, 5, 6, 7, 8, 9] Z (zdd Z 21 a1 a2 0 0 0 0) := zU_dd (hZ).1
          rw [← hZ7] at hZ7I kZ7 jZ7 hZ7A ⊢
          have hZ7U : zU [0, 2, 3, 4, 5, 6, 7, 8, 9] Z Z7 := zU_t zU_r jZ7 (zU_b1 (List.Mem.head _) (zU_b1 (List.Mem.tail _ (List.Mem.head _)) (zU_b1 (List.Mem.tail _ (List.Mem.tail _ (List.Mem.head _))) (zU_b1 (List.Mem.tail _ (List.Mem.tail _ (List.Mem.tail _ (List.Mem.head _)))) (zU_b1 (List.Mem.tail _ (List.Mem.tail _ (List.Mem.tail _ (List.Mem.tail _ (List.Mem.head _))))) (zU_b1 (List.Mem.tail _ (List.Mem.tail _ (List.Mem.tail _ (List.Mem.tail _ (List.Mem.tail _ (List.Mem.head _)))))) (zU_b1 (List.Mem.tail _ (List.Mem.tail _ (List.Mem.tail _ (List.Mem.tail _ (List.Mem.tail _ (List.Mem.tail _ (List.Mem.head _))))))) (zU_b1 (List.Mem.tail _ (List.Mem.tail _ (List.Mem.tail _ (List.Mem.tail _ (List.Mem.tail _ (List.Mem.tail _ (List.Mem.tail _ (List.Mem.head _)))))))) (zU_b1 (List.Mem.tail _ (List.Mem.tail _ (List.Mem.tail _ (List.Mem.tail _ (List.Mem.tail _ (List.Mem.tail _ (List.Mem.tail _ (List.Mem.tail _ (List.Mem.head _))))))))) zU_b0)))))))))
          replace hP := zl_e hP hZ7
          have hZ7K : zC [3, 12, 13, 14, 40, 41, 42, 43, 44, 45, 46, 47, 48, 49, 50, 51, 52, 53, 54, 61, 68, 1099, 1100, 1101, 1102, 1103, 1104, 1105, 1106, 1107, 1108, 1109, 1110, 1111, 1112, 1113, 1114, 1115, 1116] Z Z7 := zC_t zC_r kZ7 (by decide)
          clear kZ7 hZ7
          refine fw_121 _ _ _ _ ?_
          refine wz_i1 rfl ?_
          refine wz_i0 (i3O (n := 7) (show (0 : Int32) = i3 0 from rfl) (by omega) (by omega) (by omega)) ?_
          refine wz_i0 (Eq.trans (i3To (Eq.trans (zm_rd (Z := Z7) (ν := ν) (k := 68) (show ((0 : Nat) : Int) = 0 from rfl) (show ((0 : Nat) : Int) = 0 from rfl) (show ((0 : Nat) : Int) = 0 from rfl)) (congrArg i3 ((hZ7A.1)))) (by omega) (by omega)) (decide_eq_false (by omega))) ?_
          refine wz_i0 (Eq.trans (i3T (Eq.trans (zm_rd (Z := Z7) (ν := ν) (k := 68) (show ((0 : Nat) : Int) = 0 from rfl) (show ((0 : Nat) : Int) = 0 from rfl) (show ((0 : Nat) : Int) = 0 from rfl)) (congrArg i3 ((hZ7A.1)))) (by omega) (by omega)) (decide_eq_false (by omega))) ?_
          refine wz_i0 (Eq.trans (i3T (Eq.trans (zm_rd (Z := Z7) (ν := ν) (k := 68) (show ((0 : Nat) : Int) = 0 from rfl) (show ((0 : Nat) : Int) = 0 from rfl) (show ((0 : Nat) : Int) = 0 from rfl)) (congrArg i3 ((hZ7A.1)))) (by omega) (by omega)) (decide_eq_false (by omega))) ?_
          refine wz_i0 (Eq.trans (i3T (Eq.trans (zm_rd (Z := Z7) (ν := ν) (k := 68) (show ((0 : Nat) : Int) = 0 from rfl) (show ((0 : Nat) : Int) = 0 from rfl) (show ((0 : Nat) : Int) = 0 from rfl)) (congrArg i3 ((hZ7A.1)))) (by omega) (by omega)) (decide_eq_false (by omega))) ?_
          refine wz_i0 (Eq.trans (i3T (Eq.trans (zm_rd (Z := Z7) (ν := ν) (k := 68) (show ((0 : Nat) : Int) = 0 from rfl) (show ((0 : Nat) : Int) = 0 from rfl) (show ((0 : Nat) : Int) = 0 from rfl)) (congrArg i3 ((hZ7A.1)))) (by omega) (by omega)) (decide_eq_false (by omega))) ?_
          refine wz_i0 (Eq.trans (i3T (Eq.trans (zm_rd (Z := Z7) (ν := ν) (k := 68) (show ((0 : Nat) : Int) = 0 from rfl) (show ((0 : Nat) : Int) = 0 from rfl) (show ((0 : Nat) : Int) = 0 from rfl)) (congrArg i3 ((hZ7A.1)))) (by omega) (by omega)) (decide_eq_false (by omega))) ?_
          refine wz_i0 (Eq.trans (i3T (Eq.trans (zm_rd (Z := Z7) (ν := ν) (k := 68) (show ((0 : Nat) : Int) = 0 from rfl) (show ((0 : Nat) : Int) = 0 from rfl) (show ((0 : Nat) : Int) = 0 from rfl)) (congrArg i3 ((hZ7A.1)))) (by omega) (by omega)) (decide_eq_false (by omega))) ?_
          refine wz_i0 (Eq.trans (i3T (Eq.trans (zm_rd (Z := Z7) (ν := ν) (k := 68) (show ((0 : Nat) : Int) = 0 from rfl) (show ((0 : Nat) : Int) = 0 from rfl) (show ((0 : Nat) : Int) = 0 from rfl)) (congrArg i3 ((hZ7A.1)))) (by omega) (by omega)) (decide_eq_false (by omega))) ?_
          refine wz_i0 (Eq.trans (i3T (Eq.trans (zm_rd (Z := Z7) (ν := ν) (k := 68) (show ((0 : Nat) : Int) = 0 from rfl) (show ((0 : Nat) : Int) = 0 from rfl) (show ((0 : Nat) : Int) = 0 from rfl)) (congrArg i3 ((hZ7A.1)))) (by omega) (by omega)) (decide_eq_false (by omega))) ?_
          refine wz_i0 (Eq.trans (i3T (Eq.trans (zm_rd (Z := Z7) (ν := ν) (k := 68) (show ((0 : Nat) : Int) = 0 from rfl) (show ((0 : Nat) : Int) = 0 from rfl) (show ((0 : Nat) : Int) = 0 from rfl)) (congrArg i3 ((hZ7A.1)))) (by omega) (by omega)) (decide_eq_false (by omega))) ?_
          refine wz_i0 (Eq.trans (i3T (Eq.trans (zm_rd (Z := Z7) (ν := ν) (k := 68) (show ((0 : Nat) : Int) = 0 from rfl) (show ((0 : Nat) : Int) = 0 from rfl) (show ((0 : Nat) : Int) = 0 from rfl)) (congrArg i3 ((hZ7A.1)))) (by omega) (by omega)) (decide_eq_false (by omega))) ?_
          refine wz_i0 (Eq.trans (i3T (Eq.trans (zm_rd (Z := Z7) (ν := ν) (k := 68) (show ((0 : Nat) : Int) = 0 from rfl) (show ((0 : Nat) : Int) = 0 from rfl) (show ((0 : Nat) : Int) = 0 from rfl)) (congrArg i3 ((hZ7A.1)))) (by omega) (by omega)) (decide_eq_false (by omega))) ?_
          refine wz_i0 (Eq.trans (i3T (Eq.trans (zm_rd (Z := Z7) (ν := ν) (k := 68) (show ((0 : Nat) : Int) = 0 from rfl) (show ((0 : Nat) : Int) = 0 from rfl) (show ((0 : Nat) : Int) = 0 from rfl)) (congrArg i3 ((hZ7A.1)))) (by omega) (by omega)) (decide_eq_false (by omega))) ?_
          refine wz_i0 (Eq.trans (i3T (Eq.trans (zm_rd (Z := Z7) (ν := ν) (k := 68) (show ((0 : Nat) : Int) = 0 from rfl) (show ((0 : Nat) : Int) = 0 from rfl) (show ((0 : Nat) : Int) = 0 from rfl)) (congrArg i3 ((hZ7A.1)))) (by omega) (by omega)) (decide_eq_false (by omega))) ?_
          refine wz_i0 (Eq.trans (i3T (Eq.trans (zm_rd (Z := Z7) (ν := ν) (k := 68) (show ((0 : Nat) : Int) = 0 from rfl) (show ((0 : Nat) : Int) = 0 from rfl) (show ((0 : Nat) : Int) = 0 from rfl)) (congrArg i3 ((hZ7A.1)))) (by omega) (by omega)) (decide_eq_false (by omega))) ?_
          refine wz_i0 (Eq.trans (i3T (Eq.trans (zm_rd (Z := Z7) (ν := ν) (k := 68) (show ((0 : Nat) : Int) = 0 from rfl) (show ((0 : Nat) : Int) = 0 from rfl) (show ((0 : Nat) : Int) = 0 from rfl)) (congrArg i3 ((hZ7A.1)))) (by omega) (by omega)) (decide_eq_false (by omega))) ?_
          refine wz_i0 (Eq.trans (i3T (Eq.trans (zm_rd (Z := Z7) (ν := ν) (k := 68) (show ((0 : Nat) : Int) = 0 from rfl) (show ((0 : Nat) : Int) = 0 from rfl) (show ((0 : Nat) : Int) = 0 from rfl)) (congrArg i3 ((hZ7A.1)))) (by omega) (by omega)) (decide_eq_false (by omega))) ?_
          refine wz_i0 (Eq.trans (i3T (Eq.trans (zm_rd (Z := Z7) (ν := ν) (k := 68) (show ((0 : Nat) : Int) = 0 from rfl) (show ((0 : Nat) : Int) = 0 from rfl) (show ((0 : Nat) : Int) = 0 from rfl)) (congrArg i3 ((hZ7A.1)))) (by omega) (by omega)) (decide_eq_false (by omega))) ?_
          refine wz_i0 (Eq.trans (i3T (Eq.trans (zm_rd (Z := Z7) (ν := ν) (k := 68) (show ((0 : Nat) : Int) = 0 from rfl) (show ((0 : Nat) : Int) = 0 from rfl) (show ((0 : Nat) : Int) = 0 from rfl)) (congrArg i3 ((hZ7A.1)))) (by omega) (by omega)) (decide_eq_false (by omega))) ?_
          refine wz_i0 (Eq.trans (i3T (Eq.trans (zm_rd (Z := Z7) (ν := ν) (k := 68) (show ((0 : Nat) : Int) = 0 from rfl) (show ((0 : Nat) : Int) = 0 from rfl) (show ((0 : Nat) : Int) = 0 from rfl)) (congrArg i3 ((hZ7A.1)))) (by omega) (by omega)) (decide_eq_false (by omega))) ?_
          refine wz_i0 (Eq.trans (i3T (Eq.trans (zm_rd (Z := Z7) (ν := ν) (k := 68) (show ((0 : Nat) : Int) = 0 from rfl) (show ((0 : Nat) : Int) = 0 from rfl) (show ((0 : Nat) : Int) = 0 from rfl)) (congrArg i3 ((hZ7A.1)))) (by omega) (by omega)) (decide_eq_false (by omega))) ?_
          refine wz_i0 (Eq.trans (i3T (Eq.trans (zm_rd (Z := Z7) (ν := ν) (k := 68) (show ((0 : Nat) : Int) = 0 from rfl) (show ((0 : Nat) : Int) = 0 from rfl) (show ((0 : Nat) : Int) = 0 from rfl)) (congrArg i3 ((hZ7A.1)))) (by omega) (by omega)) (decide_eq_false (by omega))) ?_
          refine wz_i1 (Eq.trans (i3T (Eq.trans (zm_rd (Z := Z7) (ν := ν) (k := 68) (show ((0 : Nat) : Int) = 0 from rfl) (show ((0 : Nat) : Int) = 0 from rfl) (show ((0 : Nat) : Int) = 0 from rfl)) (congrArg i3 ((hZ7A.1)))) (by omega) (by omega)) (decide_eq_true (by omega))) ?_
          refine wz_i1 rfl ?_
          refine wz_i0 (i3O (n := 7) (show (1 : Int32) = i3 1 from rfl) (by omega) (by omega) (by omega)) ?_
          refine wz_i0 (i3O (n := 4) (Eq.trans (zm_rd (Z := Z7) (ν := ν) (k := 68) (show ((0 : Nat) : Int) = 0 from rfl) (show ((0 : Nat) : Int) = 0 from rfl) (show ((1 : Nat) : Int) = 1 from rfl)) (congrArg i3 ((hZ7A.2.1)))) (by omega) (by omega) (by omega)) ?_
          refine wz_i1 rfl ?_
          refine wz_i0 (i3O (n := 7) (show (2 : Int32) = i3 2 from rfl) (by omega) (by omega) (by omega)) ?_
          obtain ⟨Z8, hZ8⟩ := zx (zu Z7 50 0 a1 3 a2)
          replace hP := zl_e hP hZ8
          have hZ8I := zH_u hZ7I hZ8 (lo := -1) (hi := 671) (by decide) rfl (by omega) ⟨by decide, by decide⟩ (Or.inl (by decide)) rfl
          have hZ8U : zU [0, 2, 3, 4, 5, 6, 7, 8, 9] Z Z8 := zU_u hZ7U hZ8 (Or.inr (List.Mem.head _))
          have hZ8K : zC [3, 12, 13, 14, 40, 41, 42, 43, 44, 45, 46, 47, 48, 49, 50, 51, 52, 53, 54, 61, 68, 1099, 1100, 1101, 1102, 1103, 1104, 1105, 1106, 1107, 1108, 1109, 1110, 1111, 1112, 1113, 1114, 1115, 1116] Z Z8 := zC_u hZ7K hZ8 (by decide)
          intro μ9 e9
          replace e9 := e9.trans (zm_wI (Z := Z7) (ν := ν) hZ8 (show ((0 : Nat) : Int) = 0 from rfl) (i3I (y := a1) (Eq.trans (zm_rd (Z := Z7) (ν := ν) (k := 68) (show ((0 : Nat) : Int) = 0 from rfl) (show ((0 : Nat) : Int) = 0 from rfl) (show ((1 : Nat) : Int) = 1 from rfl)) (congrArg i3 ((hZ7A.2.1)))) (by omega) (by omega) (by omega)) (show ((3 : Nat) : Int) = 3 from rfl) (Eq.trans (zm_rd (Z := Z7) (ν := ν) (k := 68) (show ((0 : Nat) : Int) = 0 from rfl) (show ((0 : Nat) : Int) = 0 from rfl) (show ((2 : Nat) : Int) = 2 from rfl)) (congrArg i3 ((hZ7A.2.2.1)))))
          subst e9
          have r9 := zH_k hZ7I 50 0 a1 3 (lo := -1) (hi := 671) (by decide) rfl
          exact zlG hP (zm_rd (Z := Z7) (ν := ν) (k := 50) (show ((0 : Nat) : Int) = 0 from rfl) (i3I (y := a1) (Eq.trans (zm_rd (Z := Z7) (ν := ν) (k := 68) (show ((0 : Nat) : Int) = 0 from rfl) (show ((0 : Nat) : Int) = 0 from rfl) (show ((1 : Nat) : Int) = 1 from rfl)) (congrArg i3 ((hZ7A.2.1)))) (by omega) (by omega) (by omega)) (show ((3 : Nat) : Int) = 3 from rfl)) ⟨hZ8I, hZ8K, hZ8U, zG_w zG_r (Nat.le_of_ble_eq_true rfl) (Nat.le_of_ble_eq_true rfl)⟩
      · replace hP := zE_n hP h4
        have r10 := zH_k hZ 11 0 0 13 (lo := 0) (hi := 671) (by decide) rfl
        refine wz_br (i3Le (rfl : i3 a2 = i3 a2) (zm_rd (Z := Z) (ν := ν) (k := 11) (show ((0 : Nat) : Int) = 0 from rfl) (show ((0 : Nat) : Int) = 0 from rfl) (show ((13 : Nat) : Int) = 13 from rfl)) (by omega) (by omega) (by omega) (by omega)) (fun h11 => ?_) (fun h11 => ?_)
        · replace hP := zE_p hP h11
          refine wz_i1 (Eq.trans (i3NE (show (2 : Int32) = i3 2 from rfl) (show (1 : Int32) = i3 1 from rfl) (by omega) (by omega) (by omega) (by omega)) (decide_eq_true (by omega))) ?_
          refine wz_i0 (Eq.trans (i3NE (show (2 : Int32) = i3 2 from rfl) (show (2 : Int32) = i3 2 from rfl) (by omega) (by omega) (by omega) (by omega)) (decide_eq_false (by omega))) ?_
          exact zlGe (E := 12) hP ⟨hZ, zC_r, zU_r, zG_w (zG_k rfl) (Nat.le_of_ble_eq_true rfl) (Nat.le_of_ble_eq_true rfl)⟩
        · replace hP := zE_n hP h11
          refine wz_br (i3Le (rfl : i3 a2 = i3 a2) (show (671 : Int32) = i3 671 from rfl) (by omega) (by omega) (by omega) (by omega)) (fun h12 => ?_) (fun h12 => ?_)
          · replace hP := zE_p hP h12
            refine wz_i0 (i3O (n := 4) (rfl : i3 a1 = i3 a1) (by omega) (by omega) (by omega)) ?_
            have r13 := zH_k hZ 50 0 a1 2 (lo := 0) (hi := 1) (by decide) rfl
            refine wz_br (i3NE (zm_rd (Z := Z) (ν := ν) (k := 50) (show ((0 : Nat) : Int) = 0 from rfl) (i3I (y := a1) (rfl : i3 a1 = i3 a1) (by omega) (by omega) (by omega)) (show ((2 : Nat) : Int) = 2 from rfl)) (show (0 : Int32) = i3 0 from rfl) (by omega) (by omega) (by omega) (by omega)) (fun h14 => ?_) (fun h14 => ?_)
            · replace hP := zE_p hP h14
              refine wz_i1 (Eq.trans (i3NE (show (3 : Int32) = i3 3 from rfl) (show (1 : Int32) = i3 1 from rfl) (by omega) (by omega) (by omega) (by omega)) (decide_eq_true (by omega))) ?_
              refine wz_i1 (Eq.trans (i3NE (show (3 : Int32) = i3 3 from rfl) (show (2 : Int32) = i3 2 from rfl) (by omega) (by omega) (by omega) (by omega)) (decide_eq_true (by omega))) ?_
              refine wz_i0 (Eq.trans (i3NE (show (3 : Int32) = i3 3 from rfl) (show (3 : Int32) = i3 3 from rfl) (by omega) (by omega) (by omega) (by omega)) (decide_eq_false (by omega))) ?_
              exact zlGe (E := 14) hP ⟨hZ, zC_r, zU_r, zG_w (zG_k rfl) (Nat.le_of_ble_eq_true rfl) (Nat.le_of_ble_eq_true rfl)⟩
            · replace hP := zE_n hP h14
              refine wz_i1 (Eq.trans (i3NE (show (0 : Int32) = i3 0 from rfl) (show (1 : Int32) = i3 1 from rfl) (by omega) (by omega) (by omega) (by omega)) (decide_eq_true (by omega))) ?_
              refine wz_i1 (Eq.trans (i3NE (show (0 : Int32) = i3 0 from rfl) (show (2 : Int32) = i3 2 from rfl) (by omega) (by omega) (by omega) (by omega)) (decide_eq_true (by omega))) ?_
              refine wz_i1 (Eq.trans (i3NE (show (0 : Int32) = i3 0 from rfl) (show (3 : Int32) = i3 3 from rfl) (by omega) (by omega) (by omega) (by omega)) (decide_eq_true (by omega))) ?_
              refine dc_J (zcons rfl (zcons (zvi (show (21 : Int32) = i3 21 from rfl)) (zcons (zvi (rfl : i3 a1 = i3 a1)) (zcons (zvi (rfl : i3 a2 = i3 a2)) (zcons (zvi (show (0 : Int32) = i3 0 from rfl)) (zcons (zvi (show (0 : Int32) = i3 0 from rfl)) (zcons (zvi (show (0 : Int32) = i3 0 from rfl)) (zcons (zvi (show (0 : Int32) = i3 0 from rfl)) rfl)))))))) (dg (hZ).1 (by omega) (by omega) (by omega) (by omega) (by omega) (by omega) (by omega) ?_)
              have hZ15I := zH_dd hZ (a1 := 21) (a2 := a1) (a3 := a2) (a4 := 0) (a5 := 0) (a6 := 0) (a7 := 0) (by omega) (by omega) (by omega) (by omega) (by omega) (by omega) (by omega)
              have kZ15 : zC [3, 12, 13, 14, 40, 41, 42, 43, 44, 45, 46, 47, 48, 49, 50, 51, 52, 53, 54, 61, 68, 1099, 1100, 1101, 1102, 1103, 1104, 1105, 1106, 1107, 1108, 1109, 1110, 1111, 1112, 1113, 1114, 1115, 1116] Z (zdd Z 21 a1 a2 0 0 0 0) := zC_k zdd_K (by decide) (by decide)
              have hZ15A : (zdd Z 21 a1 a2 0 0 0 0) 68 0 0 0 = 21 ∧ (zdd Z 21 a1 a2 0 0 0 0) 68 0 0 1 = a1 ∧ (zdd Z 21 a1 a2 0 0 0 0) 68 0 0 2 = a2 ∧ (zdd Z 21 a1 a2 0 0 0 0) 68 0 0 3 = 0 ∧ (zdd Z 21 a1 a2 0 0 0 0) 68 0 0 4 = 0 ∧ (zdd Z 21 a1 a2 0 0 0 0) 68 0 0 5 = 0 ∧ (zdd Z 21 a1 a2 0 0 0 0) 68 0 0 6 = 0 := ⟨zdd_68, zdd_68, zdd_68, zdd_68, zdd_68, zdd_68, zdd_68⟩
              obtain ⟨Z15, hZ15⟩ := zx (zdd Z 21 a1 a2 0 0 0 0)
              have dZ15 : ∀ {k : Nat} {i j : Int}, zhall k = true → ¬ (k = 11 ∧ (j = 15 ∨ j = 16)) → Z15 k 0 i j = Z k 0 i j := fun hk hj => by rw [hZ15]; exact zdd_h (hZ).1 hk hj
              have jZ15 : zU [0, 2, 3, 4, 5, 6, 7, 8, 9] Z (zdd Z 21 a1 a2 0 0 0 0) := zU_dd (hZ).1
              rw [← hZ15] at hZ15I kZ15 jZ15 hZ15A ⊢
              have hZ15U : zU [0, 2, 3, 4, 5, 6, 7, 8, 9] Z Z15 := zU_t zU_r jZ15 (zU_b1 (List.Mem.head _) (zU_b1 (List.Mem.tail _ (List.Mem.head _)) (zU_b1 (List.Mem.tail _ (List.Mem.tail _ (List.Mem.head _))) (zU_b1 (List.Mem.tail _ (List.Mem.tail _ (List.Mem.tail _ (List.Mem.head _)))) (zU_b1 (List.Mem.tail _ (List.Mem.tail _ (List.Mem.tail _ (List.Mem.tail _ (List.Mem.head _))))) (zU_b1 (List.Mem.tail _ (List.Mem.tail _ (List.Mem.tail _ (List.Mem.tail _ (List.Mem.tail _ (List.Mem.head _)))))) (zU_b1 (List.Mem.tail _ (List.Mem.tail _ (List.Mem.tail _ (List.Mem.tail _ (List.Mem.tail _ (List.Mem.tail _ (List.Mem.head _))))))) (zU_b1 (List.Mem.tail _ (List.Mem.tail _ (List.Mem.tail _ (List.Mem.tail _ (List.Mem.tail _ (List.Mem.tail _ (List.Mem.tail _ (List.Mem.head _)))))))) (zU_b1 (List.Mem.tail _ (List.Mem.tail _ (List.Mem.tail _ (List.Mem.tail _ (List.Mem.tail _ (List.Mem.tail _ (List.Mem.tail _ (List.Mem.tail _ (List.Mem.head _))))))))) zU_b0)))))))))
              replace hP := zl_e hP hZ15
              have hZ15K : zC [3, 12, 13, 14, 40, 41, 42, 43, 44, 45, 46, 47, 48, 49, 50, 51, 52, 53, 54, 61, 68, 1099, 1100, 1101, 1102, 1103, 1104, 1105, 1106, 1107, 1108, 1109, 1110, 1111, 1112, 1113, 1114, 1115, 1116] Z Z15 := zC_t zC_r kZ15 (by decide)
              clear kZ15 hZ15
              refine fw_121 _ _ _ _ ?_
              refine wz_i1 rfl ?_
              refine wz_i0 (i3O (n := 7) (show (0 : Int32) = i3 0 from rfl) (by omega) (by omega) (by omega)) ?_
              refine wz_i0 (Eq.trans (i3To (Eq.trans (zm_rd (Z := Z15) (ν := ν) (k := 68) (show ((0 : Nat) : Int) = 0 from rfl) (show ((0 : Nat) : Int) = 0 from rfl) (show ((0 : Nat) : Int) = 0 from rfl)) (congrArg i3 ((hZ15A.1)))) (by omega) (by omega)) (decide_eq_false (by omega))) ?_
              refine wz_i0 (Eq.trans (i3T (Eq.trans (zm_rd (Z := Z15) (ν := ν) (k := 68) (show ((0 : Nat) : Int) = 0 from rfl) (show ((0 : Nat) : Int) = 0 from rfl) (show ((0 : Nat) : Int) = 0 from rfl)) (congrArg i3 ((hZ15A.1)))) (by omega) (by omega)) (decide_eq_false (by omega))) ?_
              refine wz_i0 (Eq.trans (i3T (Eq.trans (zm_rd (Z := Z15) (ν := ν) (k := 68) (show ((0 : Nat) : Int) = 0 from rfl) (show ((0 : Nat) : Int) = 0 from rfl) (show ((0 : Nat) : Int) = 0 from rfl)) (congrArg i3 ((hZ15A.1)))) (by omega) (by omega)) (decide_eq_false (by omega))) ?_
              refine wz_i0 (Eq.trans (i3T (Eq.trans (zm_rd (Z := Z15) (ν := ν) (k := 68) (show ((0 : Nat) : Int) = 0 from rfl) (show ((0 : Nat) : Int) = 0 from rfl) (show ((0 : Nat) : Int) = 0 from rfl)) (congrArg i3 ((hZ15A.1)))) (by omega) (by omega)) (decide_eq_false (by omega))) ?_
              refine wz_i0 (Eq.trans (i3T (Eq.trans (zm_rd (Z := Z15) (ν := ν) (k := 68) (show ((0 : Nat) : Int) = 0 from rfl) (show ((0 : Nat) : Int) = 0 from rfl) (show ((0 : Nat) : Int) = 0 from rfl)) (congrArg i3 ((hZ15A.1)))) (by omega) (by omega)) (decide_eq_false (by omega))) ?_
              refine wz_i0 (Eq.trans (i3T (Eq.trans (zm_rd (Z := Z15) (ν := ν) (k := 68) (show ((0 : Nat) : Int) = 0 from rfl) (show ((0 : Nat) : Int) = 0 from rfl) (show ((0 : Nat) : Int) = 0 from rfl)) (congrArg i3 ((hZ15A.1)))) (by omega) (by omega)) (decide_eq_false (by omega))) ?_
              refine wz_i0 (Eq.trans (i3T (Eq.trans (zm_rd (Z := Z15) (ν := ν) (k := 68) (show ((0 : Nat) : Int) = 0 from rfl) (show ((0 : Nat) : Int) = 0 from rfl) (show ((0 : Nat) : Int) = 0 from rfl)) (congrArg i3 ((hZ15A.1)))) (by omega) (by omega)) (decide_eq_false (by omega))) ?_
              refine wz_i0 (Eq.trans (i3T (Eq.trans (zm_rd (Z := Z15) (ν := ν) (k := 68) (show ((0 : Nat) : Int) = 0 from rfl) (show ((0 : Nat) : Int) = 0 from rfl) (show ((0 : Nat) : Int) = 0 from rfl)) (congrArg i3 ((hZ15A.1)))) (by omega) (by omega)) (decide_eq_false (by omega))) ?_
              refine wz_i0 (Eq.trans (i3T (Eq.trans (zm_rd (Z := Z15) (ν := ν) (k := 68) (show ((0 : Nat) : Int) = 0 from rfl) (show ((0 : Nat) : Int) = 0 from rfl) (show ((0 : Nat) : Int) = 0 from rfl)) (congrArg i3 ((hZ15A.1)))) (by omega) (by omega)) (decide_eq_false (by omega))) ?_
              refine wz_i0 (Eq.trans (i3T (Eq.trans (zm_rd (Z := Z15) (ν := ν) (k := 68) (show ((0 : Nat) : Int) = 0 from rfl) (show ((0 : Nat) : Int) = 0 from rfl) (show ((0 : Nat) : Int) = 0 from rfl)) (congrArg i3 ((hZ15A.1)))) (by omega) (by omega)) (decide_eq_false (by omega))) ?_
              refine wz_i0 (Eq.trans (i3T (Eq.trans (zm_rd (Z := Z15) (ν := ν) (k := 68) (show ((0 : Nat) : Int) = 0 from rfl) (show ((0 : Nat) : Int) = 0 from rfl) (show ((0 : Nat) : Int) = 0 from rfl)) (congrArg i3 ((hZ15A.1)))) (by omega) (by omega)) (decide_eq_false (by omega))) ?_
              refine wz_i0 (Eq.trans (i3T (Eq.trans (zm_rd (Z := Z15) (ν := ν) (k := 68) (show ((0 : Nat) : Int) = 0 from rfl) (show ((0 : Nat) : Int) = 0 from rfl) (show ((0 : Nat) : Int) = 0 from rfl)) (congrArg i3 ((hZ15A.1)))) (by omega) (by omega)) (decide_eq_false (by omega))) ?_
              refine wz_i0 (Eq.trans (i3T (Eq.trans (zm_rd (Z := Z15) (ν := ν) (k := 68) (show ((0 : Nat) : Int) = 0 from rfl) (show ((0 : Nat) : Int) = 0 from rfl) (show ((0 : Nat) : Int) = 0 from rfl)) (congrArg i3 ((hZ15A.1)))) (by omega) (by omega)) (decide_eq_false (by omega))) ?_
              refine wz_i0 (Eq.trans (i3T (Eq.trans (zm_rd (Z := Z15) (ν := ν) (k := 68) (show ((0 : Nat) : Int) = 0 from rfl) (show ((0 : Nat) : Int) = 0 from rfl) (show ((0 : Nat) : Int) = 0 from rfl)) (congrArg i3 ((hZ15A.1)))) (by omega) (by omega)) (decide_eq_false (by omega))) ?_
              refine wz_i0 (Eq.trans (i3T (Eq.trans (zm_rd (Z := Z15) (ν := ν) (k := 68) (show ((0 : Nat) : Int) = 0 from rfl) (show ((0 : Nat) : Int) = 0 from rfl) (show ((0 : Nat) : Int) = 0 from rfl)) (congrArg i3 ((hZ15A.1)))) (by omega) (by omega)) (decide_eq_false (by omega))) ?_
              refine wz_i0 (Eq.trans (i3T (Eq.trans (zm_rd (Z := Z15) (ν := ν) (k := 68) (show ((0 : Nat) : Int) = 0 from rfl) (show ((0 : Nat) : Int) = 0 from rfl) (show ((0 : Nat) : Int) = 0 from rfl)) (congrArg i3 ((hZ15A.1)))) (by omega) (by omega)) (decide_eq_false (by omega))) ?_
              refine wz_i0 (Eq.trans (i3T (Eq.trans (zm_rd (Z := Z15) (ν := ν) (k := 68) (show ((0 : Nat) : Int) = 0 from rfl) (show ((0 : Nat) : Int) = 0 from rfl) (show ((0 : Nat) : Int) = 0 from rfl)) (congrArg i3 ((hZ15A.1)))) (by omega) (by omega)) (decide_eq_false (by omega))) ?_
              refine wz_i0 (Eq.trans (i3T (Eq.trans (zm_rd (Z := Z15) (ν := ν) (k := 68) (show ((0 : Nat) : Int) = 0 from rfl) (show ((0 : Nat) : Int) = 0 from rfl) (show ((0 : Nat) : Int) = 0 from rfl)) (congrArg i3 ((hZ15A.1)))) (by omega) (by omega)) (decide_eq_false (by omega))) ?_
              refine wz_i0 (Eq.trans (i3T (Eq.trans (zm_rd (Z := Z15) (ν := ν) (k := 68) (show ((0 : Nat) : Int) = 0 from rfl) (show ((0 : Nat) : Int) = 0 from rfl) (show ((0 : Nat) : Int) = 0 from rfl)) (congrArg i3 ((hZ15A.1)))) (by omega) (by omega)) (decide_eq_false (by omega))) ?_
              refine wz_i0 (Eq.trans (i3T (Eq.trans (zm_rd (Z := Z15) (ν := ν) (k := 68) (show ((0 : Nat) : Int) = 0 from rfl) (show ((0 : Nat) : Int) = 0 from rfl) (show ((0 : Nat) : Int) = 0 from rfl)) (congrArg i3 ((hZ15A.1)))) (by omega) (by omega)) (decide_eq_false (by omega))) ?_
              refine wz_i0 (Eq.trans (i3T (Eq.trans (zm_rd (Z := Z15) (ν := ν) (k := 68) (show ((0 : Nat) : Int) = 0 from rfl) (show ((0 : Nat) : Int) = 0 from rfl) (show ((0 : Nat) : Int) = 0 from rfl)) (congrArg i3 ((hZ15A.1)))) (by omega) (by omega)) (decide_eq_false (by omega))) ?_
              refine wz_i0 (Eq.trans (i3T (Eq.trans (zm_rd (Z := Z15) (ν := ν) (k := 68) (show ((0 : Nat) : Int) = 0 from rfl) (show ((0 : Nat) : Int) = 0 from rfl) (show ((0 : Nat) : Int) = 0 from rfl)) (congrArg i3 ((hZ15A.1)))) (by omega) (by omega)) (decide_eq_false (by omega))) ?_
              refine wz_i1 (Eq.trans (i3T (Eq.trans (zm_rd (Z := Z15) (ν := ν) (k := 68) (show ((0 : Nat) : Int) = 0 from rfl) (show ((0 : Nat) : Int) = 0 from rfl) (show ((0 : Nat) : Int) = 0 from rfl)) (congrArg i3 ((hZ15A.1)))) (by omega) (by omega)) (decide_eq_true (by omega))) ?_
              refine wz_i1 rfl ?_
              refine wz_i0 (i3O (n := 7) (show (1 : Int32) = i3 1 from rfl) (by omega) (by omega) (by omega)) ?_
              refine wz_i0 (i3O (n := 4) (Eq.trans (zm_rd (Z := Z15) (ν := ν) (k := 68) (show ((0 : Nat) : Int) = 0 from rfl) (show ((0 : Nat) : Int) = 0 from rfl) (show ((1 : Nat) : Int) = 1 from rfl)) (congrArg i3 ((hZ15A.2.1)))) (by omega) (by omega) (by omega)) ?_
              refine wz_i1 rfl ?_
              refine wz_i0 (i3O (n := 7) (show (2 : Int32) = i3 2 from rfl) (by omega) (by omega) (by omega)) ?_
              obtain ⟨Z16, hZ16⟩ := zx (zu Z15 50 0 a1 3 a2)
              replace hP := zl_e hP hZ16
              have hZ16I := zH_u hZ15I hZ16 (lo := -1) (hi := 671) (by decide) rfl (by omega) ⟨by decide, by decide⟩ (Or.inl (by decide)) rfl
              have hZ16U : zU [0, 2, 3, 4, 5, 6, 7, 8, 9] Z Z16 := zU_u hZ15U hZ16 (Or.inr (List.Mem.head _))
              have hZ16K : zC [3, 12, 13, 14, 40, 41, 42, 43, 44, 45, 46, 47, 48, 49, 50, 51, 52, 53, 54, 61, 68, 1099, 1100, 1101, 1102, 1103, 1104, 1105, 1106, 1107, 1108, 1109, 1110, 1111, 1112, 1113, 1114, 1115, 1116] Z Z16 := zC_u hZ15K hZ16 (by decide)
              intro μ9 e9
              replace e9 := e9.trans (zm_wI (Z := Z15) (ν := ν) hZ16 (show ((0 : Nat) : Int) = 0 from rfl) (i3I (y := a1) (Eq.trans (zm_rd (Z := Z15) (ν := ν) (k := 68) (show ((0 : Nat) : Int) = 0 from rfl) (show ((0 : Nat) : Int) = 0 from rfl) (show ((1 : Nat) : Int) = 1 from rfl)) (congrArg i3 ((hZ15A.2.1)))) (by omega) (by omega) (by omega)) (show ((3 : Nat) : Int) = 3 from rfl) (Eq.trans (zm_rd (Z := Z15) (ν := ν) (k := 68) (show ((0 : Nat) : Int) = 0 from rfl) (show ((0 : Nat) : Int) = 0 from rfl) (show ((2 : Nat) : Int) = 2 from rfl)) (congrArg i3 ((hZ15A.2.2.1)))))
              subst e9
              have r17 := zH_k hZ15I 50 0 a1 3 (lo := -1) (hi := 671) (by decide) rfl
              exact zlG hP (zm_rd (Z := Z15) (ν := ν) (k := 50) (show ((0 : Nat) : Int) = 0 from rfl) (i3I (y := a1) (Eq.trans (zm_rd (Z := Z15) (ν := ν) (k := 68) (show ((0 : Nat) : Int) = 0 from rfl) (show ((0 : Nat) : Int) = 0 from rfl) (show ((1 : Nat) : Int) = 1 from rfl)) (congrArg i3 ((hZ15A.2.1)))) (by omega) (by omega) (by omega)) (show ((3 : Nat) : Int) = 3 from rfl)) ⟨hZ16I, hZ16K, hZ16U, zG_w zG_r (Nat.le_of_ble_eq_true rfl) (Nat.le_of_ble_eq_true rfl)⟩
          · replace hP := zE_n hP h12
            refine wz_i1 (Eq.trans (i3NE (show (2 : Int32) = i3 2 from rfl) (show (1 : Int32) = i3 1 from rfl) (by omega) (by omega) (by omega) (by omega)) (decide_eq_true (by omega))) ?_
            refine wz_i0 (Eq.trans (i3NE (show (2 : Int32) = i3 2 from rfl) (show (2 : Int32) = i3 2 from rfl) (by omega) (by omega) (by omega) (by omega)) (decide_eq_false (by omega))) ?_
            exact zlGe (E := 12) hP ⟨hZ, zC_r, zU_r, zG_w (zG_k rfl) (Nat.le_of_ble_eq_true rfl) (Nat.le_of_ble_eq_true rfl)⟩
    · replace hP := zE_n hP h3
      refine wz_i0 (Eq.trans (i3NE (show (1 : Int32) = i3 1 from rfl) (show (1 : Int32) = i3 1 from rfl) (by omega) (by omega) (by omega) (by omega)) (decide_eq_false (by omega))) ?_
      exact zlGe (E := 23) hP ⟨hZ, zC_r, zU_r, zG_w (zG_k rfl) (Nat.le_of_ble_eq_true rfl) (Nat.le_of_ble_eq_true rfl)⟩
/- yX11_set -/
def zx_240 (Z : qz_Z) (a1 : Int) (a2 : Int) : qz_Z × Int × Int := (if 0 ≤ a1 ∧ a1 < (Z 11 0 0 2) then (if 0 ≤ a2 ∧ a2 ≤ 40 then (zlet (zdd Z 5 a1 a2 0 0 0 0) (fun Z4 => (zlet (zu Z4 43 0 a1 3 a2) (fun Z5 => (Z5, (Z4 43 0 a1 3), 0))))) else (Z, 0, 13)) else (Z, 0, 24))
theorem sx_240 {M : Nat} {Z : qz_Z} {ν : qz_N} (hZ : zH ((none, M) : zSM) Z) (hM : ((none, M) : zSM).2 + 0 ≤ 1000000000) {a1 : Int} (ga1 : -2147483648 ≤ a1 ∧ a1 ≤ 2147483647) {a2 : Int} (ga2 : -2147483648 ≤ a2 ∧ a2 ≤ 2147483647) : ∃ (Z1 : qz_Z) (ν1 : qz_N) (v E : Int), (Z1, v, E) = zx_240 Z a1 a2 ∧ qf_240 [.inr (.inr (some (0, 0, 0))), .inl (i3 a1), .inl (i3 a2)] (zm Z ν) = some (zm Z1 ν1, zoX v E) ∧ (fun Z1 ν1 => zH ((none, M) : zSM) Z1 ∧ zC [3, 12, 13, 14, 40, 41, 42, 43, 44, 45, 46, 47, 48, 49, 50, 51, 52, 53, 54, 61, 68, 1099, 1100, 1101, 1102, 1103, 1104, 1105, 1106, 1107, 1108, 1109, 1110, 1111, 1112, 1113, 1114, 1115, 1116] Z Z1 ∧ zU [0, 2, 3, 4, 5, 6, 7, 8, 9] Z Z1 ∧ zG 1 6 ν ν1) Z1 ν1 := by
  obtain ⟨P, hP⟩ := zx (zx_240 Z a1 a2)
  refine zc_G (Q := fun Z1 ν1 => zH ((none, M) : zSM) Z1 ∧ zC [3, 12, 13, 14, 40, 41, 42, 43, 44, 45, 46, 47, 48, 49, 50, 51, 52, 53, 54, 61, 68, 1099, 1100, 1101, 1102, 1103, 1104, 1105, 1106, 1107, 1108, 1109, 1110, 1111, 1112, 1113, 1114, 1115, 1116] Z Z1 ∧ zU [0, 2, 3, 4, 5, 6, 7, 8, 9] Z Z1 ∧ zG 1 6 ν ν1) hP (fw_240 (i3 a1) (i3 a2) _ _ ?_)
  replace hP : zE P (zx_240 Z a1 a2) := hP
  unfold zx_240 at hP
  have r1 := zH_k hZ 11 0 0 2 (lo := 0) (hi := 6) (by decide) rfl
  refine wz_thing (rfl : i3 a1 = i3 a1) (zm_rd (Z := Z) (ν := ν) (k := 11) (show ((0 : Nat) : Int) = 0 from rfl) (show ((0 : Nat) : Int) = 0 from rfl) (show ((2 : Nat) : Int) = 2 from rfl)) (by omega) (by omega) (by omega) (by omega) (fun h2 => ?_) (fun h2 => ?_)
  · replace hP := zE_p hP h2
    refine wz_inR (rfl : i3 a2 = i3 a2) (show (0 : Int32) = i3 0 from rfl) (show (40 : Int32) = i3 40 from rfl) (by omega) (by omega) (by omega) (by omega) (by omega) (by omega) (fun h3 => ?_) (fun h3 => ?_)
    · replace hP := zE_p hP h3
      refine dc_J (zcons rfl (zcons (zvi (show (5 : Int32) = i3 5 from rfl)) (zcons (zvi (rfl : i3 a1 = i3 a1)) (zcons (zvi (rfl : i3 a2 = i3 a2)) (zcons (zvi (show (0 : Int32) = i3 0 from rfl)) (zcons (zvi (show (0 : Int32) = i3 0 from rfl)) (zcons (zvi (show (0 : Int32) = i3 0 from rfl)) (zcons (zvi (show (0 : Int32) = i3 0 from rfl)) rfl)))))))) (dg (hZ).1 (by omega) (by omega) (by omega) (by omega) (by omega) (by omega) (by omega) ?_)
      have hZ4I := zH_dd hZ (a1 := 5) (a2 := a1) (a3 := a2) (a4 := 0) (a5 := 0) (a6 := 0) (a7 := 0) (by omega) (by omega) (by omega) (by omega) (by omega) (by omega) (by omega)
      have kZ4 : zC [3, 12, 13, 14, 40, 41, 42, 43, 44, 45, 46, 47, 48, 49, 50, 51, 52, 53, 54, 61, 68, 1099, 1100, 1101, 1102, 1103, 1104, 1105, 1106, 1107, 1108, 1109, 1110, 1111, 1112, 1113, 1114, 1115, 1116] Z (zdd Z 5 a1 a2 0 0 0 0) := zC_k zdd_K (by decide) (by decide)
      have hZ4A : (zdd Z 5 a1 a2 0 0 0 0) 68 0 0 0 = 5 ∧ (zdd Z 5 a1 a2 0 0 0 0) 68 0 0 1 = a1 ∧ (zdd Z 5 a1 a2 0 0 0 0) 68 0 0 2 = a2 ∧ (zdd Z 5 a1 a2 0 0 0 0) 68 0 0 3 = 0 ∧ (zdd Z 5 a1 a2 0 0 0 0) 68 0 0 4 = 0 ∧ (zdd Z 5 a1 a2 0 0 0 0) 68 0 0 5 = 0 ∧ (zdd Z 5 a1 a2 0 0 0 0) 68 0 0 6 = 0 := ⟨zdd_68, zdd_68, zdd_68, zdd_68, zdd_68, zdd_68, zdd_68⟩
      obtain ⟨Z4, hZ4⟩ := zx (zdd Z 5 a1 a2 0 0 0 0)
      have dZ4 : ∀ {k : Nat} {i j : Int}, zhall k = true → ¬ (k = 11 ∧ (j = 15 ∨ j = 16)) → Z4 k 0 i j = Z k 0 i j := fun hk hj => by rw [hZ4]; exact zdd_h (hZ).1 hk hj
      have jZ4 : zU [0, 2, 3, 4, 5, 6, 7, 8, 9] Z (zdd Z 5 a1 a2 0 0 0 0) := zU_dd (hZ).1
      rw [← hZ4] at hZ4I kZ4 jZ4 hZ4A ⊢
      have hZ4U : zU [0, 2, 3, 4, 5, 6, 7, 8, 9] Z Z4 := zU_t zU_r jZ4 (zU_b1 (List.Mem.head _) (zU_b1 (List.Mem.tail _ (List.Mem.head _)) (zU_b1 (List.Mem.tail _ (List.Mem.tail _ (List.Mem.head _))) (zU_b1 (List.Mem.tail _ (List.Mem.tail _ (List.Mem.tail _ (List.Mem.head _)))) (zU_b1 (List.Mem.tail _ (List.Mem.tail _ (List.Mem.tail _ (List.Mem.tail _ (List.Mem.head _))))) (zU_b1 (List.Mem.tail _ (List.Mem.tail _ (List.Mem.tail _ (List.Mem.tail _ (List.Mem.tail _ (List.Mem.head _)))))) (zU_b1 (List.Mem.tail _ (List.Mem.tail _ (List.Mem.tail _ (List.Mem.tail _ (List.Mem.tail _ (List.Mem.tail _ (List.Mem.head _))))))) (zU_b1 (List.Mem.tail _ (List.Mem.tail _ (List.Mem.tail _ (List.Mem.tail _ (List.Mem.tail _ (List.Mem.tail _ (List.Mem.tail _ (List.Mem.head _)))))))) (zU_b1 (List.Mem.tail _ (List.Mem.tail _ (List.Mem.tail _ (List.Mem.tail _ (List.Mem.tail _ (List.Mem.tail _ (List.Mem.tail _ (List.Mem.tail _ (List.Mem.head _))))))))) zU_b0)))))))))
      replace hP := zl_e hP hZ4
      have hZ4K : zC [3, 12, 13, 14, 40, 41, 42, 43, 44, 45, 46, 47, 48, 49, 50, 51, 52, 53, 54, 61, 68, 1099, 1100, 1101, 1102, 1103, 1104, 1105, 1106, 1107, 1108, 1109, 1110, 1111, 1112, 1113, 1114, 1115, 1116] Z Z4 := zC_t zC_r kZ4 (by decide)
      clear kZ4 hZ4
      refine fw_121 _ _ _ _ ?_
      refine wz_i1 rfl ?_
      refine wz_i0 (i3O (n := 7) (show (0 : Int32) = i3 0 from rfl) (by omega) (by omega) (by omega)) ?_
      refine wz_i0 (Eq.trans (i3To (Eq.trans (zm_rd (Z := Z4) (ν := ν) (k := 68) (show ((0 : Nat) : Int) = 0 from rfl) (show ((0 : Nat) : Int) = 0 from rfl) (show ((0 : Nat) : Int) = 0 from rfl)) (congrArg i3 ((hZ4A.1)))) (by omega) (by omega)) (decide_eq_false (by omega))) ?_
      refine wz_i0 (Eq.trans (i3T (Eq.trans (zm_rd (Z := Z4) (ν := ν) (k := 68) (show ((0 : Nat) : Int) = 0 from rfl) (show ((0 : Nat) : Int) = 0 from rfl) (show ((0 : Nat) : Int) = 0 from rfl)) (congrArg i3 ((hZ4A.1)))) (by omega) (by omega)) (decide_eq_false (by omega))) ?_
      refine wz_i0 (Eq.trans (i3T (Eq.trans (zm_rd (Z := Z4) (ν := ν) (k := 68) (show ((0 : Nat) : Int) = 0 from rfl) (show ((0 : Nat) : Int) = 0 from rfl) (show ((0 : Nat) : Int) = 0 from rfl)) (congrArg i3 ((hZ4A.1)))) (by omega) (by omega)) (decide_eq_false (by omega))) ?_
      refine wz_i0 (Eq.trans (i3T (Eq.trans (zm_rd (Z := Z4) (ν := ν) (k := 68) (show ((0 : Nat) : Int) = 0 from rfl) (show ((0 : Nat) : Int) = 0 from rfl) (show ((0 : Nat) : Int) = 0 from rfl)) (congrArg i3 ((hZ4A.1)))) (by omega) (by omega)) (decide_eq_false (by omega))) ?_
      refine wz_i0 (Eq.trans (i3T (Eq.trans (zm_rd (Z := Z4) (ν := ν) (k := 68) (show ((0 : Nat) : Int) = 0 from rfl) (show ((0 : Nat) : Int) = 0 from rfl) (show ((0 : Nat) : Int) = 0 from rfl)) (congrArg i3 ((hZ4A.1)))) (by omega) (by omega)) (decide_eq_false (by omega))) ?_
      refine wz_i0 (Eq.trans (i3T (Eq.trans (zm_rd (Z := Z4) (ν := ν) (k := 68) (show ((0 : Nat) : Int) = 0 from rfl) (show ((0 : Nat) : Int) = 0 from rfl) (show ((0 : Nat) : Int) = 0 from rfl)) (congrArg i3 ((hZ4A.1)))) (by omega) (by omega)) (decide_eq_false (by omega))) ?_
      refine wz_i1 (Eq.trans (i3T (Eq.trans (zm_rd (Z := Z4) (ν := ν) (k := 68) (show ((0 : Nat) : Int) = 0 from rfl) (show ((0 : Nat) : Int) = 0 from rfl) (show ((0 : Nat) : Int) = 0 from rfl)) (congrArg i3 ((hZ4A.1)))) (by omega) (by omega)) (decide_eq_true (by omega))) ?_
      refine wz_i1 rfl ?_
      refine wz_i0 (i3O (n := 7) (show (1 : Int32) = i3 1 from rfl) (by omega) (by omega) (by omega)) ?_
      refine wz_i0 (i3O (n := 6) (Eq.trans (zm_rd (Z := Z4) (ν := ν) (k := 68) (show ((0 : Nat) : Int) = 0 from rfl) (show ((0 : Nat) : Int) = 0 from rfl) (show ((1 : Nat) : Int) = 1 from rfl)) (congrArg i3 ((hZ4A.2.1)))) (by omega) (by omega) (by omega)) ?_
      refine wz_i1 rfl ?_
      refine wz_i0 (i3O (n := 7) (show (2 : Int32) = i3 2 from rfl) (by omega) (by omega) (by omega)) ?_
      obtain ⟨Z5, hZ5⟩ := zx (zu Z4 43 0 a1 3 a2)
      replace hP := zl_e hP hZ5
      have hZ5I := zH_u hZ4I hZ5 (lo := 0) (hi := 40) (by decide) rfl (by omega) ⟨by decide, by decide⟩ (Or.inl (by decide)) rfl
      have hZ5U : zU [0, 2, 3, 4, 5, 6, 7, 8, 9] Z Z5 := zU_u hZ4U hZ5 (Or.inr (List.Mem.head _))
      have hZ5K : zC [3, 12, 13, 14, 40, 41, 42, 43, 44, 45, 46, 47, 48, 49, 50, 51, 52, 53, 54, 61, 68, 1099, 1100, 1101, 1102, 1103, 1104, 1105, 1106, 1107, 1108, 1109, 1110, 1111, 1112, 1113, 1114, 1115, 1116] Z Z5 := zC_u hZ4K hZ5 (by decide)
      intro μ9 e9
      replace e9 := e9.trans (zm_wI (Z := Z4) (ν := ν) hZ5 (show ((0 : Nat) : Int) = 0 from rfl) (i3I (y := a1) (Eq.trans (zm_rd (Z := Z4) (ν := ν) (k := 68) (show ((0 : Nat) : Int) = 0 from rfl) (show ((0 : Nat) : Int) = 0 from rfl) (show ((1 : Nat) : Int) = 1 from rfl)) (congrArg i3 ((hZ4A.2.1)))) (by omega) (by omega) (by omega)) (show ((3 : Nat) : Int) = 3 from rfl) (Eq.trans (zm_rd (Z := Z4) (ν := ν) (k := 68) (show ((0 : Nat) : Int) = 0 from rfl) (show ((0 : Nat) : Int) = 0 from rfl) (show ((2 : Nat) : Int) = 2 from rfl)) (congrArg i3 ((hZ4A.2.2.1)))))
      subst e9
      have r6 := zH_k hZ4I 43 0 a1 3 (lo := 0) (hi := 40) (by decide) rfl
      exact zlG hP (zm_rd (Z := Z4) (ν := ν) (k := 43) (show ((0 : Nat) : Int) = 0 from rfl) (i3I (y := a1) (Eq.trans (zm_rd (Z := Z4) (ν := ν) (k := 68) (show ((0 : Nat) : Int) = 0 from rfl) (show ((0 : Nat) : Int) = 0 from rfl) (show ((1 : Nat) : Int) = 1 from rfl)) (congrArg i3 ((hZ4A.2.1)))) (by omega) (by omega) (by omega)) (show ((3 : Nat) : Int) = 3 from rfl)) ⟨hZ5I, hZ5K, hZ5U, zG_w zG_r (Nat.le_of_ble_eq_true rfl) (Nat.le_of_ble_eq_true rfl)⟩
    · replace hP := zE_n hP h3
      exact zlGe (E := 12) hP ⟨hZ, zC_r, zU_r, zG_w (zG_k rfl) (Nat.le_of_ble_eq_true rfl) (Nat.le_of_ble_eq_true rfl)⟩
  · replace hP := zE_n hP h2
    exact zlGe (E := 23) hP ⟨hZ, zC_r, zU_r, zG_w (zG_k rfl) (Nat.le_of_ble_eq_true rfl) (Nat.le_of_ble_eq_true rfl)⟩
/- yX11_shares -/
def zx_241 (Z : qz_Z) (n9 : Int) (a1 : Int) (a2 : Int) (a3 : Int) (a4 : Int) (a5 : Int) : qz_Z × Int × Int := (if 0 ≤ a1 ∧ a1 ≤ 999999 then (if 0 ≤ a2 ∧ a2 ≤ 999 then (if 0 ≤ a3 ∧ a3 ≤ 999 then (if 0 ≤ a4 ∧ a4 ≤ 999 then (if 0 ≤ a5 ∧ a5 ≤ 2 then (if 1 ≤ ((a2 + a3) + a4) ∧ ((a2 + a3) + a4) ≤ 2997 then (zlet2 (zf_9 Z n9 a1 a2 a3 a4) (fun Z7 n10 => (Z7, (Z7 69 0 0 a5), 0))) else (Z, 0, 13)) else (Z, 0, 13)) else (Z, 0, 13)) else (Z, 0, 13)) else (Z, 0, 13)) else (Z, 0, 13))
theorem sx_241 {M : Nat} {Z : qz_Z} {ν : qz_N} (hZ : zH ((none, M) : zSM) Z) (hM : ((none, M) : zSM).2 + 0 ≤ 1000000000) {n9 : Nat} (hn : ν.2.2.2.1 = n9) {a1 : Int} (ga1 : -2147483648 ≤ a1 ∧ a1 ≤ 2147483647) {a2 : Int} (ga2 : -2147483648 ≤ a2 ∧ a2 ≤ 2147483647) {a3 : Int} (ga3 : -2147483648 ≤ a3 ∧ a3 ≤ 2147483647) {a4 : Int} (ga4 : -2147483648 ≤ a4 ∧ a4 ≤ 2147483647) {a5 : Int} (ga5 : -2147483648 ≤ a5 ∧ a5 ≤ 2147483647) : ∃ (Z1 : qz_Z) (ν1 : qz_N) (v E : Int), (Z1, v, E) = zx_241 Z n9 a1 a2 a3 a4 a5 ∧ qf_241 [.inr (.inr (some (0, 0, 0))), .inl (i3 a1), .inl (i3 a2), .inl (i3 a3), .inl (i3 a4), .inl (i3 a5)] (zm Z ν) = some (zm Z1 ν1, zoX v E) ∧ (fun Z1 ν1 => zH ((none, M) : zSM) Z1 ∧ zL [69] [] n9 Z Z1 ∧ zU [] Z Z1 ∧ zG 2 10 ν ν1) Z1 ν1 := by
  obtain ⟨P, hP⟩ := zx (zx_241 Z n9 a1 a2 a3 a4 a5)
  refine zc_G (Q := fun Z1 ν1 => zH ((none, M) : zSM) Z1 ∧ zL [69] [] n9 Z Z1 ∧ zU [] Z Z1 ∧ zG 2 10 ν ν1) hP (fw_241 (i3 a1) (i3 a2) (i3 a3) (i3 a4) (i3 a5) _ _ ?_)
  replace hP : zE P (zx_241 Z n9 a1 a2 a3 a4 a5) := hP
  unfold zx_241 at hP
  have hs : ((none, M) : zSM).1 = none := rfl
  refine wz_inR (rfl : i3 a1 = i3 a1) (show (0 : Int32) = i3 0 from rfl) (show (999999 : Int32) = i3 999999 from rfl) (by omega) (by omega) (by omega) (by omega) (by omega) (by omega) (fun h1 => ?_) (fun h1 => ?_)
  · replace hP := zE_p hP h1
    refine wz_inR (rfl : i3 a2 = i3 a2) (show (0 : Int32) = i3 0 from rfl) (show (999 : Int32) = i3 999 from rfl) (by omega) (by omega) (by omega) (by omega) (by omega) (by omega) (fun h2 => ?_) (fun h2 => ?_)
    · replace hP := zE_p hP h2
      refine wz_inR (rfl : i3 a3 = i3 a3) (show (0 : Int32) = i3 0 from rfl) (show (999 : Int32) = i3 999 from rfl) (by omega) (by omega) (by omega) (by omega) (by omega) (by omega) (fun h3 => ?_) (fun h3 => ?_)
      · replace hP := zE_p hP h3
        refine wz_inR (rfl : i3 a4 = i3 a4) (show (0 : Int32) = i3 0 from rfl) (show (999 : Int32) = i3 999 from rfl) (by omega) (by omega) (by omega) (by omega) (by omega) (by omega) (fun h4 => ?_) (fun h4 => ?_)
        · replace hP := zE_p hP h4
          refine wz_inR (rfl : i3 a5 = i3 a5) (show (0 : Int32) = i3 0 from rfl) (show (2 : Int32) = i3 2 from rfl) (by omega) (by omega) (by omega) (by omega) (by omega) (by omega) (fun h5 => ?_) (fun h5 => ?_)
          · replace hP := zE_p hP h5
            refine wz_inR (i3A (i3A (rfl : i3 a2 = i3 a2) (rfl : i3 a3 = i3 a3)) (rfl : i3 a4 = i3 a4)) (show (1 : Int32) = i3 1 from rfl) (show (2997 : Int32) = i3 2997 from rfl) (by omega) (by omega) (by omega) (by omega) (by omega) (by omega) (fun h6 => ?_) (fun h6 => ?_)
            · replace hP := zE_p hP h6
              obtain ⟨Z7, ν8, n10, hZ7, c9, hZ7I, kZ7, jZ7, hnν8, gν8, b1ν8, b2ν8⟩ := sp_9 (ν := ν) hZ hs hn (a0 := a1) (by omega) (a1 := a2) (by omega) (a2 := a3) (by omega) (a3 := a4) (by omega) (zbh (c := 0) (k := 0) hM (Nat.le_of_ble_eq_true rfl))
              have hZ7U : zU [] Z Z7 := zU_t zU_r jZ7 zU_b0
              have hZ7K : zL [69] [] n9 Z Z7 := zL_t zL_r kZ7 (by decide) zL_b0 (by omega)
              replace hP := zl_e2 hP hZ7
              refine wz_cV_of (zas (zcons (zvi (rfl : i3 a1 = i3 a1)) (zcons (zvi (rfl : i3 a2 = i3 a2)) (zcons (zvi (rfl : i3 a3 = i3 a3)) (zcons (zvi (rfl : i3 a4 = i3 a4)) (zcons rfl rfl))))) c9) ?_
              clear c9
              have hGν8 := zGl_t (K := 5) zGl_r gν8
              refine wz_i0 (i3O (n := 24) (rfl : i3 a5 = i3 a5) (by omega) (by omega) (by omega)) ?_
              have r11 := zH_f hZ7I 69 0 0 a5
              exact zlG hP (zm_rd (Z := Z7) (ν := ν8) (k := 69) (show ((0 : Nat) : Int) = 0 from rfl) (show ((0 : Nat) : Int) = 0 from rfl) (i3I (y := a5) (rfl : i3 a5 = i3 a5) (by omega) (by omega) (by omega))) ⟨hZ7I, hZ7K, hZ7U, zGl_c (c := 2) hGν8 hn hnν8 (by omega) (Nat.le_of_ble_eq_true rfl) (Nat.le_of_ble_eq_true rfl)⟩
            · replace hP := zE_n hP h6
              exact zlGe (E := 12) hP ⟨hZ, zL_r, zU_r, zG_w (zG_k rfl) (Nat.le_of_ble_eq_true rfl) (Nat.le_of_ble_eq_true rfl)⟩
          · replace hP := zE_n hP h5
            exact zlGe (E := 12) hP ⟨hZ, zL_r, zU_r, zG_w (zG_k rfl) (Nat.le_of_ble_eq_true rfl) (Nat.le_of_ble_eq_true rfl)⟩
        · replace hP := zE_n hP h4
          exact zlGe (E := 12) hP ⟨hZ, zL_r, zU_r, zG_w (zG_k rfl) (Nat.le_of_ble_eq_true rfl) (Nat.le_of_ble_eq_true rfl)⟩
      · replace hP := zE_n hP h3
        exact zlGe (E := 12) hP ⟨hZ, zL_r, zU_r, zG_w (zG_k rfl) (Nat.le_of_ble_eq_true rfl) (Nat.le_of_ble_eq_true rfl)⟩
    · replace hP := zE_n hP h2
      exact zlGe (E := 12) hP ⟨hZ, zL_r, zU_r, zG_w (zG_k rfl) (Nat.le_of_ble_eq_true rfl) (Nat.le_of_ble_eq_true rfl)⟩
  · replace hP := zE_n hP h1
    exact zlGe (E := 12) hP ⟨hZ, zL_r, zU_r, zG_w (zG_k rfl) (Nat.le_of_ble_eq_true rfl) (Nat.le_of_ble_eq_true rfl)⟩
/- yX11_sign -/
def zx_242 (Z : qz_Z) (a1 : Int) : qz_Z × Int × Int := (if 32 ≤ a1 ∧ a1 ≤ 126 then (if 120 ≤ (Z 4 0 0 1) then (Z, 0, 15) else (zlet (zu Z 66 0 0 (Z 4 0 0 1) a1) (fun Z6 => (zlet (zu Z6 4 0 0 1 ((Z6 4 0 0 1) + 1)) (fun Z9 => (Z9, (Z9 4 0 0 1), 0)))))) else (Z, 0, 13))
theorem sx_242 {M : Nat} {Z : qz_Z} {ν : qz_N} (hZ : zH ((none, M) : zSM) Z) (hM : ((none, M) : zSM).2 + 0 ≤ 1000000000) {a1 : Int} (ga1 : -2147483648 ≤ a1 ∧ a1 ≤ 2147483647) : ∃ (Z1 : qz_Z) (ν1 : qz_N) (v E : Int), (Z1, v, E) = zx_242 Z a1 ∧ qf_242 [.inr (.inr (some (0, 0, 0))), .inl (i3 a1)] (zm Z ν) = some (zm Z1 ν1, zoX v E) ∧ (fun Z1 ν1 => zH ((none, M) : zSM) Z1 ∧ zC [4, 66] Z Z1 ∧ zU [] Z Z1 ∧ zG 1 6 ν ν1) Z1 ν1 := by
  obtain ⟨P, hP⟩ := zx (zx_242 Z a1)
  refine zc_G (Q := fun Z1 ν1 => zH ((none, M) : zSM) Z1 ∧ zC [4, 66] Z Z1 ∧ zU [] Z Z1 ∧ zG 1 6 ν ν1) hP (fw_242 (i3 a1) _ _ ?_)
  replace hP : zE P (zx_242 Z a1) := hP
  unfold zx_242 at hP
  refine wz_inR (rfl : i3 a1 = i3 a1) (show (32 : Int32) = i3 32 from rfl) (show (126 : Int32) = i3 126 from rfl) (by omega) (by omega) (by omega) (by omega) (by omega) (by omega) (fun h1 => ?_) (fun h1 => ?_)
  · replace hP := zE_p hP h1
    have r2 := zH_k hZ 4 0 0 1 (lo := 0) (hi := 120) (by decide) rfl
    refine wz_br (i3Le (show (120 : Int32) = i3 120 from rfl) (zm_rd (Z := Z) (ν := ν) (k := 4) (show ((0 : Nat) : Int) = 0 from rfl) (show ((0 : Nat) : Int) = 0 from rfl) (show ((1 : Nat) : Int) = 1 from rfl)) (by omega) (by omega) (by omega) (by omega)) (fun h3 => ?_) (fun h3 => ?_)
    · replace hP := zE_p hP h3
      refine wz_inT_n (show (0 : Int32) = i3 0 from rfl) (by omega) (by omega) (by omega) ?_
      exact zlGe (E := 14) hP ⟨hZ, zC_r, zU_r, zG_w (zG_k rfl) (Nat.le_of_ble_eq_true rfl) (Nat.le_of_ble_eq_true rfl)⟩
    · replace hP := zE_n hP h3
      refine wz_inT_y (show (1 : Int32) = i3 1 from rfl) (by omega) (by omega) (by omega) ?_
      refine wz_i0 (i3O (n := 120) (zm_rd (Z := Z) (ν := ν) (k := 4) (show ((0 : Nat) : Int) = 0 from rfl) (show ((0 : Nat) : Int) = 0 from rfl) (show ((1 : Nat) : Int) = 1 from rfl)) (by omega) (by omega) (by omega)) ?_
      obtain ⟨Z6, hZ6⟩ := zx (zu Z 66 0 0 (Z 4 0 0 1) a1)
      replace hP := zl_e hP hZ6
      have hZ6I := zH_u hZ hZ6 (lo := 0) (hi := 126) (by decide) rfl (by omega) ⟨by decide, by decide⟩ (Or.inl (by decide)) rfl
      have hZ6U : zU [] Z Z6 := zU_u zU_r hZ6 (Or.inl rfl)
      have hZ6K : zC [4, 66] Z Z6 := zC_u zC_r hZ6 rfl
      intro μ9 e9
      replace e9 := e9.trans (zm_wI (Z := Z) (ν := ν) hZ6 (show ((0 : Nat) : Int) = 0 from rfl) (show ((0 : Nat) : Int) = 0 from rfl) (i3I (y := (Z 4 0 0 1)) (zm_rd (Z := Z) (ν := ν) (k := 4) (show ((0 : Nat) : Int) = 0 from rfl) (show ((0 : Nat) : Int) = 0 from rfl) (show ((1 : Nat) : Int) = 1 from rfl)) (by omega) (by omega) (by omega)) (rfl : i3 a1 = i3 a1))
      subst e9
      have r7 := zH_k hZ6I 4 0 0 1 (lo := 0) (hi := 120) (by decide) rfl
      have q8 := zu_ne (k' := 4) (b' := 0) (i' := 0) (j' := 1) hZ6 (fun q => absurd q.1 (by decide))
      obtain ⟨Z9, hZ9⟩ := zx (zu Z6 4 0 0 1 ((Z6 4 0 0 1) + 1))
      replace hP := zl_e hP hZ9
      have hZ9I := zH_u hZ6I hZ9 (lo := 0) (hi := 120) (by decide) rfl (by omega) ⟨by decide, by decide⟩ (Or.inl (by decide)) rfl
      have hZ9U : zU [] Z Z9 := zU_u hZ6U hZ9 (Or.inl rfl)
      have hZ9K : zC [4, 66] Z Z9 := zC_u hZ6K hZ9 (by decide)
      intro μ9 e9
      replace e9 := e9.trans (zm_wI (Z := Z6) (ν := ν) hZ9 (show ((0 : Nat) : Int) = 0 from rfl) (show ((0 : Nat) : Int) = 0 from rfl) (show ((1 : Nat) : Int) = 1 from rfl) (i3A (zm_rd (Z := Z6) (ν := ν) (k := 4) (show ((0 : Nat) : Int) = 0 from rfl) (show ((0 : Nat) : Int) = 0 from rfl) (show ((1 : Nat) : Int) = 1 from rfl)) (show (1 : Int32) = i3 1 from rfl)))
      subst e9
      have r10 := zH_k hZ9I 4 0 0 1 (lo := 0) (hi := 120) (by decide) rfl
      have q11 := zu_at hZ9
      exact zlG hP (zm_rd (Z := Z9) (ν := ν) (k := 4) (show ((0 : Nat) : Int) = 0 from rfl) (show ((0 : Nat) : Int) = 0 from rfl) (show ((1 : Nat) : Int) = 1 from rfl)) ⟨hZ9I, hZ9K, hZ9U, zG_w zG_r (Nat.le_of_ble_eq_true rfl) (Nat.le_of_ble_eq_true rfl)⟩
  · replace hP := zE_n hP h1
    exact zlGe (E := 12) hP ⟨hZ, zC_r, zU_r, zG_w (zG_k rfl) (Nat.le_of_ble_eq_true rfl) (Nat.le_of_ble_eq_true rfl)⟩
/- yX11_sort -/
def zx_243 (Z : qz_Z) (a1 : Int) (a2 : Int) (a3 : Int) (a4 : Int) (a5 : Int) : qz_Z × Int × Int := (if 1 ≤ a1 ∧ a1 ≤ 9 then (if 0 ≤ a2 ∧ a2 ≤ 12 then (if 0 ≤ a3 ∧ a3 ≤ 12 then (if 100 ≤ a4 ∧ a4 ≤ 600 then (if 10 ≤ a5 ∧ a5 ≤ 99 then (if 5 ≤ (Z 11 0 0 0) then (Z, 0, 15) else (zlet (zdd Z 0 a1 a2 a3 a4 a5 0) (fun Z10 => (zlet (zu Z10 41 0 (Z10 11 0 0 0) 0 a1) (fun Z13 => (zlet (zu Z13 41 0 (Z10 11 0 0 0) 1 a2) (fun Z14 => (zlet (zu Z14 41 0 (Z10 11 0 0 0) 2 a3) (fun Z15 => (zlet (zu Z15 41 0 (Z10 11 0 0 0) 3 a4) (fun Z16 => (zlet (zu Z16 41 0 (Z10 11 0 0 0) 4 a5) (fun Z17 => (zlet (zu Z17 11 0 0 0 ((Z17 11 0 0 0) + 1)) (fun Z20 => (Z20, (Z17 11 0 0 0), 0)))))))))))))))) else (Z, 0, 13)) else (Z, 0, 13)) else (Z, 0, 13)) else (Z, 0, 13)) else (Z, 0, 13))
theorem sx_243 {M : Nat} {Z : qz_Z} {ν : qz_N} (hZ : zH ((none, M) : zSM) Z) (hM : ((none, M) : zSM).2 + 0 ≤ 1000000000) {a1 : Int} (ga1 : -2147483648 ≤ a1 ∧ a1 ≤ 2147483647) {a2 : Int} (ga2 : -2147483648 ≤ a2 ∧ a2 ≤ 2147483647) {a3 : Int} (ga3 : -2147483648 ≤ a3 ∧ a3 ≤ 2147483647) {a4 : Int} (ga4 : -2147483648 ≤ a4 ∧ a4 ≤ 2147483647) {a5 : Int} (ga5 : -2147483648 ≤ a5 ∧ a5 ≤ 2147483647) : ∃ (Z1 : qz_Z) (ν1 : qz_N) (v E : Int), (Z1, v, E) = zx_243 Z a1 a2 a3 a4 a5 ∧ qf_243 [.inr (.inr (some (0, 0, 0))), .inl (i3 a1), .inl (i3 a2), .inl (i3 a3), .inl (i3 a4), .inl (i3 a5)] (zm Z ν) = some (zm Z1 ν1, zoX v E) ∧ (fun Z1 ν1 => zH ((none, M) : zSM) Z1 ∧ zC [3, 12, 13, 14, 40, 41, 42, 43, 44, 45, 46, 47, 48, 49, 50, 51, 52, 53, 54, 61, 68, 1099, 1100, 1101, 1102, 1103, 1104, 1105, 1106, 1107, 1108, 1109, 1110, 1111, 1112, 1113, 1114, 1115, 1116] Z Z1 ∧ zU [0, 2, 3, 4, 5, 6, 7, 8, 9] Z Z1 ∧ zG 1 6 ν ν1) Z1 ν1 := by
  obtain ⟨P, hP⟩ := zx (zx_243 Z a1 a2 a3 a4 a5)
  refine zc_G (Q := fun Z1 ν1 => zH ((none, M) : zSM) Z1 ∧ zC [3, 12, 13, 14, 40, 41, 42, 43, 44, 45, 46, 47, 48, 49, 50, 51, 52, 53, 54, 61, 68, 1099, 1100, 1101, 1102, 1103, 1104, 1105, 1106, 1107, 1108, 1109, 1110, 1111, 1112, 1113, 1114, 1115, 1116] Z Z1 ∧ zU [0, 2, 3, 4, 5, 6, 7, 8, 9] Z Z1 ∧ zG 1 6 ν ν1) hP (fw_243 (i3 a1) (i3 a2) (i3 a3) (i3 a4) (i3 a5) _ _ ?_)
  replace hP : zE P (zx_243 Z a1 a2 a3 a4 a5) := hP
  unfold zx_243 at hP
  refine wz_inR (rfl : i3 a1 = i3 a1) (show (1 : Int32) = i3 1 from rfl) (show (9 : Int32) = i3 9 from rfl) (by omega) (by omega) (by omega) (by omega) (by omega) (by omega) (fun h1 => ?_) (fun h1 => ?_)
  · replace hP := zE_p hP h1
    refine wz_inR (rfl : i3 a2 = i3 a2) (show (0 : Int32) = i3 0 from rfl) (show (12 : Int32) = i3 12 from rfl) (by omega) (by omega) (by omega) (by omega) (by omega) (by omega) (fun h2 => ?_) (fun h2 => ?_)
    · replace hP := zE_p hP h2
      refine wz_inR (rfl : i3 a3 = i3 a3) (show (0 : Int32) = i3 0 from rfl) (show (12 : Int32) = i3 12 from rfl) (by omega) (by omega) (by omega) (by omega) (by omega) (by omega) (fun h3 => ?_) (fun h3 => ?_)
      · replace hP := zE_p hP h3
        refine wz_inR (rfl : i3 a4 = i3 a4) (show (100 : Int32) = i3 100 from rfl) (show (600 : Int32) = i3 600 from rfl) (by omega) (by omega) (by omega) (by omega) (by omega) (by omega) (fun h4 => ?_) (fun h4 => ?_)
        · replace hP := zE_p hP h4
          refine wz_inR (rfl : i3 a5 = i3 a5) (show (10 : Int32) = i3 10 from rfl) (show (99 : Int32) = i3 99 from rfl) (by omega) (by omega) (by omega) (by omega) (by omega) (by omega) (fun h5 => ?_) (fun h5 => ?_)
          · replace hP := zE_p hP h5
            have r6 := zH_k hZ 11 0 0 0 (lo := 0) (hi := 5) (by decide) rfl
            refine wz_br (i3Le (show (5 : Int32) = i3 5 from rfl) (zm_rd (Z := Z) (ν := ν) (k := 11) (show ((0 : Nat) : Int) = 0 from rfl) (show ((0 : Nat) : Int) = 0 from rfl) (show ((0 : Nat) : Int) = 0 from rfl)) (by omega) (by omega) (by omega) (by omega)) (fun h7 => ?_) (fun h7 => ?_)
            · replace hP := zE_p hP h7
              refine wz_inT_n (show (0 : Int32) = i3 0 from rfl) (by omega) (by omega) (by omega) ?_
              exact zlGe (E := 14) hP ⟨hZ, zC_r, zU_r, zG_w (zG_k rfl) (Nat.le_of_ble_eq_true rfl) (Nat.le_of_ble_eq_true rfl)⟩
            · replace hP := zE_n hP h7
              refine wz_inT_y (show (1 : Int32) = i3 1 from rfl) (by omega) (by omega) (by omega) ?_
              refine dc_J (zcons rfl (zcons (zvi (show (0 : Int32) = i3 0 from rfl)) (zcons (zvi (rfl : i3 a1 = i3 a1)) (zcons (zvi (rfl : i3 a2 = i3 a2)) (zcons (zvi (rfl : i3 a3 = i3 a3)) (zcons (zvi (rfl : i3 a4 = i3 a4)) (zcons (zvi (rfl : i3 a5 = i3 a5)) (zcons (zvi (show (0 : Int32) = i3 0 from rfl)) rfl)))))))) (dg (hZ).1 (by omega) (by omega) (by omega) (by omega) (by omega) (by omega) (by omega) ?_)
              have hZ10I := zH_dd hZ (a1 := 0) (a2 := a1) (a3 := a2) (a4 := a3) (a5 := a4) (a6 := a5) (a7 := 0) (by omega) (by omega) (by omega) (by omega) (by omega) (by omega) (by omega)
              have kZ10 : zC [3, 12, 13, 14, 40, 41, 42, 43, 44, 45, 46, 47, 48, 49, 50, 51, 52, 53, 54, 61, 68, 1099, 1100, 1101, 1102, 1103, 1104, 1105, 1106, 1107, 1108, 1109, 1110, 1111, 1112, 1113, 1114, 1115, 1116] Z (zdd Z 0 a1 a2 a3 a4 a5 0) := zC_k zdd_K (by decide) (by decide)
              have hZ10A : (zdd Z 0 a1 a2 a3 a4 a5 0) 68 0 0 0 = 0 ∧ (zdd Z 0 a1 a2 a3 a4 a5 0) 68 0 0 1 = a1 ∧ (zdd Z 0 a1 a2 a3 a4 a5 0) 68 0 0 2 = a2 ∧ (zdd Z 0 a1 a2 a3 a4 a5 0) 68 0 0 3 = a3 ∧ (zdd Z 0 a1 a2 a3 a4 a5 0) 68 0 0 4 = a4 ∧ (zdd Z 0 a1 a2 a3 a4 a5 0) 68 0 0 5 = a5 ∧ (zdd Z 0 a1 a2 a3 a4 a5 0) 68 0 0 6 = 0 := ⟨zdd_68, zdd_68, zdd_68, zdd_68, zdd_68, zdd_68, zdd_68⟩
              obtain ⟨Z10, hZ10⟩ := zx (zdd Z 0 a1 a2 a3 a4 a5 0)
              have dZ10 : ∀ {k : Nat} {i j : Int}, zhall k = true → ¬ (k = 11 ∧ (j = 15 ∨ j = 16)) → Z10 k 0 i j = Z k 0 i j := fun hk hj => by rw [hZ10]; exact zdd_h (hZ).1 hk hj
              have jZ10 : zU [0, 2, 3, 4, 5, 6, 7, 8, 9] Z (zdd Z 0 a1 a2 a3 a4 a5 0) := zU_dd (hZ).1
              rw [← hZ10] at hZ10I kZ10 jZ10 hZ10A ⊢
              have hZ10U : zU [0, 2, 3, 4, 5, 6, 7, 8, 9] Z Z10 := zU_t zU_r jZ10 (zU_b1 (List.Mem.head _) (zU_b1 (List.Mem.tail _ (List.Mem.head _)) (zU_b1 (List.Mem.tail _ (List.Mem.tail _ (List.Mem.head _))) (zU_b1 (List.Mem.tail _ (List.Mem.tail _ (List.Mem.tail _ (List.Mem.head _)))) (zU_b1 (List.Mem.tail _ (List.Mem.tail _ (List.Mem.tail _ (List.Mem.tail _ (List.Mem.head _))))) (zU_b1 (List.Mem.tail _ (List.Mem.tail _ (List.Mem.tail _ (List.Mem.tail _ (List.Mem.tail _ (List.Mem.head _)))))) (zU_b1 (List.Mem.tail _ (List.Mem.tail _ (List.Mem.tail _ (List.Mem.tail _ (List.Mem.tail _ (List.Mem.tail _ (List.Mem.head _))))))) (zU_b1 (List.Mem.tail _ (List.Mem.tail _ (List.Mem.tail _ (List.Mem.tail _ (List.Mem.tail _ (List.Mem.tail _ (List.Mem.tail _ (List.Mem.head _)))))))) (zU_b1 (List.Mem.tail _ (List.Mem.tail _ (List.Mem.tail _ (List.Mem.tail _ (List.Mem.tail _ (List.Mem.tail _ (List.Mem.tail _ (List.Mem.tail _ (List.Mem.head _))))))))) zU_b0)))))))))
              replace hP := zl_e hP hZ10
              have hZ10K : zC [3, 12, 13, 14, 40, 41, 42, 43, 44, 45, 46, 47, 48, 49, 50, 51, 52, 53, 54, 61, 68, 1099, 1100, 1101, 1102, 1103, 1104, 1105, 1106, 1107, 1108, 1109, 1110, 1111, 1112, 1113, 1114, 1115, 1116] Z Z10 := zC_t zC_r kZ10 (by decide)
              clear kZ10 hZ10
              refine fw_121 _ _ _ _ ?_
              refine wz_i1 rfl ?_
              refine wz_i0 (i3O (n := 7) (show (0 : Int32) = i3 0 from rfl) (by omega) (by omega) (by omega)) ?_
              refine wz_i0 (Eq.trans (i3To (Eq.trans (zm_rd (Z := Z10) (ν := ν) (k := 68) (show ((0 : Nat) : Int) = 0 from rfl) (show ((0 : Nat) : Int) = 0 from rfl) (show ((0 : Nat) : Int) = 0 from rfl)) (congrArg i3 ((hZ10A.1)))) (by omega) (by omega)) (decide_eq_false (by omega))) ?_
              refine wz_i1 (Eq.trans (i3T (Eq.trans (zm_rd (Z := Z10) (ν := ν) (k := 68) (show ((0 : Nat) : Int) = 0 from rfl) (show ((0 : Nat) : Int) = 0 from rfl) (show ((0 : Nat) : Int) = 0 from rfl)) (congrArg i3 ((hZ10A.1)))) (by omega) (by omega)) (decide_eq_true (by omega))) ?_
              refine wz_i1 rfl ?_
              refine wz_i0 (i3O (n := 7) (show (1 : Int32) = i3 1 from rfl) (by omega) (by omega) (by omega)) ?_
              refine wz_i1 rfl ?_
              refine wz_i0 (i3O (n := 7) (show (2 : Int32) = i3 2 from rfl) (by omega) (by omega) (by omega)) ?_
              refine wz_i1 rfl ?_
              refine wz_i0 (i3O (n := 7) (show (3 : Int32) = i3 3 from rfl) (by omega) (by omega) (by omega)) ?_
              refine wz_i1 rfl ?_
              refine wz_i0 (i3O (n := 7) (show (4 : Int32) = i3 4 from rfl) (by omega) (by omega) (by omega)) ?_
              refine wz_i1 rfl ?_
              refine wz_i0 (i3O (n := 7) (show (5 : Int32) = i3 5 from rfl) (by omega) (by omega) (by omega)) ?_
              have r11 := zH_k hZ10I 11 0 0 0 (lo := 0) (hi := 5) (by decide) rfl
              have q12 := dZ10 (k := 11) (i := 0) (j := 0) (by decide) (by omega)
              refine wz_i0 (i3O (n := 5) (zm_rd (Z := Z10) (ν := ν) (k := 11) (show ((0 : Nat) : Int) = 0 from rfl) (show ((0 : Nat) : Int) = 0 from rfl) (show ((0 : Nat) : Int) = 0 from rfl)) (by omega) (by omega) (by omega)) ?_
              obtain ⟨Z13, hZ13⟩ := zx (zu Z10 41 0 (Z10 11 0 0 0) 0 a1)
              replace hP := zl_e hP hZ13
              have hZ13I := zH_u hZ10I hZ13 (lo := 0) (hi := 9) (by decide) rfl (by omega) ⟨by decide, by decide⟩ (Or.inl (by decide)) rfl
              have hZ13U : zU [0, 2, 3, 4, 5, 6, 7, 8, 9] Z Z13 := zU_u hZ10U hZ13 (Or.inr (List.Mem.head _))
              have hZ13K : zC [3, 12, 13, 14, 40, 41, 42, 43, 44, 45, 46, 47, 48, 49, 50, 51, 52, 53, 54, 61, 68, 1099, 1100, 1101, 1102, 1103, 1104, 1105, 1106, 1107, 1108, 1109, 1110, 1111, 1112, 1113, 1114, 1115, 1116] Z Z13 := zC_u hZ10K hZ13 (by decide)
              intro μ9 e9
              replace e9 := e9.trans (zm_wI (Z := Z10) (ν := ν) hZ13 (show ((0 : Nat) : Int) = 0 from rfl) (i3I (y := (Z10 11 0 0 0)) (zm_rd (Z := Z10) (ν := ν) (k := 11) (show ((0 : Nat) : Int) = 0 from rfl) (show ((0 : Nat) : Int) = 0 from rfl) (show ((0 : Nat) : Int) = 0 from rfl)) (by omega) (by omega) (by omega)) (show ((0 : Nat) : Int) = 0 from rfl) (Eq.trans (zm_rd (Z := Z10) (ν := ν) (k := 68) (show ((0 : Nat) : Int) = 0 from rfl) (show ((0 : Nat) : Int) = 0 from rfl) (show ((1 : Nat) : Int) = 1 from rfl)) (congrArg i3 ((hZ10A.2.1)))))
              subst e9
              obtain ⟨Z14, hZ14⟩ := zx (zu Z13 41 0 (Z10 11 0 0 0) 1 a2)
              replace hP := zl_e hP hZ14
              have hZ14I := zH_u hZ13I hZ14 (lo := 0) (hi := 12) (by decide) rfl (by omega) ⟨by decide, by decide⟩ (Or.inl (by decide)) rfl
              have hZ14U : zU [0, 2, 3, 4, 5, 6, 7, 8, 9] Z Z14 := zU_u hZ13U hZ14 (Or.inr (List.Mem.head _))
              have hZ14K : zC [3, 12, 13, 14, 40, 41, 42, 43, 44, 45, 46, 47, 48, 49, 50, 51, 52, 53, 54, 61, 68, 1099, 1100, 1101, 1102, 1103, 1104, 1105, 1106, 1107, 1108, 1109, 1110, 1111, 1112, 1113, 1114, 1115, 1116] Z Z14 := zC_u hZ13K hZ14 (by decide)
              intro μ9 e9
              replace e9 := e9.trans (zm_wI (Z := Z13) (ν := ν) hZ14 (show ((0 : Nat) : Int) = 0 from rfl) (i3I (y := (Z10 11 0 0 0)) (zm_rd (Z := Z10) (ν := ν) (k := 11) (show ((0 : Nat) : Int) = 0 from rfl) (show ((0 : Nat) : Int) = 0 from rfl) (show ((0 : Nat) : Int) = 0 from rfl)) (by omega) (by omega) (by omega)) (show ((1 : Nat) : Int) = 1 from rfl) (Eq.trans (zm_rd (Z := Z10) (ν := ν) (k := 68) (show ((0 : Nat) : Int) = 0 from rfl) (show ((0 : Nat) : Int) = 0 from rfl) (show ((2 : Nat) : Int) = 2 from rfl)) (congrArg i3 ((hZ10A.2.2.1)))))
              subst e9
              obtain ⟨Z15, hZ15⟩ := zx (zu Z14 41 0 (Z10 11 0 0 0) 2 a3)
              replace hP := zl_e hP hZ15
              have hZ15I := zH_u hZ14I hZ15 (lo := 0) (hi := 12) (by decide) rfl (by omega) ⟨by decide, by decide⟩ (Or.inl (by decide)) rfl
              have hZ15U : zU [0, 2, 3, 4, 5, 6, 7, 8, 9] Z Z15 := zU_u hZ14U hZ15 (Or.inr (List.Mem.head _))
              have hZ15K : zC [3, 12, 13, 14, 40, 41, 42, 43, 44, 45, 46, 47, 48, 49, 50, 51, 52, 53, 54, 61, 68, 1099, 1100, 1101, 1102, 1103, 1104, 1105, 1106, 1107, 1108, 1109, 1110, 1111, 1112, 1113, 1114, 1115, 1116] Z Z15 := zC_u hZ14K hZ15 (by decide)
              intro μ9 e9
              replace e9 := e9.trans (zm_wI (Z := Z14) (ν := ν) hZ15 (show ((0 : Nat) : Int) = 0 from rfl) (i3I (y := (Z10 11 0 0 0)) (zm_rd (Z := Z10) (ν := ν) (k := 11) (show ((0 : Nat) : Int) = 0 from rfl) (show ((0 : Nat) : Int) = 0 from rfl) (show ((0 : Nat) : Int) = 0 from rfl)) (by omega) (by omega) (by omega)) (show ((2 : Nat) : Int) = 2 from rfl) (Eq.trans (zm_rd (Z := Z10) (ν := ν) (k := 68) (show ((0 : Nat) : Int) = 0 from rfl) (show ((0 : Nat) : Int) = 0 from rfl) (show ((3 : Nat) : Int) = 3 from rfl)) (congrArg i3 ((hZ10A.2.2.2.1)))))
              subst e9
              obtain ⟨Z16, hZ16⟩ := zx (zu Z15 41 0 (Z10 11 0 0 0) 3 a4)
              replace hP := zl_e hP hZ16
              have hZ16I := zH_u hZ15I hZ16 (lo := 0) (hi := 600) (by decide) rfl (by omega) ⟨by decide, by decide⟩ (Or.inl (by decide)) rfl
              have hZ16U : zU [0, 2, 3, 4, 5, 6, 7, 8, 9] Z Z16 := zU_u hZ15U hZ16 (Or.inr (List.Mem.head _))
              have hZ16K : zC [3, 12, 13, 14, 40, 41, 42, 43, 44, 45, 46, 47, 48, 49, 50, 51, 52, 53, 54, 61, 68, 1099, 1100, 1101, 1102, 1103, 1104, 1105, 1106, 1107, 1108, 1109, 1110, 1111, 1112, 1113, 1114, 1115, 1116] Z Z16 := zC_u hZ15K hZ16 (by decide)
              intro μ9 e9
              replace e9 := e9.trans (zm_wI (Z := Z15) (ν := ν) hZ16 (show ((0 : Nat) : Int) = 0 from rfl) (i3I (y := (Z10 11 0 0 0)) (zm_rd (Z := Z10) (ν := ν) (k := 11) (show ((0 : Nat) : Int) = 0 from rfl) (show ((0 : Nat) : Int) = 0 from rfl) (show ((0 : Nat) : Int) = 0 from rfl)) (by omega) (by omega) (by omega)) (show ((3 : Nat) : Int) = 3 from rfl) (Eq.trans (zm_rd (Z := Z10) (ν := ν) (k := 68) (show ((0 : Nat) : Int) = 0 from rfl) (show ((0 : Nat) : Int) = 0 from rfl) (show ((4 : Nat) : Int) = 4 from rfl)) (congrArg i3 ((hZ10A.2.2.2.2.1)))))
              subst e9
              obtain ⟨Z17, hZ17⟩ := zx (zu Z16 41 0 (Z10 11 0 0 0) 4 a5)
              replace hP := zl_e hP hZ17
              have hZ17I := zH_u hZ16I hZ17 (lo := 0) (hi := 99) (by decide) rfl (by omega) ⟨by decide, by decide⟩ (Or.inl (by decide)) rfl
              have hZ17U : zU [0, 2, 3, 4, 5, 6, 7, 8, 9] Z Z17 := zU_u hZ16U hZ17 (Or.inr (List.Mem.head _))
              have hZ17K : zC [3, 12, 13, 14, 40, 41, 42, 43, 44, 45, 46, 47, 48, 49, 50, 51, 52, 53, 54, 61, 68, 1099, 1100, 1101, 1102, 1103, 1104, 1105, 1106, 1107, 1108, 1109, 1110, 1111, 1112, 1113, 1114, 1115, 1116] Z Z17 := zC_u hZ16K hZ17 (by decide)
              intro μ9 e9
              replace e9 := e9.trans (zm_wI (Z := Z16) (ν := ν) hZ17 (show ((0 : Nat) : Int) = 0 from rfl) (i3I (y := (Z10 11 0 0 0)) (zm_rd (Z := Z10) (ν := ν) (k := 11) (show ((0 : Nat) : Int) = 0 from rfl) (show ((0 : Nat) : Int) = 0 from rfl) (show ((0 : Nat) : Int) = 0 from rfl)) (by omega) (by omega) (by omega)) (show ((4 : Nat) : Int) = 4 from rfl) (Eq.trans (zm_rd (Z := Z10) (ν := ν) (k := 68) (show ((0 : Nat) : Int) = 0 from rfl) (show ((0 : Nat) : Int) = 0 from rfl) (show ((5 : Nat) : Int) = 5 from rfl)) (congrArg i3 ((hZ10A.2.2.2.2.2.1)))))
              subst e9
              have r18 := zH_k hZ17I 11 0 0 0 (lo := 0) (hi := 5) (by decide) rfl
              have q19 := (zu_ne (k' := 11) (b' := 0) (i' := 0) (j' := 0) hZ17 (fun q => absurd q.1 (by decide))).trans ((zu_ne (k' := 11) (b' := 0) (i' := 0) (j' := 0) hZ16 (fun q => absurd q.1 (by decide))).trans ((zu_ne (k' := 11) (b' := 0) (i' := 0) (j' := 0) hZ15 (fun q => absurd q.1 (by decide))).trans ((zu_ne (k' := 11) (b' := 0) (i' := 0) (j' := 0) hZ14 (fun q => absurd q.1 (by decide))).trans (zu_ne (k' := 11) (b' := 0) (i' := 0) (j' := 0) hZ13 (fun q => absurd q.1 (by decide))))))
              obtain ⟨Z20, hZ20⟩ := zx (zu Z17 11 0 0 0 ((Z17 11 0 0 0) + 1))
              replace hP := zl_e hP hZ20
              have hZ20I := zH_u hZ17I hZ20 (lo := 0) (hi := 5) (by decide) rfl (by omega) ⟨by decide, by decide⟩ (Or.inl (by decide)) rfl
              have hZ20U : zU [0, 2, 3, 4, 5, 6, 7, 8, 9] Z Z20 := zU_u hZ17U hZ20 (Or.inr (List.Mem.head _))
              have hZ20K : zC [3, 12, 13, 14, 40, 41, 42, 43, 44, 45, 46, 47, 48, 49, 50, 51, 52, 53, 54, 61, 68, 1099, 1100, 1101, 1102, 1103, 1104, 1105, 1106, 1107, 1108, 1109, 1110, 1111, 1112, 1113, 1114, 1115, 1116] Z Z20 := zC_u hZ17K hZ20 (by decide)
              intro μ9 e9
              replace e9 := e9.trans (zm_wI (Z := Z17) (ν := ν) hZ20 (show ((0 : Nat) : Int) = 0 from rfl) (show ((0 : Nat) : Int) = 0 from rfl) (show ((0 : Nat) : Int) = 0 from rfl) (i3A (zm_rd (Z := Z17) (ν := ν) (k := 11) (show ((0 : Nat) : Int) = 0 from rfl) (show ((0 : Nat) : Int) = 0 from rfl) (show ((0 : Nat) : Int) = 0 from rfl)) (show (1 : Int32) = i3 1 from rfl)))
              subst e9
              exact zlG hP (zm_rd (Z := Z17) (ν := ν) (k := 11) (show ((0 : Nat) : Int) = 0 from rfl) (show ((0 : Nat) : Int) = 0 from rfl) (show ((0 : Nat) : Int) = 0 from rfl)) ⟨hZ20I, hZ20K, hZ20U, zG_w zG_r (Nat.le_of_ble_eq_true rfl) (Nat.le_of_ble_eq_true rfl)⟩
          · replace hP := zE_n hP h5
            exact zlGe (E := 12) hP ⟨hZ, zC_r, zU_r, zG_w (zG_k rfl) (Nat.le_of_ble_eq_true rfl) (Nat.le_of_ble_eq_true rfl)⟩
        · replace hP := zE_n hP h4
          exact zlGe (E := 12) hP ⟨hZ, zC_r, zU_r, zG_w (zG_k rfl) (Nat.le_of_ble_eq_true rfl) (Nat.le_of_ble_eq_true rfl)⟩
      · replace hP := zE_n hP h3
        exact zlGe (E := 12) hP ⟨hZ, zC_r, zU_r, zG_w (zG_k rfl) (Nat.le_of_ble_eq_true rfl) (Nat.le_of_ble_eq_true rfl)⟩
    · replace hP := zE_n hP h2
      exact zlGe (E := 12) hP ⟨hZ, zC_r, zU_r, zG_w (zG_k rfl) (Nat.le_of_ble_eq_true rfl) (Nat.le_of_ble_eq_true rfl)⟩
  · replace hP := zE_n hP h1
    exact zlGe (E := 12) hP ⟨hZ, zC_r, zU_r, zG_w (zG_k rfl) (Nat.le_of_ble_eq_true rfl) (Nat.le_of_ble_eq_true rfl)⟩
/- yX11_sum -/
def zx_244 (Z : qz_Z) (a1 : Int) : qz_Z × Int × Int := (if 0 ≤ a1 ∧ a1 ≤ 23 then (if a1 < 21 ∨ 23 < a1 then (zlet (zf_124 Z 0 a1) (fun v3 => (Z, v3, 0))) else (if a1 = 21 then (Z, (Z 11 0 0 15), 0) else (if a1 = 22 then (Z, (Z 3 0 0 8), 0) else (Z, (Z 4 0 0 1), 0)))) else (Z, 0, 13))
theorem sx_244 {M : Nat} {Z : qz_Z} {ν : qz_N} (hZ : zH ((none, M) : zSM) Z) (hM : ((none, M) : zSM).2 + 0 ≤ 1000000000) {a1 : Int} (ga1 : -2147483648 ≤ a1 ∧ a1 ≤ 2147483647) : ∃ (Z1 : qz_Z) (ν1 : qz_N) (v E : Int), (Z1, v, E) = zx_244 Z a1 ∧ qf_244 [.inr (.inr (some (0, 0, 0))), .inl (i3 a1)] (zm Z ν) = some (zm Z1 ν1, zoX v E) ∧ (fun Z1 ν1 => zH ((none, M) : zSM) Z1 ∧ zC [] Z Z1 ∧ zU [] Z Z1 ∧ zG 1 6 ν ν1) Z1 ν1 := by
  obtain ⟨P, hP⟩ := zx (zx_244 Z a1)
  refine zc_G (Q := fun Z1 ν1 => zH ((none, M) : zSM) Z1 ∧ zC [] Z Z1 ∧ zU [] Z Z1 ∧ zG 1 6 ν ν1) hP (fw_244 (i3 a1) _ _ ?_)
  replace hP : zE P (zx_244 Z a1) := hP
  unfold zx_244 at hP
  refine wz_inR (rfl : i3 a1 = i3 a1) (show (0 : Int32) = i3 0 from rfl) (show (23 : Int32) = i3 23 from rfl) (by omega) (by omega) (by omega) (by omega) (by omega) (by omega) (fun h1 => ?_) (fun h1 => ?_)
  · replace hP := zE_p hP h1
    refine wz_br (i3To (rfl : i3 a1 = i3 a1) (by omega) (by omega)) (fun h2 => ?_) (fun h2 => ?_)
    · replace hP := zE_p hP h2
      obtain ⟨v3, hv3, c9, lv3, uv3⟩ := sp_124 (ν := ν) hZ 0 (a1 := a1) (by omega) (zbh (c := 0) (k := 0) hM (Nat.le_of_ble_eq_true rfl))
      replace hP := zl_e hP hv3
      refine wz_cI_of (zas (zcons rfl (zcons (zvi (rfl : i3 a1 = i3 a1)) rfl)) c9) ?_
      clear c9
      exact zlG hP (rfl : i3 v3 = i3 v3) ⟨hZ, zC_r, zU_r, zG_w zG_r (Nat.le_of_ble_eq_true rfl) (Nat.le_of_ble_eq_true rfl)⟩
    · replace hP := zE_n hP h2
      refine wz_br (i3T (rfl : i3 a1 = i3 a1) (by omega) (by omega)) (fun h4 => ?_) (fun h4 => ?_)
      · replace hP := zE_p hP h4
        have r5 := zH_f hZ 11 0 0 15
        exact zlG hP (zm_rd (Z := Z) (ν := ν) (k := 11) (show ((0 : Nat) : Int) = 0 from rfl) (show ((0 : Nat) : Int) = 0 from rfl) (show ((15 : Nat) : Int) = 15 from rfl)) ⟨hZ, zC_r, zU_r, zG_w zG_r (Nat.le_of_ble_eq_true rfl) (Nat.le_of_ble_eq_true rfl)⟩
      · replace hP := zE_n hP h4
        refine wz_br (i3T (rfl : i3 a1 = i3 a1) (by omega) (by omega)) (fun h6 => ?_) (fun h6 => ?_)
        · replace hP := zE_p hP h6
          have r7 := zH_k hZ 3 0 0 8 (lo := 0) (hi := 8) (by decide) rfl
          exact zlG hP (zm_rd (Z := Z) (ν := ν) (k := 3) (show ((0 : Nat) : Int) = 0 from rfl) (show ((0 : Nat) : Int) = 0 from rfl) (show ((8 : Nat) : Int) = 8 from rfl)) ⟨hZ, zC_r, zU_r, zG_w zG_r (Nat.le_of_ble_eq_true rfl) (Nat.le_of_ble_eq_true rfl)⟩
        · replace hP := zE_n hP h6
          refine wz_i1 (Eq.trans (i3T (rfl : i3 a1 = i3 a1) (by omega) (by omega)) (decide_eq_true (by omega))) ?_
          have r8 := zH_k hZ 4 0 0 1 (lo := 0) (hi := 120) (by decide) rfl
          exact zlG hP (zm_rd (Z := Z) (ν := ν) (k := 4) (show ((0 : Nat) : Int) = 0 from rfl) (show ((0 : Nat) : Int) = 0 from rfl) (show ((1 : Nat) : Int) = 1 from rfl)) ⟨hZ, zC_r, zU_r, zG_w zG_r (Nat.le_of_ble_eq_true rfl) (Nat.le_of_ble_eq_true rfl)⟩
  · replace hP := zE_n hP h1
    exact zlGe (E := 12) hP ⟨hZ, zC_r, zU_r, zG_w (zG_k rfl) (Nat.le_of_ble_eq_true rfl) (Nat.le_of_ble_eq_true rfl)⟩
/- yX11_taker -/
def zx_245 (Z : qz_Z) (a1 : Int) (a2 : Int) : qz_Z × Int × Int := (if 0 ≤ a1 ∧ a1 < (Z 11 0 0 3) then (if 1 ≤ a2 ∧ a2 ≤ 9999 then (zlet (zf_34 Z 0 0 a1 a2) (fun v4 => (Z, v4, 0))) else (Z, 0, 13)) else (Z, 0, 24))
theorem sx_245 {M : Nat} {Z : qz_Z} {ν : qz_N} (hZ : zH ((none, M) : zSM) Z) (hM : ((none, M) : zSM).2 + 0 ≤ 1000000000) {a1 : Int} (ga1 : -2147483648 ≤ a1 ∧ a1 ≤ 2147483647) {a2 : Int} (ga2 : -2147483648 ≤ a2 ∧ a2 ≤ 2147483647) : ∃ (Z1 : qz_Z) (ν1 : qz_N) (v E : Int), (Z1, v, E) = zx_245 Z a1 a2 ∧ qf_245 [.inr (.inr (some (0, 0, 0))), .inl (i3 a1), .inl (i3 a2)] (zm Z ν) = some (zm Z1 ν1, zoX v E) ∧ (fun Z1 ν1 => zH ((none, M) : zSM) Z1 ∧ zC [] Z Z1 ∧ zU [] Z Z1 ∧ zG 1 6 ν ν1) Z1 ν1 := by
  obtain ⟨P, hP⟩ := zx (zx_245 Z a1 a2)
  refine zc_G (Q := fun Z1 ν1 => zH ((none, M) : zSM) Z1 ∧ zC [] Z Z1 ∧ zU [] Z Z1 ∧ zG 1 6 ν ν1) hP (fw_245 (i3 a1) (i3 a2) _ _ ?_)
  replace hP : zE P (zx_245 Z a1 a2) := hP
  unfold zx_245 at hP
  have r1 := zH_k hZ 11 0 0 3 (lo := 0) (hi := 48) (by decide) rfl
  refine wz_thing (rfl : i3 a1 = i3 a1) (zm_rd (Z := Z) (ν := ν) (k := 11) (show ((0 : Nat) : Int) = 0 from rfl) (show ((0 : Nat) : Int) = 0 from rfl) (show ((3 : Nat) : Int) = 3 from rfl)) (by omega) (by omega) (by omega) (by omega) (fun h2 => ?_) (fun h2 => ?_)
  · replace hP := zE_p hP h2
    refine wz_inR (rfl : i3 a2 = i3 a2) (show (1 : Int32) = i3 1 from rfl) (show (9999 : Int32) = i3 9999 from rfl) (by omega) (by omega) (by omega) (by omega) (by omega) (by omega) (fun h3 => ?_) (fun h3 => ?_)
    · replace hP := zE_p hP h3
      refine wz_i0 (i3O (n := 48) (rfl : i3 a1 = i3 a1) (by omega) (by omega) (by omega)) ?_
      obtain ⟨v4, hv4, c9, lv4, uv4, wv40, wv41⟩ := sp_34 (ν := ν) hZ 0 0 _ (i3I (y := a1) (rfl : i3 a1 = i3 a1) (by omega) (by omega) (by omega)) (by omega) (a2 := a2) (by omega) (zbh (c := 0) (k := 0) hM (Nat.le_of_ble_eq_true rfl))
      replace hP := zl_e hP hv4
      refine wz_cI_of (zas (zcons rfl (zcons rfl (zcons (zvi (rfl : i3 a2 = i3 a2)) rfl))) c9) ?_
      clear c9
      have r5 := zH_k hZ 11 0 0 6 (lo := 0) (hi := 60) (by decide) rfl
      have r6 := zH_k hZ 45 0 (Z 46 0 v4 0) 1 (lo := 0) (hi := 9999999) (by decide) rfl
      have r7 := zH_f hZ 45 0 (Z 46 0 v4 0) 3
      have r8 := zH_f hZ 45 0 (Z 46 0 v4 0) 4
      have w9 : v4 = -1 ∨ Z 11 0 0 6 < 60 := wv40
      have w10 : v4 = -1 ∨ a2 ≤ w3 (w3 (Z 45 0 (Z 46 0 v4 0) 1 + Z 45 0 (Z 46 0 v4 0) 3) - Z 45 0 (Z 46 0 v4 0) 4) := wv41
      exact zlG hP (rfl : i3 v4 = i3 v4) ⟨hZ, zC_r, zU_r, zG_w zG_r (Nat.le_of_ble_eq_true rfl) (Nat.le_of_ble_eq_true rfl)⟩
    · replace hP := zE_n hP h3
      exact zlGe (E := 12) hP ⟨hZ, zC_r, zU_r, zG_w (zG_k rfl) (Nat.le_of_ble_eq_true rfl) (Nat.le_of_ble_eq_true rfl)⟩
  · replace hP := zE_n hP h2
    exact zlGe (E := 23) hP ⟨hZ, zC_r, zU_r, zG_w (zG_k rfl) (Nat.le_of_ble_eq_true rfl) (Nat.le_of_ble_eq_true rfl)⟩
/- yX11_takings -/
def zx_246 (Z : qz_Z) (a1 : Int) (a2 : Int) (a3 : Int) : qz_Z × Int × Int := (if 0 ≤ a1 ∧ a1 < (Z 11 0 0 7) then (if 1 ≤ a2 ∧ a2 ≤ 12 then (if 0 ≤ a3 ∧ a3 ≤ 4 then (zlet2 (zf_77 Z 0 (12 + 0) a1 a2 a3) (fun Z5 v6 => (Z5, v6, 0))) else (Z, 0, 13)) else (Z, 0, 13)) else (Z, 0, 24))
theorem sx_246 {M : Nat} {Z : qz_Z} {ν : qz_N} (hZ : zH ((none, M) : zSM) Z) (hM : ((none, M) : zSM).2 + 1066 ≤ 1000000000) {a1 : Int} (ga1 : -2147483648 ≤ a1 ∧ a1 ≤ 2147483647) {a2 : Int} (ga2 : -2147483648 ≤ a2 ∧ a2 ≤ 2147483647) {a3 : Int} (ga3 : -2147483648 ≤ a3 ∧ a3 ≤ 2147483647) (hLt0 : zLt 0 Z) : ∃ (Z1 : qz_Z) (ν1 : qz_N) (v E : Int), (Z1, v, E) = zx_246 Z a1 a2 a3 ∧ qf_246 [.inr (.inr (some (0, 0, 0))), .inl (i3 a1), .inl (i3 a2), .inl (i3 a3)] (zm Z ν) = some (zm Z1 ν1, zoX v E) ∧ (fun Z1 ν1 => zH (zb ((none, M) : zSM) 1066) Z1 ∧ zC [12, 13, 14, 40, 41, 42, 43, 44, 45, 46, 47, 48, 49, 50, 51, 52, 53, 54, 1099, 1100, 1101, 1102, 1103, 1104, 1105, 1106, 1107, 1108, 1109, 1110, 1111, 1112, 1113, 1114, 1115, 1116] Z Z1 ∧ zU [(12 + 0)] Z Z1 ∧ zG 1 6 ν ν1) Z1 ν1 := by
  obtain ⟨P, hP⟩ := zx (zx_246 Z a1 a2 a3)
  refine zc_G (Q := fun Z1 ν1 => zH (zb ((none, M) : zSM) 1066) Z1 ∧ zC [12, 13, 14, 40, 41, 42, 43, 44, 45, 46, 47, 48, 49, 50, 51, 52, 53, 54, 1099, 1100, 1101, 1102, 1103, 1104, 1105, 1106, 1107, 1108, 1109, 1110, 1111, 1112, 1113, 1114, 1115, 1116] Z Z1 ∧ zU [(12 + 0)] Z Z1 ∧ zG 1 6 ν ν1) hP (fw_246 (i3 a1) (i3 a2) (i3 a3) _ _ ?_)
  replace hP : zE P (zx_246 Z a1 a2 a3) := hP
  unfold zx_246 at hP
  have r1 := zH_k hZ 11 0 0 7 (lo := 0) (hi := 2) (by decide) rfl
  refine wz_thing (rfl : i3 a1 = i3 a1) (zm_rd (Z := Z) (ν := ν) (k := 11) (show ((0 : Nat) : Int) = 0 from rfl) (show ((0 : Nat) : Int) = 0 from rfl) (show ((7 : Nat) : Int) = 7 from rfl)) (by omega) (by omega) (by omega) (by omega) (fun h2 => ?_) (fun h2 => ?_)
  · replace hP := zE_p hP h2
    refine wz_inR (rfl : i3 a2 = i3 a2) (show (1 : Int32) = i3 1 from rfl) (show (12 : Int32) = i3 12 from rfl) (by omega) (by omega) (by omega) (by omega) (by omega) (by omega) (fun h3 => ?_) (fun h3 => ?_)
    · replace hP := zE_p hP h3
      refine wz_inR (rfl : i3 a3 = i3 a3) (show (0 : Int32) = i3 0 from rfl) (show (4 : Int32) = i3 4 from rfl) (by omega) (by omega) (by omega) (by omega) (by omega) (by omega) (fun h4 => ?_) (fun h4 => ?_)
      · replace hP := zE_p hP h4
        obtain ⟨Z5, v6, hv6, c9, hZ5I, kZ5, jZ5, lv6, uv6, tZ5_a0b⟩ := sp_77 (ν := ν) hZ 0 (12 + 0) (a2 := a1) (by omega) (a3 := a2) (by omega) (a4 := a3) (by omega) (show 0 ≠ (12 + 0) from by omega) hLt0 (zbh (c := 0) (k := 1066) hM (Nat.le_of_ble_eq_true rfl))
        have hZ5U : zU [(12 + 0)] Z Z5 := zU_t zU_r jZ5 (zU_b1 (List.Mem.head _) zU_b0)
        have hZ5K : zC [12, 13, 14, 40, 41, 42, 43, 44, 45, 46, 47, 48, 49, 50, 51, 52, 53, 54, 1099, 1100, 1101, 1102, 1103, 1104, 1105, 1106, 1107, 1108, 1109, 1110, 1111, 1112, 1113, 1114, 1115, 1116] Z Z5 := zC_t zC_r kZ5 (by decide)
        replace hP := zl_e2 hP hv6
        refine wz_cI_of (zas (zcons rfl (zcons rfl (zcons (zvi (rfl : i3 a1 = i3 a1)) (zcons (zvi (rfl : i3 a2 = i3 a2)) (zcons (zvi (rfl : i3 a3 = i3 a3)) rfl))))) c9) ?_
        clear c9 hv6
        exact zlG hP (rfl : i3 v6 = i3 v6) ⟨hZ5I, hZ5K, hZ5U, zG_w zG_r (Nat.le_of_ble_eq_true rfl) (Nat.le_of_ble_eq_true rfl)⟩
      · replace hP := zE_n hP h4
        exact zlGe (E := 12) hP ⟨(zbw (a := 0) (c := 1066) hZ (Nat.le_of_ble_eq_true rfl)), zC_r, zU_r, zG_w (zG_k rfl) (Nat.le_of_ble_eq_true rfl) (Nat.le_of_ble_eq_true rfl)⟩
    · replace hP := zE_n hP h3
      exact zlGe (E := 12) hP ⟨(zbw (a := 0) (c := 1066) hZ (Nat.le_of_ble_eq_true rfl)), zC_r, zU_r, zG_w (zG_k rfl) (Nat.le_of_ble_eq_true rfl) (Nat.le_of_ble_eq_true rfl)⟩
  · replace hP := zE_n hP h2
    exact zlGe (E := 23) hP ⟨(zbw (a := 0) (c := 1066) hZ (Nat.le_of_ble_eq_true rfl)), zC_r, zU_r, zG_w (zG_k rfl) (Nat.le_of_ble_eq_true rfl) (Nat.le_of_ble_eq_true rfl)⟩
/- yX11_tariff -/
def zx_247 (Z : qz_Z) (a1 : Int) (a2 : Int) : qz_Z × Int × Int := (if 0 ≤ a1 ∧ a1 ≤ 3 then (if 0 ≤ a2 ∧ a2 ≤ 99999 then (zlet (zdd Z 24 a1 a2 0 0 0 0) (fun Z3 => (zlet (zu Z3 13 0 0 a1 a2) (fun Z4 => (Z4, (Z3 13 0 0 a1), 0))))) else (Z, 0, 13)) else (Z, 0, 13))
theorem sx_247 {M : Nat} {Z : qz_Z} {ν : qz_N} (hZ : zH ((none, M) : zSM) Z) (hM : ((none, M) : zSM).2 + 0 ≤ 1000000000) {a1 : Int} (ga1 : -2147483648 ≤ a1 ∧ a1 ≤ 2147483647) {a2 : Int} (ga2 : -2147483648 ≤ a2 ∧ a2 ≤ 2147483647) : ∃ (Z1 : qz_Z) (ν1 : qz_N) (v E : Int), (Z1, v, E) = zx_247 Z a1 a2 ∧ qf_247 [.inr (.inr (some (0, 0, 0))), .inl (i3 a1), .inl (i3 a2)] (zm Z ν) = some (zm Z1 ν1, zoX v E) ∧ (fun Z1 ν1 => zH ((none, M) : zSM) Z1 ∧ zC [3, 12, 13, 14, 40, 41, 42, 43, 44, 45, 46, 47, 48, 49, 50, 51, 52, 53, 54, 61, 68, 1099, 1100, 1101, 1102, 1103, 1104, 1105, 1106, 1107, 1108, 1109, 1110, 1111, 1112, 1113, 1114, 1115, 1116] Z Z1 ∧ zU [0, 2, 3, 4, 5, 6, 7, 8, 9] Z Z1 ∧ zG 1 6 ν ν1) Z1 ν1 := by
  obtain ⟨P, hP⟩ := zx (zx_247 Z a1 a2)
  refine zc_G (Q := fun Z1 ν1 => zH ((none, M) : zSM) Z1 ∧ zC [3, 12, 13, 14, 40, 41, 42, 43, 44, 45, 46, 47, 48, 49, 50, 51, 52, 53, 54, 61, 68, 1099, 1100, 1101, 1102, 1103, 1104, 1105, 1106, 1107, 1108, 1109, 1110, 1111, 1112, 1113, 1114, 1115, 1116] Z Z1 ∧ zU [0, 2, 3, 4, 5, 6, 7, 8, 9] Z Z1 ∧ zG 1 6 ν ν1) hP (fw_247 (i3 a1) (i3 a2) _ _ ?_)
  replace hP : zE P (zx_247 Z a1 a2) := hP
  unfold zx_247 at hP
  refine wz_inR (rfl : i3 a1 = i3 a1) (show (0 : Int32) = i3 0 from rfl) (show (3 : Int32) = i3 3 from rfl) (by omega) (by omega) (by omega) (by omega) (by omega) (by omega) (fun h1 => ?_) (fun h1 => ?_)
  · replace hP := zE_p hP h1
    refine wz_inR (rfl : i3 a2 = i3 a2) (show (0 : Int32) = i3 0 from rfl) (show (99999 : Int32) = i3 99999 from rfl) (by omega) (by omega) (by omega) (by omega) (by omega) (by omega) (fun h2 => ?_) (fun h2 => ?_)
    · replace hP := zE_p hP h2
      refine dc_J (zcons rfl (zcons (zvi (show (24 : Int32) = i3 24 from rfl)) (zcons (zvi (rfl : i3 a1 = i3 a1)) (zcons (zvi (rfl : i3 a2 = i3 a2)) (zcons (zvi (show (0 : Int32) = i3 0 from rfl)) (zcons (zvi (show (0 : Int32) = i3 0 from rfl)) (zcons (zvi (show (0 : Int32) = i3 0 from rfl)) (zcons (zvi (show (0 : Int32) = i3 0 from rfl)) rfl)))))))) (dg (hZ).1 (by omega) (by omega) (by omega) (by omega) (by omega) (by omega) (by omega) ?_)
      have hZ3I := zH_dd hZ (a1 := 24) (a2 := a1) (a3 := a2) (a4 := 0) (a5 := 0) (a6 := 0) (a7 := 0) (by omega) (by omega) (by omega) (by omega) (by omega) (by omega) (by omega)
      have kZ3 : zC [3, 12, 13, 14, 40, 41, 42, 43, 44, 45, 46, 47, 48, 49, 50, 51, 52, 53, 54, 61, 68, 1099, 1100, 1101, 1102, 1103, 1104, 1105, 1106, 1107, 1108, 1109, 1110, 1111, 1112, 1113, 1114, 1115, 1116] Z (zdd Z 24 a1 a2 0 0 0 0) := zC_k zdd_K (by decide) (by decide)
      have hZ3A : (zdd Z 24 a1 a2 0 0 0 0) 68 0 0 0 = 24 ∧ (zdd Z 24 a1 a2 0 0 0 0) 68 0 0 1 = a1 ∧ (zdd Z 24 a1 a2 0 0 0 0) 68 0 0 2 = a2 ∧ (zdd Z 24 a1 a2 0 0 0 0) 68 0 0 3 = 0 ∧ (zdd Z 24 a1 a2 0 0 0 0) 68 0 0 4 = 0 ∧ (zdd Z 24 a1 a2 0 0 0 0) 68 0 0 5 = 0 ∧ (zdd Z 24 a1 a2 0 0 0 0) 68 0 0 6 = 0 := ⟨zdd_68, zdd_68, zdd_68, zdd_68, zdd_68, zdd_68, zdd_68⟩
      obtain ⟨Z3, hZ3⟩ := zx (zdd Z 24 a1 a2 0 0 0 0)
      have dZ3 : ∀ {k : Nat} {i j : Int}, zhall k = true → ¬ (k = 11 ∧ (j = 15 ∨ j = 16)) → Z3 k 0 i j = Z k 0 i j := fun hk hj => by rw [hZ3]; exact zdd_h (hZ).1 hk hj
      have jZ3 : zU [0, 2, 3, 4, 5, 6, 7, 8, 9] Z (zdd Z 24 a1 a2 0 0 0 0) := zU_dd (hZ).1
      rw [← hZ3] at hZ3I kZ3 jZ3 hZ3A ⊢
      have hZ3U : zU [0, 2, 3, 4, 5, 6, 7, 8, 9] Z Z3 := zU_t zU_r jZ3 (zU_b1 (List.Mem.head _) (zU_b1 (List.Mem.tail _ (List.Mem.head _)) (zU_b1 (List.Mem.tail _ (List.Mem.tail _ (List.Mem.head _))) (zU_b1 (List.Mem.tail _ (List.Mem.tail _ (List.Mem.tail _ (List.Mem.head _)))) (zU_b1 (List.Mem.tail _ (List.Mem.tail _ (List.Mem.tail _ (List.Mem.tail _ (List.Mem.head _))))) (zU_b1 (List.Mem.tail _ (List.Mem.tail _ (List.Mem.tail _ (List.Mem.tail _ (List.Mem.tail _ (List.Mem.head _)))))) (zU_b1 (List.Mem.tail _ (List.Mem.tail _ (List.Mem.tail _ (List.Mem.tail _ (List.Mem.tail _ (List.Mem.tail _ (List.Mem.head _))))))) (zU_b1 (List.Mem.tail _ (List.Mem.tail _ (List.Mem.tail _ (List.Mem.tail _ (List.Mem.tail _ (List.Mem.tail _ (List.Mem.tail _ (List.Mem.head _)))))))) (zU_b1 (List.Mem.tail _ (List.Mem.tail _ (List.Mem.tail _ (List.Mem.tail _ (List.Mem.tail _ (List.Mem.tail _ (List.Mem.tail _ (List.Mem.tail _ (List.Mem.head _))))))))) zU_b0)))))))))
      replace hP := zl_e hP hZ3
      have hZ3K : zC [3, 12, 13, 14, 40, 41, 42, 43, 44, 45, 46, 47, 48, 49, 50, 51, 52, 53, 54, 61, 68, 1099, 1100, 1101, 1102, 1103, 1104, 1105, 1106, 1107, 1108, 1109, 1110, 1111, 1112, 1113, 1114, 1115, 1116] Z Z3 := zC_t zC_r kZ3 (by decide)
      clear kZ3 hZ3
      refine fw_121 _ _ _ _ ?_
      refine wz_i1 rfl ?_
      refine wz_i0 (i3O (n := 7) (show (0 : Int32) = i3 0 from rfl) (by omega) (by omega) (by omega)) ?_
      refine wz_i0 (Eq.trans (i3To (Eq.trans (zm_rd (Z := Z3) (ν := ν) (k := 68) (show ((0 : Nat) : Int) = 0 from rfl) (show ((0 : Nat) : Int) = 0 from rfl) (show ((0 : Nat) : Int) = 0 from rfl)) (congrArg i3 ((hZ3A.1)))) (by omega) (by omega)) (decide_eq_false (by omega))) ?_
      refine wz_i0 (Eq.trans (i3T (Eq.trans (zm_rd (Z := Z3) (ν := ν) (k := 68) (show ((0 : Nat) : Int) = 0 from rfl) (show ((0 : Nat) : Int) = 0 from rfl) (show ((0 : Nat) : Int) = 0 from rfl)) (congrArg i3 ((hZ3A.1)))) (by omega) (by omega)) (decide_eq_false (by omega))) ?_
      refine wz_i0 (Eq.trans (i3T (Eq.trans (zm_rd (Z := Z3) (ν := ν) (k := 68) (show ((0 : Nat) : Int) = 0 from rfl) (show ((0 : Nat) : Int) = 0 from rfl) (show ((0 : Nat) : Int) = 0 from rfl)) (congrArg i3 ((hZ3A.1)))) (by omega) (by omega)) (decide_eq_false (by omega))) ?_
      refine wz_i0 (Eq.trans (i3T (Eq.trans (zm_rd (Z := Z3) (ν := ν) (k := 68) (show ((0 : Nat) : Int) = 0 from rfl) (show ((0 : Nat) : Int) = 0 from rfl) (show ((0 : Nat) : Int) = 0 from rfl)) (congrArg i3 ((hZ3A.1)))) (by omega) (by omega)) (decide_eq_false (by omega))) ?_
      refine wz_i0 (Eq.trans (i3T (Eq.trans (zm_rd (Z := Z3) (ν := ν) (k := 68) (show ((0 : Nat) : Int) = 0 from rfl) (show ((0 : Nat) : Int) = 0 from rfl) (show ((0 : Nat) : Int) = 0 from rfl)) (congrArg i3 ((hZ3A.1)))) (by omega) (by omega)) (decide_eq_false (by omega))) ?_
      refine wz_i0 (Eq.trans (i3T (Eq.trans (zm_rd (Z := Z3) (ν := ν) (k := 68) (show ((0 : Nat) : Int) = 0 from rfl) (show ((0 : Nat) : Int) = 0 from rfl) (show ((0 : Nat) : Int) = 0 from rfl)) (congrArg i3 ((hZ3A.1)))) (by omega) (by omega)) (decide_eq_false (by omega))) ?_
      refine wz_i0 (Eq.trans (i3T (Eq.trans (zm_rd (Z := Z3) (ν := ν) (k := 68) (show ((0 : Nat) : Int) = 0 from rfl) (show ((0 : Nat) : Int) = 0 from rfl) (show ((0 : Nat) : Int) = 0 from rfl)) (congrArg i3 ((hZ3A.1)))) (by omega) (by omega)) (decide_eq_false (by omega))) ?_
      refine wz_i0 (Eq.trans (i3T (Eq.trans (zm_rd (Z := Z3) (ν := ν) (k := 68) (show ((0 : Nat) : Int) = 0 from rfl) (show ((0 : Nat) : Int) = 0 from rfl) (show ((0 : Nat) : Int) = 0 from rfl)) (congrArg i3 ((hZ3A.1)))) (by omega) (by omega)) (decide_eq_false (by omega))) ?_
      refine wz_i0 (Eq.trans (i3T (Eq.trans (zm_rd (Z := Z3) (ν := ν) (k := 68) (show ((0 : Nat) : Int) = 0 from rfl) (show ((0 : Nat) : Int) = 0 from rfl) (show ((0 : Nat) : Int) = 0 from rfl)) (congrArg i3 ((hZ3A.1)))) (by omega) (by omega)) (decide_eq_false (by omega))) ?_
      refine wz_i0 (Eq.trans (i3T (Eq.trans (zm_rd (Z := Z3) (ν := ν) (k := 68) (show ((0 : Nat) : Int) = 0 from rfl) (show ((0 : Nat) : Int) = 0 from rfl) (show ((0 : Nat) : Int) = 0 from rfl)) (congrArg i3 ((hZ3A.1)))) (by omega) (by omega)) (decide_eq_false (by omega))) ?_
      refine wz_i0 (Eq.trans (i3T (Eq.trans (zm_rd (Z := Z3) (ν := ν) (k := 68) (show ((0 : Nat) : Int) = 0 from rfl) (show ((0 : Nat) : Int) = 0 from rfl) (show ((0 : Nat) : Int) = 0 from rfl)) (congrArg i3 ((hZ3A.1)))) (by omega) (by omega)) (decide_eq_false (by omega))) ?_
      refine wz_i0 (Eq.trans (i3T (Eq.trans (zm_rd (Z := Z3) (ν := ν) (k := 68) (show ((0 : Nat) : Int) = 0 from rfl) (show ((0 : Nat) : Int) = 0 from rfl) (show ((0 : Nat) : Int) = 0 from rfl)) (congrArg i3 ((hZ3A.1)))) (by omega) (by omega)) (decide_eq_false (by omega))) ?_
      refine wz_i0 (Eq.trans (i3T (Eq.trans (zm_rd (Z := Z3) (ν := ν) (k := 68) (show ((0 : Nat) : Int) = 0 from rfl) (show ((0 : Nat) : Int) = 0 from rfl) (show ((0 : Nat) : Int) = 0 from rfl)) (congrArg i3 ((hZ3A.1)))) (by omega) (by omega)) (decide_eq_false (by omega))) ?_
      refine wz_i0 (Eq.trans (i3T (Eq.trans (zm_rd (Z := Z3) (ν := ν) (k := 68) (show ((0 : Nat) : Int) = 0 from rfl) (show ((0 : Nat) : Int) = 0 from rfl) (show ((0 : Nat) : Int) = 0 from rfl)) (congrArg i3 ((hZ3A.1)))) (by omega) (by omega)) (decide_eq_false (by omega))) ?_
      refine wz_i0 (Eq.trans (i3T (Eq.trans (zm_rd (Z := Z3) (ν := ν) (k := 68) (show ((0 : Nat) : Int) = 0 from rfl) (show ((0 : Nat) : Int) = 0 from rfl) (show ((0 : Nat) : Int) = 0 from rfl)) (congrArg i3 ((hZ3A.1)))) (by omega) (by omega)) (decide_eq_false (by omega))) ?_
      refine wz_i0 (Eq.trans (i3T (Eq.trans (zm_rd (Z := Z3) (ν := ν) (k := 68) (show ((0 : Nat) : Int) = 0 from rfl) (show ((0 : Nat) : Int) = 0 from rfl) (show ((0 : Nat) : Int) = 0 from rfl)) (congrArg i3 ((hZ3A.1)))) (by omega) (by omega)) (decide_eq_false (by omega))) ?_
      refine wz_i0 (Eq.trans (i3T (Eq.trans (zm_rd (Z := Z3) (ν := ν) (k := 68) (show ((0 : Nat) : Int) = 0 from rfl) (show ((0 : Nat) : Int) = 0 from rfl) (show ((0 : Nat) : Int) = 0 from rfl)) (congrArg i3 ((hZ3A.1)))) (by omega) (by omega)) (decide_eq_false (by omega))) ?_
      refine wz_i0 (Eq.trans (i3T (Eq.trans (zm_rd (Z := Z3) (ν := ν) (k := 68) (show ((0 : Nat) : Int) = 0 from rfl) (show ((0 : Nat) : Int) = 0 from rfl) (show ((0 : Nat) : Int) = 0 from rfl)) (congrArg i3 ((hZ3A.1)))) (by omega) (by omega)) (decide_eq_false (by omega))) ?_
      refine wz_i0 (Eq.trans (i3T (Eq.trans (zm_rd (Z := Z3) (ν := ν) (k := 68) (show ((0 : Nat) : Int) = 0 from rfl) (show ((0 : Nat) : Int) = 0 from rfl) (show ((0 : Nat) : Int) = 0 from rfl)) (congrArg i3 ((hZ3A.1)))) (by omega) (by omega)) (decide_eq_false (by omega))) ?_
      refine wz_i0 (Eq.trans (i3T (Eq.trans (zm_rd (Z := Z3) (ν := ν) (k := 68) (show ((0 : Nat) : Int) = 0 from rfl) (show ((0 : Nat) : Int) = 0 from rfl) (show ((0 : Nat) : Int) = 0 from rfl)) (congrArg i3 ((hZ3A.1)))) (by omega) (by omega)) (decide_eq_false (by omega))) ?_
      refine wz_i0 (Eq.trans (i3T (Eq.trans (zm_rd (Z := Z3) (ν := ν) (k := 68) (show ((0 : Nat) : Int) = 0 from rfl) (show ((0 : Nat) : Int) = 0 from rfl) (show ((0 : Nat) : Int) = 0 from rfl)) (congrArg i3 ((hZ3A.1)))) (by omega) (by omega)) (decide_eq_false (by omega))) ?_
      refine wz_i0 (Eq.trans (i3T (Eq.trans (zm_rd (Z := Z3) (ν := ν) (k := 68) (show ((0 : Nat) : Int) = 0 from rfl) (show ((0 : Nat) : Int) = 0 from rfl) (show ((0 : Nat) : Int) = 0 from rfl)) (congrArg i3 ((hZ3A.1)))) (by omega) (by omega)) (decide_eq_false (by omega))) ?_
      refine wz_i0 (Eq.trans (i3T (Eq.trans (zm_rd (Z := Z3) (ν := ν) (k := 68) (show ((0 : Nat) : Int) = 0 from rfl) (show ((0 : Nat) : Int) = 0 from rfl) (show ((0 : Nat) : Int) = 0 from rfl)) (congrArg i3 ((hZ3A.1)))) (by omega) (by omega)) (decide_eq_false (by omega))) ?_
      refine wz_i0 (Eq.trans (i3T (Eq.trans (zm_rd (Z := Z3) (ν := ν) (k := 68) (show ((0 : Nat) : Int) = 0 from rfl) (show ((0 : Nat) : Int) = 0 from rfl) (show ((0 : Nat) : Int) = 0 from rfl)) (congrArg i3 ((hZ3A.1)))) (by omega) (by omega)) (decide_eq_false (by omega))) ?_
      refine wz_i0 (Eq.trans (i3T (Eq.trans (zm_rd (Z := Z3) (ν := ν) (k := 68) (show ((0 : Nat) : Int) = 0 from rfl) (show ((0 : Nat) : Int) = 0 from rfl) (show ((0 : Nat) : Int) = 0 from rfl)) (congrArg i3 ((hZ3A.1)))) (by omega) (by omega)) (decide_eq_false (by omega))) ?_
      refine wz_i1 (Eq.trans (i3T (Eq.trans (zm_rd (Z := Z3) (ν := ν) (k := 68) (show ((0 : Nat) : Int) = 0 from rfl) (show ((0 : Nat) : Int) = 0 from rfl) (show ((0 : Nat) : Int) = 0 from rfl)) (congrArg i3 ((hZ3A.1)))) (by omega) (by omega)) (decide_eq_true (by omega))) ?_
      refine wz_i1 rfl ?_
      refine wz_i0 (i3O (n := 7) (show (1 : Int32) = i3 1 from rfl) (by omega) (by omega) (by omega)) ?_
      refine wz_i1 rfl ?_
      refine wz_i0 (i3O (n := 7) (show (2 : Int32) = i3 2 from rfl) (by omega) (by omega) (by omega)) ?_
      refine wz_i0 (i3O (n := 4) (Eq.trans (zm_rd (Z := Z3) (ν := ν) (k := 68) (show ((0 : Nat) : Int) = 0 from rfl) (show ((0 : Nat) : Int) = 0 from rfl) (show ((1 : Nat) : Int) = 1 from rfl)) (congrArg i3 ((hZ3A.2.1)))) (by omega) (by omega) (by omega)) ?_
      refine wz_i0 (i3O (n := 4) (Eq.trans (zm_rd (Z := Z3) (ν := ν) (k := 68) (show ((0 : Nat) : Int) = 0 from rfl) (show ((0 : Nat) : Int) = 0 from rfl) (show ((1 : Nat) : Int) = 1 from rfl)) (congrArg i3 ((hZ3A.2.1)))) (by omega) (by omega) (by omega)) ?_
      obtain ⟨Z4, hZ4⟩ := zx (zu Z3 13 0 0 a1 a2)
      replace hP := zl_e hP hZ4
      have hZ4I := zH_u hZ3I hZ4 (lo := 0) (hi := 99999) (by decide) (zrc_13 (by omega) (by omega)) (by omega) ⟨by decide, by decide⟩ (Or.inl (by decide)) rfl
      have hZ4U : zU [0, 2, 3, 4, 5, 6, 7, 8, 9] Z Z4 := zU_u hZ3U hZ4 (Or.inr (List.Mem.head _))
      have hZ4K : zC [3, 12, 13, 14, 40, 41, 42, 43, 44, 45, 46, 47, 48, 49, 50, 51, 52, 53, 54, 61, 68, 1099, 1100, 1101, 1102, 1103, 1104, 1105, 1106, 1107, 1108, 1109, 1110, 1111, 1112, 1113, 1114, 1115, 1116] Z Z4 := zC_u hZ3K hZ4 rfl
      intro μ9 e9
      replace e9 := e9.trans (zm_wI (Z := Z3) (ν := ν) hZ4 (show ((0 : Nat) : Int) = 0 from rfl) (show ((0 : Nat) : Int) = 0 from rfl) (i3I (y := a1) (Eq.trans (zm_rd (Z := Z3) (ν := ν) (k := 68) (show ((0 : Nat) : Int) = 0 from rfl) (show ((0 : Nat) : Int) = 0 from rfl) (show ((1 : Nat) : Int) = 1 from rfl)) (congrArg i3 ((hZ3A.2.1)))) (by omega) (by omega) (by omega)) (Eq.trans (zm_rd (Z := Z3) (ν := ν) (k := 68) (show ((0 : Nat) : Int) = 0 from rfl) (show ((0 : Nat) : Int) = 0 from rfl) (show ((2 : Nat) : Int) = 2 from rfl)) (congrArg i3 ((hZ3A.2.2.1)))))
      subst e9
      have r5 := zH_k hZ3I 13 0 0 a1 (lo := 0) (hi := 99999) (by decide) (zrc_13 (by omega) (by omega))
      exact zlG hP (zm_rd (Z := Z3) (ν := ν) (k := 13) (show ((0 : Nat) : Int) = 0 from rfl) (show ((0 : Nat) : Int) = 0 from rfl) (i3I (y := a1) (Eq.trans (zm_rd (Z := Z3) (ν := ν) (k := 68) (show ((0 : Nat) : Int) = 0 from rfl) (show ((0 : Nat) : Int) = 0 from rfl) (show ((1 : Nat) : Int) = 1 from rfl)) (congrArg i3 ((hZ3A.2.1)))) (by omega) (by omega) (by omega))) ⟨hZ4I, hZ4K, hZ4U, zG_w zG_r (Nat.le_of_ble_eq_true rfl) (Nat.le_of_ble_eq_true rfl)⟩
    · replace hP := zE_n hP h2
      exact zlGe (E := 12) hP ⟨hZ, zC_r, zU_r, zG_w (zG_k rfl) (Nat.le_of_ble_eq_true rfl) (Nat.le_of_ble_eq_true rfl)⟩
  · replace hP := zE_n hP h1
    exact zlGe (E := 12) hP ⟨hZ, zC_r, zU_r, zG_w (zG_k rfl) (Nat.le_of_ble_eq_true rfl) (Nat.le_of_ble_eq_true rfl)⟩
/- yX9_howManyNumbers -/
def zf_152 (Z : qz_Z) (a0 : Int) : Int := (if a0 ≠ 15 then (if a0 = 8 then 2 else (if a0 = 20 then 2 else (if a0 ≠ 21 then 1 else 2))) else 4)
theorem sp_152 {s : zSM} {Z : qz_Z} {ν : qz_N} (hZ : zH s Z) {a0 : Int} (ga0 : 8 ≤ a0 ∧ a0 ≤ 21) (hM : s.2 + 0 ≤ 1000000000) : ∃ P : Int, P = zf_152 Z a0 ∧ (qf_152 [.inl (i3 a0)] (zm Z ν) = some (zm Z ν, .inl (some (.inl (i3 P)))) ∧ 1 ≤ P ∧ P ≤ 4) := by
  obtain ⟨P, hP⟩ := zx (zf_152 Z a0)
  refine zc_R (Q := fun P => 1 ≤ P ∧ P ≤ 4) hP (fw_152 (i3 a0) _ _ ?_)
  replace hP : zE P (zf_152 Z a0) := hP
  unfold zf_152 at hP
  refine wz_br (i3NE (rfl : i3 a0 = i3 a0) (show (15 : Int32) = i3 15 from rfl) (by omega) (by omega) (by omega) (by omega)) (fun h1 => ?_) (fun h1 => ?_)
  · replace hP := zE_p hP h1
    refine wz_br (i3E (rfl : i3 a0 = i3 a0) (show (8 : Int32) = i3 8 from rfl) (by omega) (by omega) (by omega) (by omega)) (fun h2 => ?_) (fun h2 => ?_)
    · replace hP := zE_p hP h2
      exact zlR hP (show (2 : Int32) = i3 2 from rfl) ⟨by omega, by omega⟩
    · replace hP := zE_n hP h2
      refine wz_br (i3E (rfl : i3 a0 = i3 a0) (show (20 : Int32) = i3 20 from rfl) (by omega) (by omega) (by omega) (by omega)) (fun h3 => ?_) (fun h3 => ?_)
      · replace hP := zE_p hP h3
        exact zlR hP (show (2 : Int32) = i3 2 from rfl) ⟨by omega, by omega⟩
      · replace hP := zE_n hP h3
        refine wz_br (i3NE (rfl : i3 a0 = i3 a0) (show (21 : Int32) = i3 21 from rfl) (by omega) (by omega) (by omega) (by omega)) (fun h4 => ?_) (fun h4 => ?_)
        · replace hP := zE_p hP h4
          exact zlR hP (show (1 : Int32) = i3 1 from rfl) ⟨by omega, by omega⟩
        · replace hP := zE_n hP h4
          exact zlR hP (show (2 : Int32) = i3 2 from rfl) ⟨by omega, by omega⟩
  · replace hP := zE_n hP h1
    exact zlR hP (show (4 : Int32) = i3 4 from rfl) ⟨by omega, by omega⟩
/- yX9_kindOf -/
def zf_156 (Z : qz_Z) (a0 : Int) : Int := (if a0 < 0 ∨ 5 < a0 then 12 else (if a0 = 0 then 8 else (if a0 = 1 then 15 else (if a0 = 2 then 16 else (if a0 = 3 then 20 else (if a0 = 4 then 21 else 9))))))
theorem sp_156 {s : zSM} {Z : qz_Z} {ν : qz_N} (hZ : zH s Z) {a0 : Int} (ga0 : 0 ≤ a0 ∧ a0 ≤ 6) (hM : s.2 + 0 ≤ 1000000000) : ∃ P : Int, P = zf_156 Z a0 ∧ (qf_156 [.inl (i3 a0)] (zm Z ν) = some (zm Z ν, .inl (some (.inl (i3 P)))) ∧ 8 ≤ P ∧ P ≤ 21) := by
  obtain ⟨P, hP⟩ := zx (zf_156 Z a0)
  refine zc_R (Q := fun P => 8 ≤ P ∧ P ≤ 21) hP (fw_156 (i3 a0) _ _ ?_)
  replace hP : zE P (zf_156 Z a0) := hP
  unfold zf_156 at hP
  refine wz_br (i3To (rfl : i3 a0 = i3 a0) (by omega) (by omega)) (fun h1 => ?_) (fun h1 => ?_)
  · replace hP := zE_p hP h1
    exact zlR hP (show (12 : Int32) = i3 12 from rfl) ⟨by omega, by omega⟩
  · replace hP := zE_n hP h1
    refine wz_br (i3T (rfl : i3 a0 = i3 a0) (by omega) (by omega)) (fun h2 => ?_) (fun h2 => ?_)
    · replace hP := zE_p hP h2
      exact zlR hP (show (8 : Int32) = i3 8 from rfl) ⟨by omega, by omega⟩
    · replace hP := zE_n hP h2
      refine wz_br (i3T (rfl : i3 a0 = i3 a0) (by omega) (by omega)) (fun h3 => ?_) (fun h3 => ?_)
      · replace hP := zE_p hP h3
        exact zlR hP (show (15 : Int32) = i3 15 from rfl) ⟨by omega, by omega⟩
      · replace hP := zE_n hP h3
        refine wz_br (i3T (rfl : i3 a0 = i3 a0) (by omega) (by omega)) (fun h4 => ?_) (fun h4 => ?_)
        · replace hP := zE_p hP h4
          exact zlR hP (show (16 : Int32) = i3 16 from rfl) ⟨by omega, by omega⟩
        · replace hP := zE_n hP h4
          refine wz_br (i3T (rfl : i3 a0 = i3 a0) (by omega) (by omega)) (fun h5 => ?_) (fun h5 => ?_)
          · replace hP := zE_p hP h5
            exact zlR hP (show (20 : Int32) = i3 20 from rfl) ⟨by omega, by omega⟩
          · replace hP := zE_n hP h5
            refine wz_br (i3T (rfl : i3 a0 = i3 a0) (by omega) (by omega)) (fun h6 => ?_) (fun h6 => ?_)
            · replace hP := zE_p hP h6
              exact zlR hP (show (21 : Int32) = i3 21 from rfl) ⟨by omega, by omega⟩
            · replace hP := zE_n hP h6
              refine wz_i1 (Eq.trans (i3T (rfl : i3 a0 = i3 a0) (by omega) (by omega)) (decide_eq_true (by omega))) ?_
              exact zlR hP (show (9 : Int32) = i3 9 from rfl) ⟨by omega, by omega⟩
/- yX9_readNumber -/
def zl_157_1 (x1 : Int) (x4 : Int) : Nat → qz_Z → Int → qz_Z × Int
  | 0, Z, x5 => (Z, x5)
  | m + 1, Z, x5 => (if (x1 + 5) ≤ x5 then (Z, x5) else (if (Z 4 0 0 1) ≤ x5 then (Z, x5) else (if (Z 66 0 0 x5) < 48 then (Z, x5) else (if 57 < (Z 66 0 0 x5) then (Z, x5) else (zlet (zu Z 68 0 0 x4 (w3 ((w3 ((w3 ((Z 68 0 0 x4) * 10)) + (Z 66 0 0 x5))) - 48))) (fun Z11 => zl_157_1 x1 x4 m Z11 (x5 + 1)))))))
theorem sl_157_1 {s : zSM} {Zs Z : qz_Z} {ν : qz_N} (hZ : zH s Z) (hM : s.2 + 0 ≤ 1000000000) (hK : zC [68] Zs Z) {x1 : Int} (gx1 : 0 ≤ x1 ∧ x1 ≤ 120) {x4 : Int} (gx4 : 1 ≤ x4 ∧ x4 ≤ 4) {x5 : Int} (gx5 : 0 ≤ x5 ∧ x5 ≤ 120) (hU : zU [] Zs Z) {k : wz_K} {R : wz_R} {L : qz_L} (hL : qz_fg [true, true, false, true, true, true] L = [some (.inr (.inr (some (4, 0, 0)))), some (.inl (i3 x1)), none, some (.inr (.inr (some (68, 0, 0)))), some (.inl (i3 x4)), some (.inl (i3 x5))]) {T : qz_Z × Int} (hP : zE T (zl_157_1 x1 x4 ((120 - x5).toNat + 1) Z x5)) (hk : ∀ (L9 : qz_L) (Z9 : qz_Z) (yx5 : Int), qz_fg [false, true, false, false, false, true] L9 = [none, some (.inl (i3 x1)), none, none, none, some (.inl (i3 yx5))] → zH s Z9 → zC [68] Zs Z9 → zU [] Zs Z9 → (0 ≤ yx5 ∧ yx5 ≤ 120) → zE T ((Z9, yx5)) → k 0 (L9, [], zm Z9 ν)) : wz_loop qb_157_1 65536 k R (L, [], zm Z ν) := by
  refine wz_lp sb_157_1 (fun m x => ∃ Z : qz_Z, ∃ x5 : Int, qz_fg [true, true, false, true, true, true] x.1 = [some (.inr (.inr (some (4, 0, 0)))), some (.inl (i3 x1)), none, some (.inr (.inr (some (68, 0, 0)))), some (.inl (i3 x4)), some (.inl (i3 x5))] ∧ x.2 = ([], zm Z ν) ∧ zH s Z ∧ zC [68] Zs Z ∧ zU [] Zs Z ∧ m = (120 - x5).toNat ∧ (0 ≤ x5 ∧ x5 ≤ 120) ∧ zE T (zl_157_1 x1 x4 (m + 1) Z x5)) ?_ 65536 ((120 - x5).toNat) _ (by omega) ⟨Z, x5, hL, rfl, hZ, hK, hU, rfl, gx5, hP⟩
  clear hP gx5 hZ hK hU hL
  clear x5
  clear Z
  rintro m ⟨L, st, μ⟩ ⟨Z, x5, hL, hx, hZ, hK, hU, hm, gx5, hP⟩
  cases hx
  refine fb_157_1 (i3 x1) (i3 x4) (i3 x5) _ _ _ _ hL ?_
  refine wz_br (i3Le (i3A (rfl : i3 x1 = i3 x1) (show (5 : Int32) = i3 5 from rfl)) (rfl : i3 x5 = i3 x5) (by omega) (by omega) (by omega) (by omega)) (fun h1 => ?_) (fun h1 => ?_)
  · replace hP := zE_p hP h1
    exact hk _ _ _ (zconso rfl (zconso (zvo (rfl : i3 x1 = i3 x1)) (zconso rfl (zconso rfl (zconso rfl (zconso (zvo (rfl : i3 x5 = i3 x5)) rfl)))))) hZ hK hU (by omega)  hP
  · replace hP := zE_n hP h1
    have r2 := zH_k hZ 4 0 0 1 (lo := 0) (hi := 120) (by decide) rfl
    refine wz_br (i3Le (zm_rd (Z := Z) (ν := ν) (k := 4) (show ((0 : Nat) : Int) = 0 from rfl) (show ((0 : Nat) : Int) = 0 from rfl) (show ((1 : Nat) : Int) = 1 from rfl)) (rfl : i3 x5 = i3 x5) (by omega) (by omega) (by omega) (by omega)) (fun h3 => ?_) (fun h3 => ?_)
    · replace hP := zE_p hP h3
      exact hk _ _ _ (zconso rfl (zconso (zvo (rfl : i3 x1 = i3 x1)) (zconso rfl (zconso rfl (zconso rfl (zconso (zvo (rfl : i3 x5 = i3 x5)) rfl)))))) hZ hK hU (by omega)  hP
    · replace hP := zE_n hP h3
      refine wz_i0 (i3O (n := 120) (rfl : i3 x5 = i3 x5) (by omega) (by omega) (by omega)) ?_
      have r4 := zH_k hZ 66 0 0 x5 (lo := 0) (hi := 126) (by decide) rfl
      refine wz_br (i3L (zm_rd (Z := Z) (ν := ν) (k := 66) (show ((0 : Nat) : Int) = 0 from rfl) (show ((0 : Nat) : Int) = 0 from rfl) (i3I (y := x5) (rfl : i3 x5 = i3 x5) (by omega) (by omega) (by omega))) (show (48 : Int32) = i3 48 from rfl) (by omega) (by omega) (by omega) (by omega)) (fun h5 => ?_) (fun h5 => ?_)
      · replace hP := zE_p hP h5
        exact hk _ _ _ (zconso rfl (zconso (zvo (rfl : i3 x1 = i3 x1)) (zconso rfl (zconso rfl (zconso rfl (zconso (zvo (rfl : i3 x5 = i3 x5)) rfl)))))) hZ hK hU (by omega)  hP
      · replace hP := zE_n hP h5
        refine wz_i0 (i3O (n := 120) (rfl : i3 x5 = i3 x5) (by omega) (by omega) (by omega)) ?_
        refine wz_br (i3L (show (57 : Int32) = i3 57 from rfl) (zm_rd (Z := Z) (ν := ν) (k := 66) (show ((0 : Nat) : Int) = 0 from rfl) (show ((0 : Nat) : Int) = 0 from rfl) (i3I (y := x5) (rfl : i3 x5 = i3 x5) (by omega) (by omega) (by omega))) (by omega) (by omega) (by omega) (by omega)) (fun h6 => ?_) (fun h6 => ?_)
        · replace hP := zE_p hP h6
          exact hk _ _ _ (zconso rfl (zconso (zvo (rfl : i3 x1 = i3 x1)) (zconso rfl (zconso rfl (zconso rfl (zconso (zvo (rfl : i3 x5 = i3 x5)) rfl)))))) hZ hK hU (by omega)  hP
        · replace hP := zE_n hP h6
          refine wz_i0 (i3O (n := 7) (rfl : i3 x4 = i3 x4) (by omega) (by omega) (by omega)) ?_
          refine wz_i0 (i3O (n := 120) (rfl : i3 x5 = i3 x5) (by omega) (by omega) (by omega)) ?_
          refine wz_i0 (i3O (n := 7) (rfl : i3 x4 = i3 x4) (by omega) (by omega) (by omega)) ?_
          have r7 := zH_f hZ 68 0 0 x4
          have r8 := w3_r ((Z 68 0 0 x4) * 10)
          have r9 := w3_r ((w3 ((Z 68 0 0 x4) * 10)) + (Z 66 0 0 x5))
          have r10 := w3_r ((w3 ((w3 ((Z 68 0 0 x4) * 10)) + (Z 66 0 0 x5))) - 48)
          obtain ⟨Z11, hZ11⟩ := zx (zu Z 68 0 0 x4 (w3 ((w3 ((w3 ((Z 68 0 0 x4) * 10)) + (Z 66 0 0 x5))) - 48)))
          replace hP := zl_e hP hZ11
          have hZ11I := zH_u hZ hZ11 (lo := -2147483648) (hi := 2147483647) (by decide) rfl (by omega) ⟨by decide, by decide⟩ (Or.inl (by decide)) rfl
          have hZ11U : zU [] Zs Z11 := zU_u hU hZ11 (Or.inl rfl)
          have hZ11K : zC [68] Zs Z11 := zC_u hK hZ11 rfl
          intro μ9 e9
          replace e9 := e9.trans (zm_wI (Z := Z) (ν := ν) hZ11 (show ((0 : Nat) : Int) = 0 from rfl) (show ((0 : Nat) : Int) = 0 from rfl) (i3I (y := x4) (rfl : i3 x4 = i3 x4) (by omega) (by omega) (by omega)) (i3W (i3S (i3W (i3A (i3W (i3M (zm_rd (Z := Z) (ν := ν) (k := 68) (show ((0 : Nat) : Int) = 0 from rfl) (show ((0 : Nat) : Int) = 0 from rfl) (i3I (y := x4) (rfl : i3 x4 = i3 x4) (by omega) (by omega) (by omega))) (show (10 : Int32) = i3 10 from rfl))) (zm_rd (Z := Z) (ν := ν) (k := 66) (show ((0 : Nat) : Int) = 0 from rfl) (show ((0 : Nat) : Int) = 0 from rfl) (i3I (y := x5) (rfl : i3 x5 = i3 x5) (by omega) (by omega) (by omega))))) (show (48 : Int32) = i3 48 from rfl))))
          subst e9
          obtain ⟨m2, rfl⟩ : ∃ m2, m = m2 + 1 := ⟨m - 1, by omega⟩
          exact wz_k1 ⟨m2, by omega, Z11, (x5 + 1), (zconso rfl (zconso (zvo (rfl : i3 x1 = i3 x1)) (zconso rfl (zconso rfl (zconso (zvo (rfl : i3 x4 = i3 x4)) (zconso (zvo (i3A (rfl : i3 x5 = i3 x5) (show (1 : Int32) = i3 1 from rfl))) rfl)))))), rfl, hZ11I, hZ11K, hZ11U, by omega, by omega,  hP⟩
/- yX9_readNumber -/
def zf_157 (Z : qz_Z) (a1 : Int) (a2 : Int) (a4 : Int) : qz_Z × Int := (if a2 = 0 then (zlet2 (zl_157_1 a1 a4 ((120 - a1).toNat + 1) Z a1) (fun Z3 y2 => (if y2 ≤ a1 then (Z3, ((-2) - a1)) else (Z3, y2)))) else (if (Z 4 0 0 1) ≤ a1 then (zlet2 (zl_157_1 a1 a4 ((120 - a1).toNat + 1) Z a1) (fun Z9 y8 => (if y8 ≤ a1 then (Z9, ((-2) - a1)) else (Z9, y8)))) else (if (Z 66 0 0 a1) ≠ 45 then (zlet2 (zl_157_1 a1 a4 ((120 - a1).toNat + 1) Z a1) (fun Z15 y14 => (if y14 ≤ a1 then (Z15, ((-2) - a1)) else (Z15, y14)))) else (zlet (zu Z 68 0 0 a4 (-1)) (fun Z18 => (Z18, (a1 + 1)))))))
theorem sp_157 {s : zSM} {Z : qz_Z} {ν : qz_N} (hZ : zH s Z) {a1 : Int} (ga1 : 0 ≤ a1 ∧ a1 ≤ 120) {a2 : Int} (ga2 : 0 ≤ a2 ∧ a2 ≤ 1) {a4 : Int} (ga4 : 1 ≤ a4 ∧ a4 ≤ 4) (hM : s.2 + 0 ≤ 1000000000) : ∃ (Z1 : qz_Z) (P : Int), (Z1, P) = zf_157 Z a1 a2 a4 ∧ (qf_157 [.inr (.inr (some (4, 0, 0))), .inl (i3 a1), .inl (i3 a2), .inr (.inr (some (68, 0, 0))), .inl (i3 a4)] (zm Z ν) = some (zm Z1 ν, .inl (some (.inl (i3 P)))) ∧ zH s Z1 ∧ zC [68] Z Z1 ∧ zU [] Z Z1 ∧ -122 ≤ P ∧ P ≤ 120) := by
  obtain ⟨P, hP⟩ := zx (zf_157 Z a1 a2 a4)
  refine zc_W (Q := fun Z1 P => zH s Z1 ∧ zC [68] Z Z1 ∧ zU [] Z Z1 ∧ -122 ≤ P ∧ P ≤ 120) hP (fw_157 (i3 a1) (i3 a2) (i3 a4) _ _ ?_)
  replace hP : zE P (zf_157 Z a1 a2 a4) := hP
  unfold zf_157 at hP
  refine wz_br (i3E (rfl : i3 a2 = i3 a2) (show (0 : Int32) = i3 0 from rfl) (by omega) (by omega) (by omega) (by omega)) (fun h1 => ?_) (fun h1 => ?_)
  · replace hP := zE_p hP h1
    refine sl_157_1 (ν := ν) hZ (zbh (c := 0) (k := 0) hM (Nat.le_of_ble_eq_true rfl)) zC_r (x1 := a1) (by omega) (x4 := a4) (by omega) (x5 := a1) (by omega) zU_r  (zconso rfl (zconso (zvo (rfl : i3 a1 = i3 a1)) (zconso rfl (zconso rfl (zconso (zvo (rfl : i3 a4 = i3 a4)) (zconso (zvo (rfl : i3 a1 = i3 a1)) rfl)))))) rfl ?_
    intro L4 Z3 y2 hL4 hZ3I kZ3 jZ3 gy2 q9
    replace hP := zl_e2 hP (Eq.symm q9)
    clear q9
    have hZ3U : zU [] Z Z3 := zU_t zU_r jZ3 zU_b0
    have hZ3K : zC [68] Z Z3 := zC_t zC_r kZ3 (by decide)
    refine fc_157_2 (i3 a1) (i3 y2) _ _ _ _ hL4 ?_
    refine wz_br (i3Le (rfl : i3 y2 = i3 y2) (rfl : i3 a1 = i3 a1) (by omega) (by omega) (by omega) (by omega)) (fun h5 => ?_) (fun h5 => ?_)
    · replace hP := zE_p hP h5
      exact zlW hP (i3S (show (-2 : Int32) = i3 (-2) from rfl) (rfl : i3 a1 = i3 a1)) ⟨hZ3I, hZ3K, hZ3U, by omega, by omega⟩
    · replace hP := zE_n hP h5
      exact zlW hP (rfl : i3 y2 = i3 y2) ⟨hZ3I, hZ3K, hZ3U, by omega, by omega⟩
  · replace hP := zE_n hP h1
    have r6 := zH_k hZ 4 0 0 1 (lo := 0) (hi := 120) (by decide) rfl
    refine wz_br (i3Le (zm_rd (Z := Z) (ν := ν) (k := 4) (show ((0 : Nat) : Int) = 0 from rfl) (show ((0 : Nat) : Int) = 0 from rfl) (show ((1 : Nat) : Int) = 1 from rfl)) (rfl : i3 a1 = i3 a1) (by omega) (by omega) (by omega) (by omega)) (fun h7 => ?_) (fun h7 => ?_)
    · replace hP := zE_p hP h7
      refine sl_157_1 (ν := ν) hZ (zbh (c := 0) (k := 0) hM (Nat.le_of_ble_eq_true rfl)) zC_r (x1 := a1) (by omega) (x4 := a4) (by omega) (x5 := a1) (by omega) zU_r  (zconso rfl (zconso (zvo (rfl : i3 a1 = i3 a1)) (zconso rfl (zconso rfl (zconso (zvo (rfl : i3 a4 = i3 a4)) (zconso (zvo (rfl : i3 a1 = i3 a1)) rfl)))))) rfl ?_
      intro L10 Z9 y8 hL10 hZ9I kZ9 jZ9 gy8 q9
      replace hP := zl_e2 hP (Eq.symm q9)
      clear q9
      have hZ9U : zU [] Z Z9 := zU_t zU_r jZ9 zU_b0
      have hZ9K : zC [68] Z Z9 := zC_t zC_r kZ9 (by decide)
      refine fc_157_2 (i3 a1) (i3 y8) _ _ _ _ hL10 ?_
      refine wz_br (i3Le (rfl : i3 y8 = i3 y8) (rfl : i3 a1 = i3 a1) (by omega) (by omega) (by omega) (by omega)) (fun h11 => ?_) (fun h11 => ?_)
      · replace hP := zE_p hP h11
        exact zlW hP (i3S (show (-2 : Int32) = i3 (-2) from rfl) (rfl : i3 a1 = i3 a1)) ⟨hZ9I, hZ9K, hZ9U, by omega, by omega⟩
      · replace hP := zE_n hP h11
        exact zlW hP (rfl : i3 y8 = i3 y8) ⟨hZ9I, hZ9K, hZ9U, by omega, by omega⟩
    · replace hP := zE_n hP h7
      refine wz_i0 (i3O (n := 120) (rfl : i3 a1 = i3 a1) (by omega) (by omega) (by omega)) ?_
      have r12 := zH_k hZ 66 0 0 a1 (lo := 0) (hi := 126) (by decide) rfl
      refine wz_br (i3NE (zm_rd (Z := Z) (ν := ν) (k := 66) (show ((0 : Nat) : Int) = 0 from rfl) (show ((0 : Nat) : Int) = 0 from rfl) (i3I (y := a1) (rfl : i3 a1 = i3 a1) (by omega) (by omega) (by omega))) (show (45 : Int32) = i3 45 from rfl) (by omega) (by omega) (by omega) (by omega)) (fun h13 => ?_) (fun h13 => ?_)
      · replace hP := zE_p hP h13
        refine sl_157_1 (ν := ν) hZ (zbh (c := 0) (k := 0) hM (Nat.le_of_ble_eq_true rfl)) zC_r (x1 := a1) (by omega) (x4 := a4) (by omega) (x5 := a1) (by omega) zU_r  (zconso rfl (zconso (zvo (rfl : i3 a1 = i3 a1)) (zconso rfl (zconso rfl (zconso (zvo (rfl : i3 a4 = i3 a4)) (zconso (zvo (rfl : i3 a1 = i3 a1)) rfl)))))) rfl ?_
        intro L16 Z15 y14 hL16 hZ15I kZ15 jZ15 gy14 q9
        replace hP := zl_e2 hP (Eq.symm q9)
        clear q9
        have hZ15U : zU [] Z Z15 := zU_t zU_r jZ15 zU_b0
        have hZ15K : zC [68] Z Z15 := zC_t zC_r kZ15 (by decide)
        refine fc_157_2 (i3 a1) (i3 y14) _ _ _ _ hL16 ?_
        refine wz_br (i3Le (rfl : i3 y14 = i3 y14) (rfl : i3 a1 = i3 a1) (by omega) (by omega) (by omega) (by omega)) (fun h17 => ?_) (fun h17 => ?_)
        · replace hP := zE_p hP h17
          exact zlW hP (i3S (show (-2 : Int32) = i3 (-2) from rfl) (rfl : i3 a1 = i3 a1)) ⟨hZ15I, hZ15K, hZ15U, by omega, by omega⟩
        · replace hP := zE_n hP h17
          exact zlW hP (rfl : i3 y14 = i3 y14) ⟨hZ15I, hZ15K, hZ15U, by omega, by omega⟩
      · replace hP := zE_n hP h13
        refine wz_i0 (i3O (n := 7) (rfl : i3 a4 = i3 a4) (by omega) (by omega) (by omega)) ?_
        obtain ⟨Z18, hZ18⟩ := zx (zu Z 68 0 0 a4 (-1))
        replace hP := zl_e hP hZ18
        have hZ18I := zH_u hZ hZ18 (lo := -2147483648) (hi := 2147483647) (by decide) rfl (by omega) ⟨by decide, by decide⟩ (Or.inl (by decide)) rfl
        have hZ18U : zU [] Z Z18 := zU_u zU_r hZ18 (Or.inl rfl)
        have hZ18K : zC [68] Z Z18 := zC_u zC_r hZ18 rfl
        intro μ9 e9
        replace e9 := e9.trans (zm_wI (Z := Z) (ν := ν) hZ18 (show ((0 : Nat) : Int) = 0 from rfl) (show ((0 : Nat) : Int) = 0 from rfl) (i3I (y := a4) (rfl : i3 a4 = i3 a4) (by omega) (by omega) (by omega)) (show (-1 : Int32) = i3 (-1) from rfl))
        subst e9
        exact zlW hP (i3A (rfl : i3 a1 = i3 a1) (show (1 : Int32) = i3 1 from rfl)) ⟨hZ18I, hZ18K, hZ18U, by omega, by omega⟩
/- yX9_readTask -/
def zl_158_1 (x1 : Int) (x3 : Int) : Nat → qz_Z → Int → qz_Z × Int
  | 0, Z, x4 => (Z, x4)
  | m + 1, Z, x4 => (if 7 ≤ x4 then (Z, x4) else (zlet (zu Z 68 0 0 x4 0) (fun Z2 => zl_158_1 x1 x3 m Z2 (x4 + 1))))
theorem sl_158_1 {s : zSM} {Zs Z : qz_Z} {ν : qz_N} (hZ : zH s Z) (hM : s.2 + 0 ≤ 1000000000) (hK : zC [68] Zs Z) {x1 : Int} (gx1 : 0 ≤ x1 ∧ x1 ≤ 119) {x3 : Int} (gx3 : 0 ≤ x3 ∧ x3 ≤ 6) {x4 : Int} (gx4 : 0 ≤ x4 ∧ x4 ≤ 7) (hU : zU [] Zs Z) {k : wz_K} {R : wz_R} {L : qz_L} (hL : qz_fg [true, true, true, true, true, false, false, false] L = [some (.inr (.inr (some (4, 0, 0)))), some (.inl (i3 x1)), some (.inr (.inr (some (68, 0, 0)))), some (.inl (i3 x3)), some (.inl (i3 x4)), none, none, none]) {T : qz_Z × Int} (hP : zE T (zl_158_1 x1 x3 ((7 - x4).toNat + 1) Z x4)) (hk : ∀ (L9 : qz_L) (Z9 : qz_Z) (yx4 : Int), qz_fg [true, true, true, true, false, false, false, false] L9 = [some (.inr (.inr (some (4, 0, 0)))), some (.inl (i3 x1)), some (.inr (.inr (some (68, 0, 0)))), some (.inl (i3 x3)), none, none, none, none] → zH s Z9 → zC [68] Zs Z9 → zU [] Zs Z9 → (0 ≤ yx4 ∧ yx4 ≤ 7) → zE T ((Z9, yx4)) → k 0 (L9, [], zm Z9 ν)) : wz_loop qb_158_1 65536 k R (L, [], zm Z ν) := by
  refine wz_lp sb_158_1 (fun m x => ∃ Z : qz_Z, ∃ x4 : Int, qz_fg [true, true, true, true, true, false, false, false] x.1 = [some (.inr (.inr (some (4, 0, 0)))), some (.inl (i3 x1)), some (.inr (.inr (some (68, 0, 0)))), some (.inl (i3 x3)), some (.inl (i3 x4)), none, none, none] ∧ x.2 = ([], zm Z ν) ∧ zH s Z ∧ zC [68] Zs Z ∧ zU [] Zs Z ∧ m = (7 - x4).toNat ∧ (0 ≤ x4 ∧ x4 ≤ 7) ∧ zE T (zl_158_1 x1 x3 (m + 1) Z x4)) ?_ 65536 ((7 - x4).toNat) _ (by omega) ⟨Z, x4, hL, rfl, hZ, hK, hU, rfl, gx4, hP⟩
  clear hP gx4 hZ hK hU hL
  clear x4
  clear Z
  rintro m ⟨L, st, μ⟩ ⟨Z, x4, hL, hx, hZ, hK, hU, hm, gx4, hP⟩
  cases hx
  refine fb_158_1 (i3 x1) (i3 x3) (i3 x4) _ _ _ _ hL ?_
  refine wz_br (i3Le (show (7 : Int32) = i3 7 from rfl) (rfl : i3 x4 = i3 x4) (by omega) (by omega) (by omega) (by omega)) (fun h1 => ?_) (fun h1 => ?_)
  · replace hP := zE_p hP h1
    exact hk _ _ _ (zconso rfl (zconso (zvo (rfl : i3 x1 = i3 x1)) (zconso rfl (zconso (zvo (rfl : i3 x3 = i3 x3)) (zconso rfl (zconso rfl (zconso rfl (zconso rfl rfl)))))))) hZ hK hU (by omega)  hP
  · replace hP := zE_n hP h1
    refine wz_i0 (i3O (n := 7) (rfl : i3 x4 = i3 x4) (by omega) (by omega) (by omega)) ?_
    obtain ⟨Z2, hZ2⟩ := zx (zu Z 68 0 0 x4 0)
    replace hP := zl_e hP hZ2
    have hZ2I := zH_0 hZ hZ2 (by decide) (Or.inl (by decide))
    have hZ2U : zU [] Zs Z2 := zU_u hU hZ2 (Or.inl rfl)
    have hZ2K : zC [68] Zs Z2 := zC_u hK hZ2 rfl
    intro μ9 e9
    replace e9 := e9.trans (zm_wI (Z := Z) (ν := ν) hZ2 (show ((0 : Nat) : Int) = 0 from rfl) (show ((0 : Nat) : Int) = 0 from rfl) (i3I (y := x4) (rfl : i3 x4 = i3 x4) (by omega) (by omega) (by omega)) (show (0 : Int32) = i3 0 from rfl))
    subst e9
    obtain ⟨m2, rfl⟩ : ∃ m2, m = m2 + 1 := ⟨m - 1, by omega⟩
    exact wz_k1 ⟨m2, by omega, Z2, (x4 + 1), (zconso rfl (zconso (zvo (rfl : i3 x1 = i3 x1)) (zconso rfl (zconso (zvo (rfl : i3 x3 = i3 x3)) (zconso (zvo (i3A (rfl : i3 x4 = i3 x4) (show (1 : Int32) = i3 1 from rfl))) (zconso rfl (zconso rfl (zconso rfl rfl)))))))), rfl, hZ2I, hZ2K, hZ2U, by omega, by omega,  hP⟩
/- yX9_readTask -/
def zl_158_2 (x4 : Int) : Nat → qz_Z → Int → Int → qz_Z × Int × Int
  | 0, Z, x5, x6 => (Z, x5, x6)
  | m + 1, Z, x5, x6 => (if x4 < x6 then (Z, x5, x6) else (if x5 < 0 then (Z, x5, x6) else (if x6 ≠ 2 then (zlet2 (zf_157 Z x5 0 x6) (fun Z4 v5 => (if v5 < 0 then zl_158_2 x4 m Z4 v5 (x6 + 1) else (if x4 ≤ x6 then (if (Z4 4 0 0 1) ≤ v5 then zl_158_2 x4 m Z4 ((-2) - v5) (x6 + 1) else (if (Z4 66 0 0 v5) ≠ 59 then zl_158_2 x4 m Z4 ((-2) - v5) (x6 + 1) else zl_158_2 x4 m Z4 (v5 + 1) (x6 + 1))) else (if (Z4 4 0 0 1) ≤ v5 then zl_158_2 x4 m Z4 ((-2) - v5) (x6 + 1) else (if (Z4 66 0 0 v5) ≠ 44 then zl_158_2 x4 m Z4 ((-2) - v5) (x6 + 1) else zl_158_2 x4 m Z4 (v5 + 1) (x6 + 1))))))) else (if (Z 68 0 0 0) = 8 then (zlet2 (zf_157 Z x5 1 x6) (fun Z18 v19 => (if v19 < 0 then zl_158_2 x4 m Z18 v19 (x6 + 1) else (if x4 ≤ x6 then (if (Z18 4 0 0 1) ≤ v19 then zl_158_2 x4 m Z18 ((-2) - v19) (x6 + 1) else (if (Z18 66 0 0 v19) ≠ 59 then zl_158_2 x4 m Z18 ((-2) - v19) (x6 + 1) else zl_158_2 x4 m Z18 (v19 + 1) (x6 + 1))) else (if (Z18 4 0 0 1) ≤ v19 then zl_158_2 x4 m Z18 ((-2) - v19) (x6 + 1) else (if (Z18 66 0 0 v19) ≠ 44 then zl_158_2 x4 m Z18 ((-2) - v19) (x6 + 1) else zl_158_2 x4 m Z18 (v19 + 1) (x6 + 1))))))) else (if (Z 68 0 0 0) ≠ 21 then (zlet2 (zf_157 Z x5 0 x6) (fun Z31 v32 => (if v32 < 0 then zl_158_2 x4 m Z31 v32 (x6 + 1) else (if x4 ≤ x6 then (if (Z31 4 0 0 1) ≤ v32 then zl_158_2 x4 m Z31 ((-2) - v32) (x6 + 1) else (if (Z31 66 0 0 v32) ≠ 59 then zl_158_2 x4 m Z31 ((-2) - v32) (x6 + 1) else zl_158_2 x4 m Z31 (v32 + 1) (x6 + 1))) else (if (Z31 4 0 0 1) ≤ v32 then zl_158_2 x4 m Z31 ((-2) - v32) (x6 + 1) else (if (Z31 66 0 0 v32) ≠ 44 then zl_158_2 x4 m Z31 ((-2) - v32) (x6 + 1) else zl_158_2 x4 m Z31 (v32 + 1) (x6 + 1))))))) else (zlet2 (zf_157 Z x5 1 x6) (fun Z43 v44 => (if v44 < 0 then zl_158_2 x4 m Z43 v44 (x6 + 1) else (if x4 ≤ x6 then (if (Z43 4 0 0 1) ≤ v44 then zl_158_2 x4 m Z43 ((-2) - v44) (x6 + 1) else (if (Z43 66 0 0 v44) ≠ 59 then zl_158_2 x4 m Z43 ((-2) - v44) (x6 + 1) else zl_158_2 x4 m Z43 (v44 + 1) (x6 + 1))) else (if (Z43 4 0 0 1) ≤ v44 then zl_158_2 x4 m Z43 ((-2) - v44) (x6 + 1) else (if (Z43 66 0 0 v44) ≠ 44 then zl_158_2 x4 m Z43 ((-2) - v44) (x6 + 1) else zl_158_2 x4 m Z43 (v44 + 1) (x6 + 1))))))))))))
theorem sl_158_2 {s : zSM} {Zs Z : qz_Z} {ν : qz_N} (hZ : zH s Z) (hM : s.2 + 0 ≤ 1000000000) (hK : zC [68] Zs Z) {x4 : Int} (gx4 : 1 ≤ x4 ∧ x4 ≤ 4) {x5 : Int} (gx5 : -122 ≤ x5 ∧ x5 ≤ 120) {x6 : Int} (gx6 : 1 ≤ x6 ∧ x6 ≤ 5) (hU : zU [] Zs Z) {k : wz_K} {R : wz_R} {L : qz_L} (hL : qz_fg [true, false, true, false, true, true, true, false] L = [some (.inr (.inr (some (4, 0, 0)))), none, some (.inr (.inr (some (68, 0, 0)))), none, some (.inl (i3 x4)), some (.inl (i3 x5)), some (.inl (i3 x6)), none]) {T : qz_Z × Int × Int} (hP : zE T (zl_158_2 x4 ((5 - x6).toNat + 1) Z x5 x6)) (hk : ∀ (L9 : qz_L) (Z9 : qz_Z) (yx5 yx6 : Int), qz_fg [false, false, false, false, false, true, false, false] L9 = [none, none, none, none, none, some (.inl (i3 yx5)), none, none] → zH s Z9 → zC [68] Zs Z9 → zU [] Zs Z9 → (-122 ≤ yx5 ∧ yx5 ≤ 120) → (1 ≤ yx6 ∧ yx6 ≤ 5) → zE T ((Z9, yx5, yx6)) → k 0 (L9, [], zm Z9 ν)) : wz_loop qb_158_2 65536 k R (L, [], zm Z ν) := by
  refine wz_lp sb_158_2 (fun m x => ∃ Z : qz_Z, ∃ x5 : Int, ∃ x6 : Int, qz_fg [true, false, true, false, true, true, true, false] x.1 = [some (.inr (.inr (some (4, 0, 0)))), none, some (.inr (.inr (some (68, 0, 0)))), none, some (.inl (i3 x4)), some (.inl (i3 x5)), some (.inl (i3 x6)), none] ∧ x.2 = ([], zm Z ν) ∧ zH s Z ∧ zC [68] Zs Z ∧ zU [] Zs Z ∧ m = (5 - x6).toNat ∧ (-122 ≤ x5 ∧ x5 ≤ 120) ∧ (1 ≤ x6 ∧ x6 ≤ 5) ∧ zE T (zl_158_2 x4 (m + 1) Z x5 x6)) ?_ 65536 ((5 - x6).toNat) _ (by omega) ⟨Z, x5, x6, hL, rfl, hZ, hK, hU, rfl, gx5, gx6, hP⟩
  clear hP gx5 gx6 hZ hK hU hL
  clear x5 x6
  clear Z
  rintro m ⟨L, st, μ⟩ ⟨Z, x5, x6, hL, hx, hZ, hK, hU, hm, gx5, gx6, hP⟩
  cases hx
  refine fb_158_2 (i3 x4) (i3 x5) (i3 x6) _ _ _ _ hL ?_
  refine wz_br (i3L (rfl : i3 x4 = i3 x4) (rfl : i3 x6 = i3 x6) (by omega) (by omega) (by omega) (by omega)) (fun h1 => ?_) (fun h1 => ?_)
  · replace hP := zE_p hP h1
    exact hk _ _ _ _ (zconso rfl (zconso rfl (zconso rfl (zconso rfl (zconso rfl (zconso (zvo (rfl : i3 x5 = i3 x5)) (zconso rfl (zconso rfl rfl)))))))) hZ hK hU (by omega) (by omega)  hP
  · replace hP := zE_n hP h1
    refine wz_br (i3L (rfl : i3 x5 = i3 x5) (show (0 : Int32) = i3 0 from rfl) (by omega) (by omega) (by omega) (by omega)) (fun h2 => ?_) (fun h2 => ?_)
    · replace hP := zE_p hP h2
      exact hk _ _ _ _ (zconso rfl (zconso rfl (zconso rfl (zconso rfl (zconso rfl (zconso (zvo (rfl : i3 x5 = i3 x5)) (zconso rfl (zconso rfl rfl)))))))) hZ hK hU (by omega) (by omega)  hP
    · replace hP := zE_n hP h2
      refine wz_br (i3NE (rfl : i3 x6 = i3 x6) (show (2 : Int32) = i3 2 from rfl) (by omega) (by omega) (by omega) (by omega)) (fun h3 => ?_) (fun h3 => ?_)
      · replace hP := zE_p hP h3
        obtain ⟨Z4, v5, hv5, c9, hZ4I, kZ4, jZ4, lv5, uv5⟩ := sp_157 (ν := ν) hZ (a1 := x5) (by omega) (a2 := 0) (by omega) (a4 := x6) (by omega) (zbh (c := 0) (k := 0) hM (Nat.le_of_ble_eq_true rfl))
        have hZ4U : zU [] Zs Z4 := zU_t hU jZ4 zU_b0
        have hZ4K : zC [68] Zs Z4 := zC_t hK kZ4 (by decide)
        replace hP := zl_e2 hP hv5
        refine wz_cI_of (zas (zcons rfl (zcons (zvi (rfl : i3 x5 = i3 x5)) (zcons (zvi (show (0 : Int32) = i3 0 from rfl)) (zcons rfl (zcons (zvi (rfl : i3 x6 = i3 x6)) rfl))))) c9) ?_
        clear c9 hv5
        refine wz_br (i3L (rfl : i3 v5 = i3 v5) (show (0 : Int32) = i3 0 from rfl) (by omega) (by omega) (by omega) (by omega)) (fun h6 => ?_) (fun h6 => ?_)
        · replace hP := zE_p hP h6
          obtain ⟨m2, rfl⟩ : ∃ m2, m = m2 + 1 := ⟨m - 1, by omega⟩
          exact wz_k1 ⟨m2, by omega, Z4, v5, (x6 + 1), (zconso rfl (zconso rfl (zconso rfl (zconso rfl (zconso (zvo (rfl : i3 x4 = i3 x4)) (zconso (zvo (rfl : i3 v5 = i3 v5)) (zconso (zvo (i3A (rfl : i3 x6 = i3 x6) (show (1 : Int32) = i3 1 from rfl))) (zconso rfl rfl)))))))), rfl, hZ4I, hZ4K, hZ4U, by omega, by omega, by omega,  hP⟩
        · replace hP := zE_n hP h6
          refine wz_br (i3Le (rfl : i3 x4 = i3 x4) (rfl : i3 x6 = i3 x6) (by omega) (by omega) (by omega) (by omega)) (fun h7 => ?_) (fun h7 => ?_)
          · replace hP := zE_p hP h7
            have r8 := zH_k hZ4I 4 0 0 1 (lo := 0) (hi := 120) (by decide) rfl
            refine wz_br (i3Le (zm_rd (Z := Z4) (ν := ν) (k := 4) (show ((0 : Nat) : Int) = 0 from rfl) (show ((0 : Nat) : Int) = 0 from rfl) (show ((1 : Nat) : Int) = 1 from rfl)) (rfl : i3 v5 = i3 v5) (by omega) (by omega) (by omega) (by omega)) (fun h9 => ?_) (fun h9 => ?_)
            · replace hP := zE_p hP h9
              obtain ⟨m2, rfl⟩ : ∃ m2, m = m2 + 1 := ⟨m - 1, by omega⟩
              exact wz_k1 ⟨m2, by omega, Z4, ((-2) - v5), (x6 + 1), (zconso rfl (zconso rfl (zconso rfl (zconso rfl (zconso (zvo (rfl : i3 x4 = i3 x4)) (zconso (zvo (i3S (show (-2 : Int32) = i3 (-2) from rfl) (rfl : i3 v5 = i3 v5))) (zconso (zvo (i3A (rfl : i3 x6 = i3 x6) (show (1 : Int32) = i3 1 from rfl))) (zconso rfl rfl)))))))), rfl, hZ4I, hZ4K, hZ4U, by omega, by omega, by omega,  hP⟩
            · replace hP := zE_n hP h9
              refine wz_i0 (i3O (n := 120) (rfl : i3 v5 = i3 v5) (by omega) (by omega) (by omega)) ?_
              have r10 := zH_k hZ4I 66 0 0 v5 (lo := 0) (hi := 126) (by decide) rfl
              refine wz_br (i3NE (zm_rd (Z := Z4) (ν := ν) (k := 66) (show ((0 : Nat) : Int) = 0 from rfl) (show ((0 : Nat) : Int) = 0 from rfl) (i3I (y := v5) (rfl : i3 v5 = i3 v5) (by omega) (by omega) (by omega))) (show (59 : Int32) = i3 59 from rfl) (by omega) (by omega) (by omega) (by omega)) (fun h11 => ?_) (fun h11 => ?_)
              · replace hP := zE_p hP h11
                obtain ⟨m2, rfl⟩ : ∃ m2, m = m2 + 1 := ⟨m - 1, by omega⟩
                exact wz_k1 ⟨m2, by omega, Z4, ((-2) - v5), (x6 + 1), (zconso rfl (zconso rfl (zconso rfl (zconso rfl (zconso (zvo (rfl : i3 x4 = i3 x4)) (zconso (zvo (i3S (show (-2 : Int32) = i3 (-2) from rfl) (rfl : i3 v5 = i3 v5))) (zconso (zvo (i3A (rfl : i3 x6 = i3 x6) (show (1 : Int32) = i3 1 from rfl))) (zconso rfl rfl)))))))), rfl, hZ4I, hZ4K, hZ4U, by omega, by omega, by omega,  hP⟩
              · replace hP := zE_n hP h11
                obtain ⟨m2, rfl⟩ : ∃ m2, m = m2 + 1 := ⟨m - 1, by omega⟩
                exact wz_k1 ⟨m2, by omega, Z4, (v5 + 1), (x6 + 1), (zconso rfl (zconso rfl (zconso rfl (zconso rfl (zconso (zvo (rfl : i3 x4 = i3 x4)) (zconso (zvo (i3A (rfl : i3 v5 = i3 v5) (show (1 : Int32) = i3 1 from rfl))) (zconso (zvo (i3A (rfl : i3 x6 = i3 x6) (show (1 : Int32) = i3 1 from rfl))) (zconso rfl rfl)))))))), rfl, hZ4I, hZ4K, hZ4U, by omega, by omega, by omega,  hP⟩
          · replace hP := zE_n hP h7
            have r12 := zH_k hZ4I 4 0 0 1 (lo := 0) (hi := 120) (by decide) rfl
            refine wz_br (i3Le (zm_rd (Z := Z4) (ν := ν) (k := 4) (show ((0 : Nat) : Int) = 0 from rfl) (show ((0 : Nat) : Int) = 0 from rfl) (show ((1 : Nat) : Int) = 1 from rfl)) (rfl : i3 v5 = i3 v5) (by omega) (by omega) (by omega) (by omega)) (fun h13 => ?_) (fun h13 => ?_)
            · replace hP := zE_p hP h13
              obtain ⟨m2, rfl⟩ : ∃ m2, m = m2 + 1 := ⟨m - 1, by omega⟩
              exact wz_k1 ⟨m2, by omega, Z4, ((-2) - v5), (x6 + 1), (zconso rfl (zconso rfl (zconso rfl (zconso rfl (zconso (zvo (rfl : i3 x4 = i3 x4)) (zconso (zvo (i3S (show (-2 : Int32) = i3 (-2) from rfl) (rfl : i3 v5 = i3 v5))) (zconso (zvo (i3A (rfl : i3 x6 = i3 x6) (show (1 : Int32) = i3 1 from rfl))) (zconso rfl rfl)))))))), rfl, hZ4I, hZ4K, hZ4U, by omega, by omega, by omega,  hP⟩
            · replace hP := zE_n hP h13
              refine wz_i0 (i3O (n := 120) (rfl : i3 v5 = i3 v5) (by omega) (by omega) (by omega)) ?_
              have r14 := zH_k hZ4I 66 0 0 v5 (lo := 0) (hi := 126) (by decide) rfl
              refine wz_br (i3NE (zm_rd (Z := Z4) (ν := ν) (k := 66) (show ((0 : Nat) : Int) = 0 from rfl) (show ((0 : Nat) : Int) = 0 from rfl) (i3I (y := v5) (rfl : i3 v5 = i3 v5) (by omega) (by omega) (by omega))) (show (44 : Int32) = i3 44 from rfl) (by omega) (by omega) (by omega) (by omega)) (fun h15 => ?_) (fun h15 => ?_)
              · replace hP := zE_p hP h15
                obtain ⟨m2, rfl⟩ : ∃ m2, m = m2 + 1 := ⟨m - 1, by omega⟩
                exact wz_k1 ⟨m2, by omega, Z4, ((-2) - v5), (x6 + 1), (zconso rfl (zconso rfl (zconso rfl (zconso rfl (zconso (zvo (rfl : i3 x4 = i3 x4)) (zconso (zvo (i3S (show (-2 : Int32) = i3 (-2) from rfl) (rfl : i3 v5 = i3 v5))) (zconso (zvo (i3A (rfl : i3 x6 = i3 x6) (show (1 : Int32) = i3 1 from rfl))) (zconso rfl rfl)))))))), rfl, hZ4I, hZ4K, hZ4U, by omega, by omega, by omega,  hP⟩
              · replace hP := zE_n hP h15
                obtain ⟨m2, rfl⟩ : ∃ m2, m = m2 + 1 := ⟨m - 1, by omega⟩
                exact wz_k1 ⟨m2, by omega, Z4, (v5 + 1), (x6 + 1), (zconso rfl (zconso rfl (zconso rfl (zconso rfl (zconso (zvo (rfl : i3 x4 = i3 x4)) (zconso (zvo (i3A (rfl : i3 v5 = i3 v5) (show (1 : Int32) = i3 1 from rfl))) (zconso (zvo (i3A (rfl : i3 x6 = i3 x6) (show (1 : Int32) = i3 1 from rfl))) (zconso rfl rfl)))))))), rfl, hZ4I, hZ4K, hZ4U, by omega, by omega, by omega,  hP⟩
      · replace hP := zE_n hP h3
        have r16 := zH_f hZ 68 0 0 0
        refine wz_br (i3E (zm_rd (Z := Z) (ν := ν) (k := 68) (show ((0 : Nat) : Int) = 0 from rfl) (show ((0 : Nat) : Int) = 0 from rfl) (show ((0 : Nat) : Int) = 0 from rfl)) (show (8 : Int32) = i3 8 from rfl) (by omega) (by omega) (by omega) (by omega)) (fun h17 => ?_) (fun h17 => ?_)
        · replace hP := zE_p hP h17
          obtain ⟨Z18, v19, hv19, c9, hZ18I, kZ18, jZ18, lv19, uv19⟩ := sp_157 (ν := ν) hZ (a1 := x5) (by omega) (a2 := 1) (by omega) (a4 := x6) (by omega) (zbh (c := 0) (k := 0) hM (Nat.le_of_ble_eq_true rfl))
          have hZ18U : zU [] Zs Z18 := zU_t hU jZ18 zU_b0
          have hZ18K : zC [68] Zs Z18 := zC_t hK kZ18 (by decide)
          replace hP := zl_e2 hP hv19
          refine wz_cI_of (zas (zcons rfl (zcons (zvi (rfl : i3 x5 = i3 x5)) (zcons (zvi (show (1 : Int32) = i3 1 from rfl)) (zcons rfl (zcons (zvi (rfl : i3 x6 = i3 x6)) rfl))))) c9) ?_
          clear c9 hv19
          refine wz_br (i3L (rfl : i3 v19 = i3 v19) (show (0 : Int32) = i3 0 from rfl) (by omega) (by omega) (by omega) (by omega)) (fun h20 => ?_) (fun h20 => ?_)
          · replace hP := zE_p hP h20
            obtain ⟨m2, rfl⟩ : ∃ m2, m = m2 + 1 := ⟨m - 1, by omega⟩
            exact wz_k1 ⟨m2, by omega, Z18, v19, (x6 + 1), (zconso rfl (zconso rfl (zconso rfl (zconso rfl (zconso (zvo (rfl : i3 x4 = i3 x4)) (zconso (zvo (rfl : i3 v19 = i3 v19)) (zconso (zvo (i3A (rfl : i3 x6 = i3 x6) (show (1 : Int32) = i3 1 from rfl))) (zconso rfl rfl)))))))), rfl, hZ18I, hZ18K, hZ18U, by omega, by omega, by omega,  hP⟩
          · replace hP := zE_n hP h20
            refine wz_br (i3Le (rfl : i3 x4 = i3 x4) (rfl : i3 x6 = i3 x6) (by omega) (by omega) (by omega) (by omega)) (fun h21 => ?_) (fun h21 => ?_)
            · replace hP := zE_p hP h21
              have r22 := zH_k hZ18I 4 0 0 1 (lo := 0) (hi := 120) (by decide) rfl
              refine wz_br (i3Le (zm_rd (Z := Z18) (ν := ν) (k := 4) (show ((0 : Nat) : Int) = 0 from rfl) (show ((0 : Nat) : Int) = 0 from rfl) (show ((1 : Nat) : Int) = 1 from rfl)) (rfl : i3 v19 = i3 v19) (by omega) (by omega) (by omega) (by omega)) (fun h23 => ?_) (fun h23 => ?_)
              · replace hP := zE_p hP h23
                obtain ⟨m2, rfl⟩ : ∃ m2, m = m2 + 1 := ⟨m - 1, by omega⟩
                exact wz_k1 ⟨m2, by omega, Z18, ((-2) - v19), (x6 + 1), (zconso rfl (zconso rfl (zconso rfl (zconso rfl (zconso (zvo (rfl : i3 x4 = i3 x4)) (zconso (zvo (i3S (show (-2 : Int32) = i3 (-2) from rfl) (rfl : i3 v19 = i3 v19))) (zconso (zvo (i3A (rfl : i3 x6 = i3 x6) (show (1 : Int32) = i3 1 from rfl))) (zconso rfl rfl)))))))), rfl, hZ18I, hZ18K, hZ18U, by omega, by omega, by omega,  hP⟩
              · replace hP := zE_n hP h23
                refine wz_i0 (i3O (n := 120) (rfl : i3 v19 = i3 v19) (by omega) (by omega) (by omega)) ?_
                have r24 := zH_k hZ18I 66 0 0 v19 (lo := 0) (hi := 126) (by decide) rfl
                refine wz_br (i3NE (zm_rd (Z := Z18) (ν := ν) (k := 66) (show ((0 : Nat) : Int) = 0 from rfl) (show ((0 : Nat) : Int) = 0 from rfl) (i3I (y := v19) (rfl : i3 v19 = i3 v19) (by omega) (by omega) (by omega))) (show (59 : Int32) = i3 59 from rfl) (by omega) (by omega) (by omega) (by omega)) (fun h25 => ?_) (fun h25 => ?_)
                · replace hP := zE_p hP h25
                  obtain ⟨m2, rfl⟩ : ∃ m2, m = m2 + 1 := ⟨m - 1, by omega⟩
                  exact wz_k1 ⟨m2, by omega, Z18, ((-2) - v19), (x6 + 1), (zconso rfl (zconso rfl (zconso rfl (zconso rfl (zconso (zvo (rfl : i3 x4 = i3 x4)) (zconso (zvo (i3S (show (-2 : Int32) = i3 (-2) from rfl) (rfl : i3 v19 = i3 v19))) (zconso (zvo (i3A (rfl : i3 x6 = i3 x6) (show (1 : Int32) = i3 1 from rfl))) (zconso rfl rfl)))))))), rfl, hZ18I, hZ18K, hZ18U, by omega, by omega, by omega,  hP⟩
                · replace hP := zE_n hP h25
                  obtain ⟨m2, rfl⟩ : ∃ m2, m = m2 + 1 := ⟨m - 1, by omega⟩
                  exact wz_k1 ⟨m2, by omega, Z18, (v19 + 1), (x6 + 1), (zconso rfl (zconso rfl (zconso rfl (zconso rfl (zconso (zvo (rfl : i3 x4 = i3 x4)) (zconso (zvo (i3A (rfl : i3 v19 = i3 v19) (show (1 : Int32) = i3 1 from rfl))) (zconso (zvo (i3A (rfl : i3 x6 = i3 x6) (show (1 : Int32) = i3 1 from rfl))) (zconso rfl rfl)))))))), rfl, hZ18I, hZ18K, hZ18U, by omega, by omega, by omega,  hP⟩
            · replace hP := zE_n hP h21
              have r26 := zH_k hZ18I 4 0 0 1 (lo := 0) (hi := 120) (by decide) rfl
              refine wz_br (i3Le (zm_rd (Z := Z18) (ν := ν) (k := 4) (show ((0 : Nat) : Int) = 0 from rfl) (show ((0 : Nat) : Int) = 0 from rfl) (show ((1 : Nat) : Int) = 1 from rfl)) (rfl : i3 v19 = i3 v19) (by omega) (by omega) (by omega) (by omega)) (fun h27 => ?_) (fun h27 => ?_)
              · replace hP := zE_p hP h27
                obtain ⟨m2, rfl⟩ : ∃ m2, m = m2 + 1 := ⟨m - 1, by omega⟩
                exact wz_k1 ⟨m2, by omega, Z18, ((-2) - v19), (x6 + 1), (zconso rfl (zconso rfl (zconso rfl (zconso rfl (zconso (zvo (rfl : i3 x4 = i3 x4)) (zconso (zvo (i3S (show (-2 : Int32) = i3 (-2) from rfl) (rfl : i3 v19 = i3 v19))) (zconso (zvo (i3A (rfl : i3 x6 = i3 x6) (show (1 : Int32) = i3 1 from rfl))) (zconso rfl rfl)))))))), rfl, hZ18I, hZ18K, hZ18U, by omega, by omega, by omega,  hP⟩
              · replace hP := zE_n hP h27
                refine wz_i0 (i3O (n := 120) (rfl : i3 v19 = i3 v19) (by omega) (by omega) (by omega)) ?_
                have r28 := zH_k hZ18I 66 0 0 v19 (lo := 0) (hi := 126) (by decide) rfl
                refine wz_br (i3NE (zm_rd (Z := Z18) (ν := ν) (k := 66) (show ((0 : Nat) : Int) = 0 from rfl) (show ((0 : Nat) : Int) = 0 from rfl) (i3I (y := v19) (rfl : i3 v19 = i3 v19) (by omega) (by omega) (by omega))) (show (44 : Int32) = i3 44 from rfl) (by omega) (by omega) (by omega) (by omega)) (fun h29 => ?_) (fun h29 => ?_)
                · replace hP := zE_p hP h29
                  obtain ⟨m2, rfl⟩ : ∃ m2, m = m2 + 1 := ⟨m - 1, by omega⟩
                  exact wz_k1 ⟨m2, by omega, Z18, ((-2) - v19), (x6 + 1), (zconso rfl (zconso rfl (zconso rfl (zconso rfl (zconso (zvo (rfl : i3 x4 = i3 x4)) (zconso (zvo (i3S (show (-2 : Int32) = i3 (-2) from rfl) (rfl : i3 v19 = i3 v19))) (zconso (zvo (i3A (rfl : i3 x6 = i3 x6) (show (1 : Int32) = i3 1 from rfl))) (zconso rfl rfl)))))))), rfl, hZ18I, hZ18K, hZ18U, by omega, by omega, by omega,  hP⟩
                · replace hP := zE_n hP h29
                  obtain ⟨m2, rfl⟩ : ∃ m2, m = m2 + 1 := ⟨m - 1, by omega⟩
                  exact wz_k1 ⟨m2, by omega, Z18, (v19 + 1), (x6 + 1), (zconso rfl (zconso rfl (zconso rfl (zconso rfl (zconso (zvo (rfl : i3 x4 = i3 x4)) (zconso (zvo (i3A (rfl : i3 v19 = i3 v19) (show (1 : Int32) = i3 1 from rfl))) (zconso (zvo (i3A (rfl : i3 x6 = i3 x6) (show (1 : Int32) = i3 1 from rfl))) (zconso rfl rfl)))))))), rfl, hZ18I, hZ18K, hZ18U, by omega, by omega, by omega,  hP⟩
        · replace hP := zE_n hP h17
          refine wz_br (i3NE (zm_rd (Z := Z) (ν := ν) (k := 68) (show ((0 : Nat) : Int) = 0 from rfl) (show ((0 : Nat) : Int) = 0 from rfl) (show ((0 : Nat) : Int) = 0 from rfl)) (show (21 : Int32) = i3 21 from rfl) (by omega) (by omega) (by omega) (by omega)) (fun h30 => ?_) (fun h30 => ?_)
          · replace hP := zE_p hP h30
            obtain ⟨Z31, v32, hv32, c9, hZ31I, kZ31, jZ31, lv32, uv32⟩ := sp_157 (ν := ν) hZ (a1 := x5) (by omega) (a2 := 0) (by omega) (a4 := x6) (by omega) (zbh (c := 0) (k := 0) hM (Nat.le_of_ble_eq_true rfl))
            have hZ31U : zU [] Zs Z31 := zU_t hU jZ31 zU_b0
            have hZ31K : zC [68] Zs Z31 := zC_t hK kZ31 (by decide)
            replace hP := zl_e2 hP hv32
            refine wz_cI_of (zas (zcons rfl (zcons (zvi (rfl : i3 x5 = i3 x5)) (zcons (zvi (show (0 : Int32) = i3 0 from rfl)) (zcons rfl (zcons (zvi (rfl : i3 x6 = i3 x6)) rfl))))) c9) ?_
            clear c9 hv32
            refine wz_br (i3L (rfl : i3 v32 = i3 v32) (show (0 : Int32) = i3 0 from rfl) (by omega) (by omega) (by omega) (by omega)) (fun h33 => ?_) (fun h33 => ?_)
            · replace hP := zE_p hP h33
              obtain ⟨m2, rfl⟩ : ∃ m2, m = m2 + 1 := ⟨m - 1, by omega⟩
              exact wz_k1 ⟨m2, by omega, Z31, v32, (x6 + 1), (zconso rfl (zconso rfl (zconso rfl (zconso rfl (zconso (zvo (rfl : i3 x4 = i3 x4)) (zconso (zvo (rfl : i3 v32 = i3 v32)) (zconso (zvo (i3A (rfl : i3 x6 = i3 x6) (show (1 : Int32) = i3 1 from rfl))) (zconso rfl rfl)))))))), rfl, hZ31I, hZ31K, hZ31U, by omega, by omega, by omega,  hP⟩
            · replace hP := zE_n hP h33
              refine wz_br (i3Le (rfl : i3 x4 = i3 x4) (rfl : i3 x6 = i3 x6) (by omega) (by omega) (by omega) (by omega)) (fun h34 => ?_) (fun h34 => ?_)
              · replace hP := zE_p hP h34
                have r35 := zH_k hZ31I 4 0 0 1 (lo := 0) (hi := 120) (by decide) rfl
                refine wz_br (i3Le (zm_rd (Z := Z31) (ν := ν) (k := 4) (show ((0 : Nat) : Int) = 0 from rfl) (show ((0 : Nat) : Int) = 0 from rfl) (show ((1 : Nat) : Int) = 1 from rfl)) (rfl : i3 v32 = i3 v32) (by omega) (by omega) (by omega) (by omega)) (fun h36 => ?_) (fun h36 => ?_)
                · replace hP := zE_p hP h36
                  obtain ⟨m2, rfl⟩ : ∃ m2, m = m2 + 1 := ⟨m - 1, by omega⟩
                  exact wz_k1 ⟨m2, by omega, Z31, ((-2) - v32), (x6 + 1), (zconso rfl (zconso rfl (zconso rfl (zconso rfl (zconso (zvo (rfl : i3 x4 = i3 x4)) (zconso (zvo (i3S (show (-2 : Int32) = i3 (-2) from rfl) (rfl : i3 v32 = i3 v32))) (zconso (zvo (i3A (rfl : i3 x6 = i3 x6) (show (1 : Int32) = i3 1 from rfl))) (zconso rfl rfl)))))))), rfl, hZ31I, hZ31K, hZ31U, by omega, by omega, by omega,  hP⟩
                · replace hP := zE_n hP h36
                  refine wz_i0 (i3O (n := 120) (rfl : i3 v32 = i3 v32) (by omega) (by omega) (by omega)) ?_
                  have r37 := zH_k hZ31I 66 0 0 v32 (lo := 0) (hi := 126) (by decide) rfl
                  refine wz_br (i3NE (zm_rd (Z := Z31) (ν := ν) (k := 66) (show ((0 : Nat) : Int) = 0 from rfl) (show ((0 : Nat) : Int) = 0 from rfl) (i3I (y := v32) (rfl : i3 v32 = i3 v32) (by omega) (by omega) (by omega))) (show (59 : Int32) = i3 59 from rfl) (by omega) (by omega) (by omega) (by omega)) (fun h38 => ?_) (fun h38 => ?_)
                  · replace hP := zE_p hP h38
                    obtain ⟨m2, rfl⟩ : ∃ m2, m = m2 + 1 := ⟨m - 1, by omega⟩
                    exact wz_k1 ⟨m2, by omega, Z31, ((-2) - v32), (x6 + 1), (zconso rfl (zconso rfl (zconso rfl (zconso rfl (zconso (zvo (rfl : i3 x4 = i3 x4)) (zconso (zvo (i3S (show (-2 : Int32) = i3 (-2) from rfl) (rfl : i3 v32 = i3 v32))) (zconso (zvo (i3A (rfl : i3 x6 = i3 x6) (show (1 : Int32) = i3 1 from rfl))) (zconso rfl rfl)))))))), rfl, hZ31I, hZ31K, hZ31U, by omega, by omega, by omega,  hP⟩
                  · replace hP := zE_n hP h38
                    obtain ⟨m2, rfl⟩ : ∃ m2, m = m2 + 1 := ⟨m - 1, by omega⟩
                    exact wz_k1 ⟨m2, by omega, Z31, (v32 + 1), (x6 + 1), (zconso rfl (zconso rfl (zconso rfl (zconso rfl (zconso (zvo (rfl : i3 x4 = i3 x4)) (zconso (zvo (i3A (rfl : i3 v32 = i3 v32) (show (1 : Int32) = i3 1 from rfl))) (zconso (zvo (i3A (rfl : i3 x6 = i3 x6) (show (1 : Int32) = i3 1 from rfl))) (zconso rfl rfl)))))))), rfl, hZ31I, hZ31K, hZ31U, by omega, by omega, by omega,  hP⟩
              · replace hP := zE_n hP h34
                have r39 := zH_k hZ31I 4 0 0 1 (lo := 0) (hi := 120) (by decide) rfl
                refine wz_br (i3Le (zm_rd (Z := Z31) (ν := ν) (k := 4) (show ((0 : Nat) : Int) = 0 from rfl) (show ((0 : Nat) : Int) = 0 from rfl) (show ((1 : Nat) : Int) = 1 from rfl)) (rfl : i3 v32 = i3 v32) (by omega) (by omega) (by omega) (by omega)) (fun h40 => ?_) (fun h40 => ?_)
                · replace hP := zE_p hP h40
                  obtain ⟨m2, rfl⟩ : ∃ m2, m = m2 + 1 := ⟨m - 1, by omega⟩
                  exact wz_k1 ⟨m2, by omega, Z31, ((-2) - v32), (x6 + 1), (zconso rfl (zconso rfl (zconso rfl (zconso rfl (zconso (zvo (rfl : i3 x4 = i3 x4)) (zconso (zvo (i3S (show (-2 : Int32) = i3 (-2) from rfl) (rfl : i3 v32 = i3 v32))) (zconso (zvo (i3A (rfl : i3 x6 = i3 x6) (show (1 : Int32) = i3 1 from rfl))) (zconso rfl rfl)))))))), rfl, hZ31I, hZ31K, hZ31U, by omega, by omega, by omega,  hP⟩
                · replace hP := zE_n hP h40
                  refine wz_i0 (i3O (n := 120) (rfl : i3 v32 = i3 v32) (by omega) (by omega) (by omega)) ?_
                  have r41 := zH_k hZ31I 66 0 0 v32 (lo := 0) (hi := 126) (by decide) rfl
                  refine wz_br (i3NE (zm_rd (Z := Z31) (ν := ν) (k := 66) (show ((0 : Nat) : Int) = 0 from rfl) (show ((0 : Nat) : Int) = 0 from rfl) (i3I (y := v32) (rfl : i3 v32 = i3 v32) (by omega) (by omega) (by omega))) (show (44 : Int32) = i3 44 from rfl) (by omega) (by omega) (by omega) (by omega)) (fun h42 => ?_) (fun h42 => ?_)
                  · replace hP := zE_p hP h42
                    obtain ⟨m2, rfl⟩ : ∃ m2, m = m2 + 1 := ⟨m - 1, by omega⟩
                    exact wz_k1 ⟨m2, by omega, Z31, ((-2) - v32), (x6 + 1), (zconso rfl (zconso rfl (zconso rfl (zconso rfl (zconso (zvo (rfl : i3 x4 = i3 x4)) (zconso (zvo (i3S (show (-2 : Int32) = i3 (-2) from rfl) (rfl : i3 v32 = i3 v32))) (zconso (zvo (i3A (rfl : i3 x6 = i3 x6) (show (1 : Int32) = i3 1 from rfl))) (zconso rfl rfl)))))))), rfl, hZ31I, hZ31K, hZ31U, by omega, by omega, by omega,  hP⟩
                  · replace hP := zE_n hP h42
                    obtain ⟨m2, rfl⟩ : ∃ m2, m = m2 + 1 := ⟨m - 1, by omega⟩
                    exact wz_k1 ⟨m2, by omega, Z31, (v32 + 1), (x6 + 1), (zconso rfl (zconso rfl (zconso rfl (zconso rfl (zconso (zvo (rfl : i3 x4 = i3 x4)) (zconso (zvo (i3A (rfl : i3 v32 = i3 v32) (show (1 : Int32) = i3 1 from rfl))) (zconso (zvo (i3A (rfl : i3 x6 = i3 x6) (show (1 : Int32) = i3 1 from rfl))) (zconso rfl rfl)))))))), rfl, hZ31I, hZ31K, hZ31U, by omega, by omega, by omega,  hP⟩
          · replace hP := zE_n hP h30
            obtain ⟨Z43, v44, hv44, c9, hZ43I, kZ43, jZ43, lv44, uv44⟩ := sp_157 (ν := ν) hZ (a1 := x5) (by omega) (a2 := 1) (by omega) (a4 := x6) (by omega) (zbh (c := 0) (k := 0) hM (Nat.le_of_ble_eq_true rfl))
            have hZ43U : zU [] Zs Z43 := zU_t hU jZ43 zU_b0
            have hZ43K : zC [68] Zs Z43 := zC_t hK kZ43 (by decide)
            replace hP := zl_e2 hP hv44
            refine wz_cI_of (zas (zcons rfl (zcons (zvi (rfl : i3 x5 = i3 x5)) (zcons (zvi (show (1 : Int32) = i3 1 from rfl)) (zcons rfl (zcons (zvi (rfl : i3 x6 = i3 x6)) rfl))))) c9) ?_
            clear c9 hv44
            refine wz_br (i3L (rfl : i3 v44 = i3 v44) (show (0 : Int32) = i3 0 from rfl) (by omega) (by omega) (by omega) (by omega)) (fun h45 => ?_) (fun h45 => ?_)
            · replace hP := zE_p hP h45
              obtain ⟨m2, rfl⟩ : ∃ m2, m = m2 + 1 := ⟨m - 1, by omega⟩
              exact wz_k1 ⟨m2, by omega, Z43, v44, (x6 + 1), (zconso rfl (zconso rfl (zconso rfl (zconso rfl (zconso (zvo (rfl : i3 x4 = i3 x4)) (zconso (zvo (rfl : i3 v44 = i3 v44)) (zconso (zvo (i3A (rfl : i3 x6 = i3 x6) (show (1 : Int32) = i3 1 from rfl))) (zconso rfl rfl)))))))), rfl, hZ43I, hZ43K, hZ43U, by omega, by omega, by omega,  hP⟩
            · replace hP := zE_n hP h45
              refine wz_br (i3Le (rfl : i3 x4 = i3 x4) (rfl : i3 x6 = i3 x6) (by omega) (by omega) (by omega) (by omega)) (fun h46 => ?_) (fun h46 => ?_)
              · replace hP := zE_p hP h46
                have r47 := zH_k hZ43I 4 0 0 1 (lo := 0) (hi := 120) (by decide) rfl
                refine wz_br (i3Le (zm_rd (Z := Z43) (ν := ν) (k := 4) (show ((0 : Nat) : Int) = 0 from rfl) (show ((0 : Nat) : Int) = 0 from rfl) (show ((1 : Nat) : Int) = 1 from rfl)) (rfl : i3 v44 = i3 v44) (by omega) (by omega) (by omega) (by omega)) (fun h48 => ?_) (fun h48 => ?_)
                · replace hP := zE_p hP h48
                  obtain ⟨m2, rfl⟩ : ∃ m2, m = m2 + 1 := ⟨m - 1, by omega⟩
                  exact wz_k1 ⟨m2, by omega, Z43, ((-2) - v44), (x6 + 1), (zconso rfl (zconso rfl (zconso rfl (zconso rfl (zconso (zvo (rfl : i3 x4 = i3 x4)) (zconso (zvo (i3S (show (-2 : Int32) = i3 (-2) from rfl) (rfl : i3 v44 = i3 v44))) (zconso (zvo (i3A (rfl : i3 x6 = i3 x6) (show (1 : Int32) = i3 1 from rfl))) (zconso rfl rfl)))))))), rfl, hZ43I, hZ43K, hZ43U, by omega, by omega, by omega,  hP⟩
                · replace hP := zE_n hP h48
                  refine wz_i0 (i3O (n := 120) (rfl : i3 v44 = i3 v44) (by omega) (by omega) (by omega)) ?_
                  have r49 := zH_k hZ43I 66 0 0 v44 (lo := 0) (hi := 126) (by decide) rfl
                  refine wz_br (i3NE (zm_rd (Z := Z43) (ν := ν) (k := 66) (show ((0 : Nat) : Int) = 0 from rfl) (show ((0 : Nat) : Int) = 0 from rfl) (i3I (y := v44) (rfl : i3 v44 = i3 v44) (by omega) (by omega) (by omega))) (show (59 : Int32) = i3 59 from rfl) (by omega) (by omega) (by omega) (by omega)) (fun h50 => ?_) (fun h50 => ?_)
                  · replace hP := zE_p hP h50
                    obtain ⟨m2, rfl⟩ : ∃ m2, m = m2 + 1 := ⟨m - 1, by omega⟩
                    exact wz_k1 ⟨m2, by omega, Z43, ((-2) - v44), (x6 + 1), (zconso rfl (zconso rfl (zconso rfl (zconso rfl (zconso (zvo (rfl : i3 x4 = i3 x4)) (zconso (zvo (i3S (show (-2 : Int32) = i3 (-2) from rfl) (rfl : i3 v44 = i3 v44))) (zconso (zvo (i3A (rfl : i3 x6 = i3 x6) (show (1 : Int32) = i3 1 from rfl))) (zconso rfl rfl)))))))), rfl, hZ43I, hZ43K, hZ43U, by omega, by omega, by omega,  hP⟩
                  · replace hP := zE_n hP h50
                    obtain ⟨m2, rfl⟩ : ∃ m2, m = m2 + 1 := ⟨m - 1, by omega⟩
                    exact wz_k1 ⟨m2, by omega, Z43, (v44 + 1), (x6 + 1), (zconso rfl (zconso rfl (zconso rfl (zconso rfl (zconso (zvo (rfl : i3 x4 = i3 x4)) (zconso (zvo (i3A (rfl : i3 v44 = i3 v44) (show (1 : Int32) = i3 1 from rfl))) (zconso (zvo (i3A (rfl : i3 x6 = i3 x6) (show (1 : Int32) = i3 1 from rfl))) (zconso rfl rfl)))))))), rfl, hZ43I, hZ43K, hZ43U, by omega, by omega, by omega,  hP⟩
              · replace hP := zE_n hP h46
                have r51 := zH_k hZ43I 4 0 0 1 (lo := 0) (hi := 120) (by decide) rfl
                refine wz_br (i3Le (zm_rd (Z := Z43) (ν := ν) (k := 4) (show ((0 : Nat) : Int) = 0 from rfl) (show ((0 : Nat) : Int) = 0 from rfl) (show ((1 : Nat) : Int) = 1 from rfl)) (rfl : i3 v44 = i3 v44) (by omega) (by omega) (by omega) (by omega)) (fun h52 => ?_) (fun h52 => ?_)
                · replace hP := zE_p hP h52
                  obtain ⟨m2, rfl⟩ : ∃ m2, m = m2 + 1 := ⟨m - 1, by omega⟩
                  exact wz_k1 ⟨m2, by omega, Z43, ((-2) - v44), (x6 + 1), (zconso rfl (zconso rfl (zconso rfl (zconso rfl (zconso (zvo (rfl : i3 x4 = i3 x4)) (zconso (zvo (i3S (show (-2 : Int32) = i3 (-2) from rfl) (rfl : i3 v44 = i3 v44))) (zconso (zvo (i3A (rfl : i3 x6 = i3 x6) (show (1 : Int32) = i3 1 from rfl))) (zconso rfl rfl)))))))), rfl, hZ43I, hZ43K, hZ43U, by omega, by omega, by omega,  hP⟩
                · replace hP := zE_n hP h52
                  refine wz_i0 (i3O (n := 120) (rfl : i3 v44 = i3 v44) (by omega) (by omega) (by omega)) ?_
                  have r53 := zH_k hZ43I 66 0 0 v44 (lo := 0) (hi := 126) (by decide) rfl
                  refine wz_br (i3NE (zm_rd (Z := Z43) (ν := ν) (k := 66) (show ((0 : Nat) : Int) = 0 from rfl) (show ((0 : Nat) : Int) = 0 from rfl) (i3I (y := v44) (rfl : i3 v44 = i3 v44) (by omega) (by omega) (by omega))) (show (44 : Int32) = i3 44 from rfl) (by omega) (by omega) (by omega) (by omega)) (fun h54 => ?_) (fun h54 => ?_)
                  · replace hP := zE_p hP h54
                    obtain ⟨m2, rfl⟩ : ∃ m2, m = m2 + 1 := ⟨m - 1, by omega⟩
                    exact wz_k1 ⟨m2, by omega, Z43, ((-2) - v44), (x6 + 1), (zconso rfl (zconso rfl (zconso rfl (zconso rfl (zconso (zvo (rfl : i3 x4 = i3 x4)) (zconso (zvo (i3S (show (-2 : Int32) = i3 (-2) from rfl) (rfl : i3 v44 = i3 v44))) (zconso (zvo (i3A (rfl : i3 x6 = i3 x6) (show (1 : Int32) = i3 1 from rfl))) (zconso rfl rfl)))))))), rfl, hZ43I, hZ43K, hZ43U, by omega, by omega, by omega,  hP⟩
                  · replace hP := zE_n hP h54
                    obtain ⟨m2, rfl⟩ : ∃ m2, m = m2 + 1 := ⟨m - 1, by omega⟩
                    exact wz_k1 ⟨m2, by omega, Z43, (v44 + 1), (x6 + 1), (zconso rfl (zconso rfl (zconso rfl (zconso rfl (zconso (zvo (rfl : i3 x4 = i3 x4)) (zconso (zvo (i3A (rfl : i3 v44 = i3 v44) (show (1 : Int32) = i3 1 from rfl))) (zconso (zvo (i3A (rfl : i3 x6 = i3 x6) (show (1 : Int32) = i3 1 from rfl))) (zconso rfl rfl)))))))), rfl, hZ43I, hZ43K, hZ43U, by omega, by omega, by omega,  hP⟩
/- yX9_readTask -/
def zf_158 (Z : qz_Z) (a1 : Int) : qz_Z × Int := (if 0 ≤ (zli (Z 66 0 0 a1)) then (zlet2 (zl_158_1 a1 (zli (Z 66 0 0 a1)) 8 Z 0) (fun Z5 y4 => (zlet (zf_156 Z5 (zli (Z 66 0 0 a1))) (fun v7 => (zlet (zu Z5 68 0 0 0 v7) (fun Z8 => (zlet (zf_152 Z8 (Z8 68 0 0 0)) (fun v11 => (zlet3 (zl_158_2 v11 5 Z8 (a1 + 1) 1) (fun Z14 y12 y13 => (Z14, y12))))))))))) else (Z, ((-2) - a1)))
theorem sp_158 {s : zSM} {Z : qz_Z} {ν : qz_N} (hZ : zH s Z) {a1 : Int} (ga1 : 0 ≤ a1 ∧ a1 ≤ 119) (hM : s.2 + 0 ≤ 1000000000) : ∃ (Z1 : qz_Z) (P : Int), (Z1, P) = zf_158 Z a1 ∧ (qf_158 [.inr (.inr (some (4, 0, 0))), .inl (i3 a1), .inr (.inr (some (68, 0, 0)))] (zm Z ν) = some (zm Z1 ν, .inl (some (.inl (i3 P)))) ∧ zH s Z1 ∧ zC [68] Z Z1 ∧ zU [] Z Z1 ∧ -122 ≤ P ∧ P ≤ 120) := by
  obtain ⟨P, hP⟩ := zx (zf_158 Z a1)
  refine zc_W (Q := fun Z1 P => zH s Z1 ∧ zC [68] Z Z1 ∧ zU [] Z Z1 ∧ -122 ≤ P ∧ P ≤ 120) hP (fw_158 (i3 a1) _ _ ?_)
  replace hP : zE P (zf_158 Z a1) := hP
  unfold zf_158 at hP
  refine wz_i0 (i3O (n := 120) (rfl : i3 a1 = i3 a1) (by omega) (by omega) (by omega)) ?_
  have r1 := zH_k hZ 66 0 0 a1 (lo := 0) (hi := 126) (by decide) rfl
  have r2 := zli_r (Z 66 0 0 a1)
  refine wz_br (i3Le (show (0 : Int32) = i3 0 from rfl) (i3li (zm_rd (Z := Z) (ν := ν) (k := 66) (show ((0 : Nat) : Int) = 0 from rfl) (show ((0 : Nat) : Int) = 0 from rfl) (i3I (y := a1) (rfl : i3 a1 = i3 a1) (by omega) (by omega) (by omega))) (by omega) (by omega)) (by omega) (by omega) (by omega) (by omega)) (fun h3 => ?_) (fun h3 => ?_)
  · replace hP := zE_p hP h3
    refine sl_158_1 (ν := ν) hZ (zbh (c := 0) (k := 0) hM (Nat.le_of_ble_eq_true rfl)) zC_r (x1 := a1) (by omega) (x3 := (zli (Z 66 0 0 a1))) (by omega) (x4 := 0) (by omega) zU_r  (zconso rfl (zconso (zvo (rfl : i3 a1 = i3 a1)) (zconso rfl (zconso (zvo (i3li (zm_rd (Z := Z) (ν := ν) (k := 66) (show ((0 : Nat) : Int) = 0 from rfl) (show ((0 : Nat) : Int) = 0 from rfl) (i3I (y := a1) (rfl : i3 a1 = i3 a1) (by omega) (by omega) (by omega))) (by omega) (by omega))) (zconso (zvo (show (0 : Int32) = i3 0 from rfl)) (zconso rfl (zconso rfl (zconso rfl rfl)))))))) rfl ?_
    intro L6 Z5 y4 hL6 hZ5I kZ5 jZ5 gy4 q9
    replace hP := zl_e2 hP (Eq.symm q9)
    clear q9
    have hZ5U : zU [] Z Z5 := zU_t zU_r jZ5 zU_b0
    have hZ5K : zC [68] Z Z5 := zC_t zC_r kZ5 (by decide)
    refine fc_158_4 (i3 a1) (i3 (zli (Z 66 0 0 a1))) _ _ _ _ hL6 ?_
    obtain ⟨v7, hv7, c9, lv7, uv7⟩ := sp_156 (ν := ν) hZ5I (a0 := (zli (Z 66 0 0 a1))) (by omega) (zbh (c := 0) (k := 0) hM (Nat.le_of_ble_eq_true rfl))
    replace hP := zl_e hP hv7
    refine wz_cI_of (zas (zcons (zvi (rfl : i3 (zli (Z 66 0 0 a1)) = i3 (zli (Z 66 0 0 a1)))) rfl) c9) ?_
    clear c9
    obtain ⟨Z8, hZ8⟩ := zx (zu Z5 68 0 0 0 v7)
    replace hP := zl_e hP hZ8
    have hZ8I := zH_u hZ5I hZ8 (lo := -2147483648) (hi := 2147483647) (by decide) rfl (by omega) ⟨by decide, by decide⟩ (Or.inl (by decide)) rfl
    have hZ8U : zU [] Z Z8 := zU_u hZ5U hZ8 (Or.inl rfl)
    have hZ8K : zC [68] Z Z8 := zC_u hZ5K hZ8 (by decide)
    intro μ9 e9
    replace e9 := e9.trans (zm_wI (Z := Z5) (ν := ν) hZ8 (show ((0 : Nat) : Int) = 0 from rfl) (show ((0 : Nat) : Int) = 0 from rfl) (show ((0 : Nat) : Int) = 0 from rfl) (rfl : i3 v7 = i3 v7))
    subst e9
    have r9 := zH_f hZ8I 68 0 0 0
    have q10 := zu_at hZ8
    obtain ⟨v11, hv11, c9, lv11, uv11⟩ := sp_152 (ν := ν) hZ8I (a0 := (Z8 68 0 0 0)) (by omega) (zbh (c := 0) (k := 0) hM (Nat.le_of_ble_eq_true rfl))
    replace hP := zl_e hP hv11
    refine wz_cI_of (zas (zcons (zvi (zm_rd (Z := Z8) (ν := ν) (k := 68) (show ((0 : Nat) : Int) = 0 from rfl) (show ((0 : Nat) : Int) = 0 from rfl) (show ((0 : Nat) : Int) = 0 from rfl))) rfl) c9) ?_
    clear c9
    refine sl_158_2 (ν := ν) hZ8I (zbh (c := 0) (k := 0) hM (Nat.le_of_ble_eq_true rfl)) zC_r (x4 := v11) (by omega) (x5 := (a1 + 1)) (by omega) (x6 := 1) (by omega) zU_r  (zconso rfl (zconso rfl (zconso rfl (zconso rfl (zconso (zvo (rfl : i3 v11 = i3 v11)) (zconso (zvo (i3A (rfl : i3 a1 = i3 a1) (show (1 : Int32) = i3 1 from rfl))) (zconso (zvo (show (1 : Int32) = i3 1 from rfl)) (zconso rfl rfl)))))))) rfl ?_
    intro L15 Z14 y12 y13 hL15 hZ14I kZ14 jZ14 gy12 gy13 q9
    replace hP := zl_e3 hP (Eq.symm q9)
    clear q9
    have hZ14U : zU [] Z Z14 := zU_t hZ8U jZ14 zU_b0
    have hZ14K : zC [68] Z Z14 := zC_t hZ8K kZ14 (by decide)
    refine fc_158_3 (i3 y12) _ _ _ _ hL15 ?_
    exact zlW hP (rfl : i3 y12 = i3 y12) ⟨hZ14I, hZ14K, hZ14U, by omega, by omega⟩
  · replace hP := zE_n hP h3
    exact zlW hP (i3S (show (-2 : Int32) = i3 (-2) from rfl) (rfl : i3 a1 = i3 a1)) ⟨hZ, zC_r, zU_r, by omega, by omega⟩
/- yX9_fault -/
def zl_151_1 : Nat → qz_Z → Int → Int → qz_Z × Int × Int
  | 0, Z, x2, x3 => (Z, x2, x3)
  | m + 1, Z, x2, x3 => (if 120 ≤ x3 then (Z, x2, x3) else (if x2 < 0 then (Z, x2, x3) else (if (Z 4 0 0 1) ≤ x2 then (Z, x2, x3) else (zlet2 (zf_158 Z x2) (fun Z5 v6 => zl_151_1 m Z5 v6 (x3 + 1))))))
theorem sl_151_1 {s : zSM} {Zs Z : qz_Z} {ν : qz_N} (hZ : zH s Z) (hM : s.2 + 0 ≤ 1000000000) (hK : zC [68] Zs Z) {x2 : Int} (gx2 : -122 ≤ x2 ∧ x2 ≤ 120) {x3 : Int} (gx3 : 0 ≤ x3 ∧ x3 ≤ 120) (hU : zU [] Zs Z) {k : wz_K} {R : wz_R} {L : qz_L} (hL : qz_fg [true, true, true, true] L = [some (.inr (.inr (some (4, 0, 0)))), some (.inr (.inr (some (68, 0, 0)))), some (.inl (i3 x2)), some (.inl (i3 x3))]) {T : qz_Z × Int × Int} (hP : zE T (zl_151_1 ((120 - x3).toNat + 1) Z x2 x3)) (hk : ∀ (L9 : qz_L) (Z9 : qz_Z) (yx2 yx3 : Int), qz_fg [true, false, true, false] L9 = [some (.inr (.inr (some (4, 0, 0)))), none, some (.inl (i3 yx2)), none] → zH s Z9 → zC [68] Zs Z9 → zU [] Zs Z9 → (-122 ≤ yx2 ∧ yx2 ≤ 120) → (0 ≤ yx3 ∧ yx3 ≤ 120) → zE T ((Z9, yx2, yx3)) → k 0 (L9, [], zm Z9 ν)) : wz_loop qb_151_1 65536 k R (L, [], zm Z ν) := by
  refine wz_lp sb_151_1 (fun m x => ∃ Z : qz_Z, ∃ x2 : Int, ∃ x3 : Int, qz_fg [true, true, true, true] x.1 = [some (.inr (.inr (some (4, 0, 0)))), some (.inr (.inr (some (68, 0, 0)))), some (.inl (i3 x2)), some (.inl (i3 x3))] ∧ x.2 = ([], zm Z ν) ∧ zH s Z ∧ zC [68] Zs Z ∧ zU [] Zs Z ∧ m = (120 - x3).toNat ∧ (-122 ≤ x2 ∧ x2 ≤ 120) ∧ (0 ≤ x3 ∧ x3 ≤ 120) ∧ zE T (zl_151_1 (m + 1) Z x2 x3)) ?_ 65536 ((120 - x3).toNat) _ (by omega) ⟨Z, x2, x3, hL, rfl, hZ, hK, hU, rfl, gx2, gx3, hP⟩
  clear hP gx2 gx3 hZ hK hU hL
  clear x2 x3
  clear Z
  rintro m ⟨L, st, μ⟩ ⟨Z, x2, x3, hL, hx, hZ, hK, hU, hm, gx2, gx3, hP⟩
  cases hx
  refine fb_151_1 (i3 x2) (i3 x3) _ _ _ _ hL ?_
  refine wz_br (i3Le (show (120 : Int32) = i3 120 from rfl) (rfl : i3 x3 = i3 x3) (by omega) (by omega) (by omega) (by omega)) (fun h1 => ?_) (fun h1 => ?_)
  · replace hP := zE_p hP h1
    exact hk _ _ _ _ (zconso rfl (zconso rfl (zconso (zvo (rfl : i3 x2 = i3 x2)) (zconso rfl rfl)))) hZ hK hU (by omega) (by omega)  hP
  · replace hP := zE_n hP h1
    refine wz_br (i3L (rfl : i3 x2 = i3 x2) (show (0 : Int32) = i3 0 from rfl) (by omega) (by omega) (by omega) (by omega)) (fun h2 => ?_) (fun h2 => ?_)
    · replace hP := zE_p hP h2
      exact hk _ _ _ _ (zconso rfl (zconso rfl (zconso (zvo (rfl : i3 x2 = i3 x2)) (zconso rfl rfl)))) hZ hK hU (by omega) (by omega)  hP
    · replace hP := zE_n hP h2
      have r3 := zH_k hZ 4 0 0 1 (lo := 0) (hi := 120) (by decide) rfl
      refine wz_br (i3Le (zm_rd (Z := Z) (ν := ν) (k := 4) (show ((0 : Nat) : Int) = 0 from rfl) (show ((0 : Nat) : Int) = 0 from rfl) (show ((1 : Nat) : Int) = 1 from rfl)) (rfl : i3 x2 = i3 x2) (by omega) (by omega) (by omega) (by omega)) (fun h4 => ?_) (fun h4 => ?_)
      · replace hP := zE_p hP h4
        exact hk _ _ _ _ (zconso rfl (zconso rfl (zconso (zvo (rfl : i3 x2 = i3 x2)) (zconso rfl rfl)))) hZ hK hU (by omega) (by omega)  hP
      · replace hP := zE_n hP h4
        obtain ⟨Z5, v6, hv6, c9, hZ5I, kZ5, jZ5, lv6, uv6⟩ := sp_158 (ν := ν) hZ (a1 := x2) (by omega) (zbh (c := 0) (k := 0) hM (Nat.le_of_ble_eq_true rfl))
        have hZ5U : zU [] Zs Z5 := zU_t hU jZ5 zU_b0
        have hZ5K : zC [68] Zs Z5 := zC_t hK kZ5 (by decide)
        replace hP := zl_e2 hP hv6
        refine wz_cI_of (zas (zcons rfl (zcons (zvi (rfl : i3 x2 = i3 x2)) (zcons rfl rfl))) c9) ?_
        clear c9 hv6
        obtain ⟨m2, rfl⟩ : ∃ m2, m = m2 + 1 := ⟨m - 1, by omega⟩
        exact wz_k1 ⟨m2, by omega, Z5, v6, (x3 + 1), (zconso rfl (zconso rfl (zconso (zvo (rfl : i3 v6 = i3 v6)) (zconso (zvo (i3A (rfl : i3 x3 = i3 x3) (show (1 : Int32) = i3 1 from rfl))) rfl)))), rfl, hZ5I, hZ5K, hZ5U, by omega, by omega, by omega,  hP⟩
/- yX9_fault -/
def zf_151 (Z : qz_Z) : qz_Z × Int := (zlet3 (zl_151_1 121 Z 0 0) (fun Z3 y1 y2 => (if (Z3 4 0 0 1) ≠ 0 then (if 0 ≤ y1 then (Z3, 0) else (Z3, y1)) else (Z3, (-2)))))
theorem sp_151 {s : zSM} {Z : qz_Z} {ν : qz_N} (hZ : zH s Z) (hM : s.2 + 0 ≤ 1000000000) : ∃ (Z1 : qz_Z) (P : Int), (Z1, P) = zf_151 Z ∧ (qf_151 [.inr (.inr (some (4, 0, 0))), .inr (.inr (some (68, 0, 0)))] (zm Z ν) = some (zm Z1 ν, .inl (some (.inl (i3 P)))) ∧ zH s Z1 ∧ zC [68] Z Z1 ∧ zU [] Z Z1 ∧ -122 ≤ P ∧ P ≤ 0) := by
  obtain ⟨P, hP⟩ := zx (zf_151 Z)
  refine zc_W (Q := fun Z1 P => zH s Z1 ∧ zC [68] Z Z1 ∧ zU [] Z Z1 ∧ -122 ≤ P ∧ P ≤ 0) hP (fw_151  _ _ ?_)
  replace hP : zE P (zf_151 Z) := hP
  unfold zf_151 at hP
  refine sl_151_1 (ν := ν) hZ (zbh (c := 0) (k := 0) hM (Nat.le_of_ble_eq_true rfl)) zC_r (x2 := 0) (by omega) (x3 := 0) (by omega) zU_r  (zconso rfl (zconso rfl (zconso (zvo (show (0 : Int32) = i3 0 from rfl)) (zconso (zvo (show (0 : Int32) = i3 0 from rfl)) rfl)))) rfl ?_
  intro L4 Z3 y1 y2 hL4 hZ3I kZ3 jZ3 gy1 gy2 q9
  replace hP := zl_e3 hP (Eq.symm q9)
  clear q9
  have hZ3U : zU [] Z Z3 := zU_t zU_r jZ3 zU_b0
  have hZ3K : zC [68] Z Z3 := zC_t zC_r kZ3 (by decide)
  refine fc_151_2 (i3 y1) _ _ _ _ hL4 ?_
  have r5 := zH_k hZ3I 4 0 0 1 (lo := 0) (hi := 120) (by decide) rfl
  refine wz_br (i3NE (zm_rd (Z := Z3) (ν := ν) (k := 4) (show ((0 : Nat) : Int) = 0 from rfl) (show ((0 : Nat) : Int) = 0 from rfl) (show ((1 : Nat) : Int) = 1 from rfl)) (show (0 : Int32) = i3 0 from rfl) (by omega) (by omega) (by omega) (by omega)) (fun h6 => ?_) (fun h6 => ?_)
  · replace hP := zE_p hP h6
    refine wz_br (i3Le (show (0 : Int32) = i3 0 from rfl) (rfl : i3 y1 = i3 y1) (by omega) (by omega) (by omega) (by omega)) (fun h7 => ?_) (fun h7 => ?_)
    · replace hP := zE_p hP h7
      exact zlW hP (show (0 : Int32) = i3 0 from rfl) ⟨hZ3I, hZ3K, hZ3U, by omega, by omega⟩
    · replace hP := zE_n hP h7
      exact zlW hP (rfl : i3 y1 = i3 y1) ⟨hZ3I, hZ3K, hZ3U, by omega, by omega⟩
  · replace hP := zE_n hP h6
    exact zlW hP (show (-2 : Int32) = i3 (-2) from rfl) ⟨hZ3I, hZ3K, hZ3U, by omega, by omega⟩
/- yX1_cancelOrder -/
def zf_16 (Z : qz_Z) (a0b : Int) (a1 : Int) : qz_Z × Int := (zlet (zu Z 46 a0b a1 6 0) (fun Z1 => (zlet (zu Z1 46 a0b a1 7 1) (fun Z2 => (Z2, (Z 46 a0b a1 6))))))
theorem sp_16 {s : zSM} {Z : qz_Z} {ν : qz_N} (hZ : zH s Z) (a0b : Nat) {a1 : Int} (ga1 : 0 ≤ a1 ∧ a1 ≤ 23) (hM : s.2 + 0 ≤ 1000000000) : ∃ (Z1 : qz_Z) (P : Int), (Z1, P) = zf_16 Z a0b a1 ∧ (qf_16 [.inr (.inr (some (10, a0b, 0))), .inl (i3 a1)] (zm Z ν) = some (zm Z1 ν, .inl (some (.inl (i3 P)))) ∧ zH s Z1 ∧ zC [46] Z Z1 ∧ zU [a0b] Z Z1 ∧ 0 ≤ P ∧ P ≤ 99) := by
  obtain ⟨P, hP⟩ := zx (zf_16 Z a0b a1)
  refine zc_W (Q := fun Z1 P => zH s Z1 ∧ zC [46] Z Z1 ∧ zU [a0b] Z Z1 ∧ 0 ≤ P ∧ P ≤ 99) hP (fw_16 a0b (i3 a1) _ _ ?_)
  replace hP : zE P (zf_16 Z a0b a1) := hP
  unfold zf_16 at hP
  refine wz_i0 (i3O (n := 24) (rfl : i3 a1 = i3 a1) (by omega) (by omega) (by omega)) ?_
  obtain ⟨Z1, hZ1⟩ := zx (zu Z 46 a0b a1 6 0)
  replace hP := zl_e hP hZ1
  have hZ1I := zH_0 hZ hZ1 (by decide) (Or.inl (by decide))
  have hZ1U : zU [a0b] Z Z1 := zU_u zU_r hZ1 (Or.inr (List.Mem.head _))
  have hZ1K : zC [46] Z Z1 := zC_u zC_r hZ1 (by decide)
  intro μ9 e9
  replace e9 := e9.trans (zm_wI (Z := Z) (ν := ν) hZ1 (rfl : ((a0b : Nat) : Int) = a0b) (i3I (y := a1) (rfl : i3 a1 = i3 a1) (by omega) (by omega) (by omega)) (show ((6 : Nat) : Int) = 6 from rfl) (show (0 : Int32) = i3 0 from rfl))
  subst e9
  obtain ⟨Z2, hZ2⟩ := zx (zu Z1 46 a0b a1 7 1)
  replace hP := zl_e hP hZ2
  have hZ2I := zH_u hZ1I hZ2 (lo := 0) (hi := 1) (by decide) rfl (by omega) ⟨by decide, by decide⟩ (Or.inl (by decide)) rfl
  have hZ2U : zU [a0b] Z Z2 := zU_u hZ1U hZ2 (Or.inr (List.Mem.head _))
  have hZ2K : zC [46] Z Z2 := zC_u hZ1K hZ2 (by decide)
  intro μ9 e9
  replace e9 := e9.trans (zm_wI (Z := Z1) (ν := ν) hZ2 (rfl : ((a0b : Nat) : Int) = a0b) (i3I (y := a1) (rfl : i3 a1 = i3 a1) (by omega) (by omega) (by omega)) (show ((7 : Nat) : Int) = 7 from rfl) (show (1 : Int32) = i3 1 from rfl))
  subst e9
  have r3 := zH_k hZ 46 a0b a1 6 (lo := 0) (hi := 99) (by decide) rfl
  exact zlW hP (zm_rd (Z := Z) (ν := ν) (k := 46) (rfl : ((a0b : Nat) : Int) = a0b) (i3I (y := a1) (rfl : i3 a1 = i3 a1) (by omega) (by omega) (by omega)) (show ((6 : Nat) : Int) = 6 from rfl)) ⟨hZ2I, hZ2K, hZ2U, by omega, by omega⟩
/- yX3_queuePallet -/
def zf_72 (Z : qz_Z) (a0b : Int) (a1 : Int) (a2 : Int) (a3 : Int) (a4 : Int) : qz_Z × Int := (zlet (zu Z 44 a0b a2 10 1) (fun Z1 => (zlet (zu Z1 49 a0b (12 * a1 + (Z 48 a0b a1 5)) 0 a2) (fun Z3 => (zlet (zu Z3 49 a0b (12 * a1 + (Z 48 a0b a1 5)) 1 a3) (fun Z4 => (zlet (zu Z4 49 a0b (12 * a1 + (Z 48 a0b a1 5)) 2 a4) (fun Z5 => (zlet (zu Z5 48 a0b a1 5 ((Z5 48 a0b a1 5) + 1)) (fun Z8 => (Z8, (Z 48 a0b a1 5))))))))))))
theorem sp_72 {s : zSM} {Z : qz_Z} {ν : qz_N} (hZ : zH s Z) (a0b : Nat) {a1 : Int} (ga1 : 0 ≤ a1 ∧ a1 ≤ 1) {a2 : Int} (ga2 : 0 ≤ a2 ∧ a2 ≤ 47) {a3 : Int} (ga3 : 1 ≤ a3 ∧ a3 ≤ 9999) {a4 : Int} (ga4 : 1 ≤ a4 ∧ a4 ≤ 9999) (gx0 : Z 48 a0b a1 5 ≤ 11) (gx1 : a4 ≤ a3) (hM : s.2 + 0 ≤ 1000000000) : ∃ (Z1 : qz_Z) (P : Int), (Z1, P) = zf_72 Z a0b a1 a2 a3 a4 ∧ (qf_72 [.inr (.inr (some (10, a0b, 0))), .inl (i3 a1), .inl (i3 a2), .inl (i3 a3), .inl (i3 a4)] (zm Z ν) = some (zm Z1 ν, .inl (some (.inl (i3 P)))) ∧ zH s Z1 ∧ zC [44, 48, 49] Z Z1 ∧ zU [a0b] Z Z1 ∧ 0 ≤ P ∧ P ≤ 12) := by
  obtain ⟨P, hP⟩ := zx (zf_72 Z a0b a1 a2 a3 a4)
  refine zc_W (Q := fun Z1 P => zH s Z1 ∧ zC [44, 48, 49] Z Z1 ∧ zU [a0b] Z Z1 ∧ 0 ≤ P ∧ P ≤ 12) hP (fw_72 a0b (i3 a1) (i3 a2) (i3 a3) (i3 a4) _ _ ?_)
  replace hP : zE P (zf_72 Z a0b a1 a2 a3 a4) := hP
  unfold zf_72 at hP
  refine wz_i0 (i3O (n := 2) (rfl : i3 a1 = i3 a1) (by omega) (by omega) (by omega)) ?_
  refine wz_i0 (i3O (n := 48) (rfl : i3 a2 = i3 a2) (by omega) (by omega) (by omega)) ?_
  obtain ⟨Z1, hZ1⟩ := zx (zu Z 44 a0b a2 10 1)
  replace hP := zl_e hP hZ1
  have hZ1I := zH_u hZ hZ1 (lo := 0) (hi := 4) (by decide) rfl (by omega) ⟨by decide, by decide⟩ (Or.inl (by decide)) rfl
  have hZ1U : zU [a0b] Z Z1 := zU_u zU_r hZ1 (Or.inr (List.Mem.head _))
  have hZ1K : zC [44, 48, 49] Z Z1 := zC_u zC_r hZ1 (by decide)
  intro μ9 e9
  replace e9 := e9.trans (zm_wI (Z := Z) (ν := ν) hZ1 (rfl : ((a0b : Nat) : Int) = a0b) (i3I (y := a2) (rfl : i3 a2 = i3 a2) (by omega) (by omega) (by omega)) (show ((10 : Nat) : Int) = 10 from rfl) (show (1 : Int32) = i3 1 from rfl))
  subst e9
  have r2 := zH_k hZ 48 a0b a1 5 (lo := 0) (hi := 12) (by decide) rfl
  refine wz_i0 (i3O (n := 24) (i3A (i3M (rfl : i3 a1 = i3 a1) (show (12 : Int32) = i3 12 from rfl)) (zm_rd (Z := Z) (ν := ν) (k := 48) (rfl : ((a0b : Nat) : Int) = a0b) (i3I (y := a1) (rfl : i3 a1 = i3 a1) (by omega) (by omega) (by omega)) (show ((5 : Nat) : Int) = 5 from rfl))) (by omega) (by omega) (by omega)) ?_
  obtain ⟨Z3, hZ3⟩ := zx (zu Z1 49 a0b (12 * a1 + (Z 48 a0b a1 5)) 0 a2)
  replace hP := zl_e hP hZ3
  have hZ3I := zH_u hZ1I hZ3 (lo := 0) (hi := 47) (by decide) rfl (by omega) ⟨by decide, by decide⟩ (Or.inl (by decide)) rfl
  have hZ3U : zU [a0b] Z Z3 := zU_u hZ1U hZ3 (Or.inr (List.Mem.head _))
  have hZ3K : zC [44, 48, 49] Z Z3 := zC_u hZ1K hZ3 (by decide)
  intro μ9 e9
  replace e9 := e9.trans (zm_wI (Z := Z1) (ν := ν) hZ3 (rfl : ((a0b : Nat) : Int) = a0b) (i3I (y := (12 * a1 + (Z 48 a0b a1 5))) (i3A (i3M (rfl : i3 a1 = i3 a1) (show (12 : Int32) = i3 12 from rfl)) (zm_rd (Z := Z) (ν := ν) (k := 48) (rfl : ((a0b : Nat) : Int) = a0b) (i3I (y := a1) (rfl : i3 a1 = i3 a1) (by omega) (by omega) (by omega)) (show ((5 : Nat) : Int) = 5 from rfl))) (by omega) (by omega) (by omega)) (show ((0 : Nat) : Int) = 0 from rfl) (rfl : i3 a2 = i3 a2))
  subst e9
  refine wz_i0 (i3O (n := 24) (i3A (i3M (rfl : i3 a1 = i3 a1) (show (12 : Int32) = i3 12 from rfl)) (zm_rd (Z := Z) (ν := ν) (k := 48) (rfl : ((a0b : Nat) : Int) = a0b) (i3I (y := a1) (rfl : i3 a1 = i3 a1) (by omega) (by omega) (by omega)) (show ((5 : Nat) : Int) = 5 from rfl))) (by omega) (by omega) (by omega)) ?_
  obtain ⟨Z4, hZ4⟩ := zx (zu Z3 49 a0b (12 * a1 + (Z 48 a0b a1 5)) 1 a3)
  replace hP := zl_e hP hZ4
  have hZ4I := zH_u hZ3I hZ4 (lo := 0) (hi := 9999) (by decide) rfl (by omega) ⟨by decide, by decide⟩ (Or.inl (by decide)) rfl
  have hZ4U : zU [a0b] Z Z4 := zU_u hZ3U hZ4 (Or.inr (List.Mem.head _))
  have hZ4K : zC [44, 48, 49] Z Z4 := zC_u hZ3K hZ4 (by decide)
  intro μ9 e9
  replace e9 := e9.trans (zm_wI (Z := Z3) (ν := ν) hZ4 (rfl : ((a0b : Nat) : Int) = a0b) (i3I (y := (12 * a1 + (Z 48 a0b a1 5))) (i3A (i3M (rfl : i3 a1 = i3 a1) (show (12 : Int32) = i3 12 from rfl)) (zm_rd (Z := Z) (ν := ν) (k := 48) (rfl : ((a0b : Nat) : Int) = a0b) (i3I (y := a1) (rfl : i3 a1 = i3 a1) (by omega) (by omega) (by omega)) (show ((5 : Nat) : Int) = 5 from rfl))) (by omega) (by omega) (by omega)) (show ((1 : Nat) : Int) = 1 from rfl) (rfl : i3 a3 = i3 a3))
  subst e9
  refine wz_i0 (i3O (n := 24) (i3A (i3M (rfl : i3 a1 = i3 a1) (show (12 : Int32) = i3 12 from rfl)) (zm_rd (Z := Z) (ν := ν) (k := 48) (rfl : ((a0b : Nat) : Int) = a0b) (i3I (y := a1) (rfl : i3 a1 = i3 a1) (by omega) (by omega) (by omega)) (show ((5 : Nat) : Int) = 5 from rfl))) (by omega) (by omega) (by omega)) ?_
  obtain ⟨Z5, hZ5⟩ := zx (zu Z4 49 a0b (12 * a1 + (Z 48 a0b a1 5)) 2 a4)
  replace hP := zl_e hP hZ5
  have hZ5I := zH_u hZ4I hZ5 (lo := 0) (hi := 9999) (by decide) rfl (by omega) ⟨by decide, by decide⟩ (Or.inl (by decide)) rfl
  have hZ5U : zU [a0b] Z Z5 := zU_u hZ4U hZ5 (Or.inr (List.Mem.head _))
  have hZ5K : zC [44, 48, 49] Z Z5 := zC_u hZ4K hZ5 (by decide)
  intro μ9 e9
  replace e9 := e9.trans (zm_wI (Z := Z4) (ν := ν) hZ5 (rfl : ((a0b : Nat) : Int) = a0b) (i3I (y := (12 * a1 + (Z 48 a0b a1 5))) (i3A (i3M (rfl : i3 a1 = i3 a1) (show (12 : Int32) = i3 12 from rfl)) (zm_rd (Z := Z) (ν := ν) (k := 48) (rfl : ((a0b : Nat) : Int) = a0b) (i3I (y := a1) (rfl : i3 a1 = i3 a1) (by omega) (by omega) (by omega)) (show ((5 : Nat) : Int) = 5 from rfl))) (by omega) (by omega) (by omega)) (show ((2 : Nat) : Int) = 2 from rfl) (rfl : i3 a4 = i3 a4))
  subst e9
  refine wz_i0 (i3O (n := 2) (rfl : i3 a1 = i3 a1) (by omega) (by omega) (by omega)) ?_
  have r6 := zH_k hZ5I 48 a0b a1 5 (lo := 0) (hi := 12) (by decide) rfl
  have q7 := (zu_ne (k' := 48) (b' := a0b) (i' := a1) (j' := 5) hZ5 (fun q => absurd q.1 (by decide))).trans ((zu_ne (k' := 48) (b' := a0b) (i' := a1) (j' := 5) hZ4 (fun q => absurd q.1 (by decide))).trans ((zu_ne (k' := 48) (b' := a0b) (i' := a1) (j' := 5) hZ3 (fun q => absurd q.1 (by decide))).trans (zu_ne (k' := 48) (b' := a0b) (i' := a1) (j' := 5) hZ1 (fun q => absurd q.1 (by decide)))))
  obtain ⟨Z8, hZ8⟩ := zx (zu Z5 48 a0b a1 5 ((Z5 48 a0b a1 5) + 1))
  replace hP := zl_e hP hZ8
  have hZ8I := zH_u hZ5I hZ8 (lo := 0) (hi := 12) (by decide) rfl (by omega) ⟨by decide, by decide⟩ (Or.inl (by decide)) rfl
  have hZ8U : zU [a0b] Z Z8 := zU_u hZ5U hZ8 (Or.inr (List.Mem.head _))
  have hZ8K : zC [44, 48, 49] Z Z8 := zC_u hZ5K hZ8 (by decide)
  intro μ9 e9
  replace e9 := e9.trans (zm_wI (Z := Z5) (ν := ν) hZ8 (rfl : ((a0b : Nat) : Int) = a0b) (i3I (y := a1) (rfl : i3 a1 = i3 a1) (by omega) (by omega) (by omega)) (show ((5 : Nat) : Int) = 5 from rfl) (i3A (zm_rd (Z := Z5) (ν := ν) (k := 48) (rfl : ((a0b : Nat) : Int) = a0b) (i3I (y := a1) (rfl : i3 a1 = i3 a1) (by omega) (by omega) (by omega)) (show ((5 : Nat) : Int) = 5 from rfl)) (show (1 : Int32) = i3 1 from rfl)))
  subst e9
  exact zlW hP (zm_rd (Z := Z) (ν := ν) (k := 48) (rfl : ((a0b : Nat) : Int) = a0b) (i3I (y := a1) (rfl : i3 a1 = i3 a1) (by omega) (by omega) (by omega)) (show ((5 : Nat) : Int) = 5 from rfl)) ⟨hZ8I, hZ8K, hZ8U, by omega, by omega⟩
/- yX10_putPallet -/
def zf_179 (Z : qz_Z) (a0b : Int) (a1 : Int) (a2 : Int) : qz_Z × Int := (if a2 ≠ (-1) then (zlet (zf_175 Z a0b a0b a1 a2) (fun Z2 => (zlet (zf_182 Z2 a0b a2) (fun v3 => (Z2, ((Z2 43 a0b a2 0) - v3)))))) else (zlet (zf_175 Z a0b a0b a1 6) (fun Z5 => (zlet (zf_182 Z5 a0b 6) (fun v6 => (Z5, (12 - v6)))))))
theorem sp_179 {s : zSM} {Z : qz_Z} {ν : qz_N} (hZ : zH s Z) (a0b : Nat) {a1 : Int} (ga1 : 0 ≤ a1 ∧ a1 ≤ 47) {a2 : Int} (ga2 : -1 ≤ a2 ∧ a2 ≤ 5) (hM : s.2 + 2 ≤ 1000000000) : ∃ (Z1 : qz_Z) (P : Int), (Z1, P) = zf_179 Z a0b a1 a2 ∧ (qf_179 [.inr (.inr (some (10, a0b, 0))), .inl (i3 a1), .inl (i3 a2)] (zm Z ν) = some (zm Z1 ν, .inl (some (.inl (i3 P)))) ∧ zH (zb s 2) Z1 ∧ zC [43, 44] Z Z1 ∧ zU [a0b] Z Z1 ∧ -48 ≤ P ∧ P ≤ 12) := by
  obtain ⟨P, hP⟩ := zx (zf_179 Z a0b a1 a2)
  refine zc_W (Q := fun Z1 P => zH (zb s 2) Z1 ∧ zC [43, 44] Z Z1 ∧ zU [a0b] Z Z1 ∧ -48 ≤ P ∧ P ≤ 12) hP (fw_179 a0b (i3 a1) (i3 a2) _ _ ?_)
  replace hP : zE P (zf_179 Z a0b a1 a2) := hP
  unfold zf_179 at hP
  refine wz_br (i3NE (rfl : i3 a2 = i3 a2) (show (-1 : Int32) = i3 (-1) from rfl) (by omega) (by omega) (by omega) (by omega)) (fun h1 => ?_) (fun h1 => ?_)
  · replace hP := zE_p hP h1
    refine wz_i0 (i3O (n := 48) (rfl : i3 a1 = i3 a1) (by omega) (by omega) (by omega)) ?_
    obtain ⟨Z2, hZ2, c9, hZ2I, kZ2, jZ2⟩ := sp_175 (ν := ν) hZ a0b a0b _ (i3I (y := a1) (rfl : i3 a1 = i3 a1) (by omega) (by omega) (by omega)) (by omega) (a2 := a2) (by omega) (zbh (c := 0) (k := 2) hM (Nat.le_of_ble_eq_true rfl))
    have hZ2U : zU [a0b] Z Z2 := zU_t zU_r jZ2 (zU_b1 (List.Mem.head _) (zU_b1 (List.Mem.head _) zU_b0))
    have hZ2K : zC [43, 44] Z Z2 := zC_t zC_r kZ2 (by decide)
    replace hP := zl_e hP hZ2
    refine wz_cV_of (zas (zcons rfl (zcons rfl (zcons (zvi (rfl : i3 a2 = i3 a2)) rfl))) c9) ?_
    clear c9
    refine wz_i1 (Eq.trans (i3NE (rfl : i3 a2 = i3 a2) (show (6 : Int32) = i3 6 from rfl) (by omega) (by omega) (by omega) (by omega)) (decide_eq_true (by omega))) ?_
    refine wz_i0 (i3O (n := 6) (rfl : i3 a2 = i3 a2) (by omega) (by omega) (by omega)) ?_
    obtain ⟨v3, hv3, c9, lv3, uv3⟩ := sp_182 (ν := ν) hZ2I a0b (a1 := a2) (by omega) (zbh (c := 2) (k := 0) hM (Nat.le_of_ble_eq_true rfl))
    replace hP := zl_e hP hv3
    refine wz_cI_of (zas (zcons rfl (zcons (zvi (rfl : i3 a2 = i3 a2)) rfl)) c9) ?_
    clear c9
    have r4 := zH_k hZ2I 43 a0b a2 0 (lo := 0) (hi := 12) (by decide) rfl
    exact zlW hP (i3S (zm_rd (Z := Z2) (ν := ν) (k := 43) (rfl : ((a0b : Nat) : Int) = a0b) (i3I (y := a2) (rfl : i3 a2 = i3 a2) (by omega) (by omega) (by omega)) (show ((0 : Nat) : Int) = 0 from rfl)) (rfl : i3 v3 = i3 v3)) ⟨hZ2I, hZ2K, hZ2U, by omega, by omega⟩
  · replace hP := zE_n hP h1
    refine wz_i0 (i3O (n := 48) (rfl : i3 a1 = i3 a1) (by omega) (by omega) (by omega)) ?_
    obtain ⟨Z5, hZ5, c9, hZ5I, kZ5, jZ5⟩ := sp_175 (ν := ν) hZ a0b a0b _ (i3I (y := a1) (rfl : i3 a1 = i3 a1) (by omega) (by omega) (by omega)) (by omega) (a2 := 6) (by omega) (zbh (c := 0) (k := 2) hM (Nat.le_of_ble_eq_true rfl))
    have hZ5U : zU [a0b] Z Z5 := zU_t zU_r jZ5 (zU_b1 (List.Mem.head _) (zU_b1 (List.Mem.head _) zU_b0))
    have hZ5K : zC [43, 44] Z Z5 := zC_t zC_r kZ5 (by decide)
    replace hP := zl_e hP hZ5
    refine wz_cV_of (zas (zcons rfl (zcons rfl (zcons (zvi (show (6 : Int32) = i3 6 from rfl)) rfl))) c9) ?_
    clear c9
    obtain ⟨v6, hv6, c9, lv6, uv6⟩ := sp_182 (ν := ν) hZ5I a0b (a1 := 6) (by omega) (zbh (c := 2) (k := 0) hM (Nat.le_of_ble_eq_true rfl))
    replace hP := zl_e hP hv6
    refine wz_cI_of (zas (zcons rfl (zcons (zvi (show (6 : Int32) = i3 6 from rfl)) rfl)) c9) ?_
    clear c9
    exact zlW hP (i3S (show (12 : Int32) = i3 12 from rfl) (rfl : i3 v6 = i3 v6)) ⟨hZ5I, hZ5K, hZ5U, by omega, by omega⟩
/- yX6_perform -/
def zf_121 (Z : qz_Z) (hb : Int) : qz_Z × Int := (if (Z 68 0 0 0) = 8 then (if (Z 68 0 0 2) ≠ (-1) then (zlet (zf_175 Z hb hb (Z 68 0 0 1) (Z 68 0 0 2)) (fun Z9 => (zlet (zf_182 Z9 hb (Z 68 0 0 2)) (fun v10 => (Z9, ((Z9 43 hb (Z 68 0 0 2) 0) - v10)))))) else (zlet (zf_175 Z hb hb (Z 68 0 0 1) 6) (fun Z12 => (zlet (zf_182 Z12 hb 6) (fun v13 => (Z12, (12 - v13))))))) else (if (Z 68 0 0 0) = 9 then (zlet2 (zf_105 Z hb (Z 68 0 0 1) 4) (fun Z15 v16 => (Z15, v16))) else (if (Z 68 0 0 0) = 12 then (zlet (zu Z 46 hb (Z 68 0 0 1) 6 0) (fun Z18 => (zlet (zu Z18 46 hb (Z 68 0 0 1) 7 1) (fun Z19 => (Z19, (Z 46 hb (Z 68 0 0 1) 6)))))) else (if (Z 68 0 0 0) = 15 then (zlet (zu Z 44 hb (Z 68 0 0 2) 10 1) (fun Z22 => (zlet (zu Z22 49 hb (12 * (Z 68 0 0 1) + (Z 48 hb (Z 68 0 0 1) 5)) 0 (Z 68 0 0 2)) (fun Z23 => (zlet (zu Z23 49 hb (12 * (Z 68 0 0 1) + (Z 48 hb (Z 68 0 0 1) 5)) 1 (Z 68 0 0 3)) (fun Z24 => (zlet (zu Z24 49 hb (12 * (Z 68 0 0 1) + (Z 48 hb (Z 68 0 0 1) 5)) 2 (Z 68 0 0 4)) (fun Z25 => (zlet (zu Z25 48 hb (Z 68 0 0 1) 5 ((Z25 48 hb (Z 68 0 0 1) 5) + 1)) (fun Z28 => (Z28, (Z 48 hb (Z 68 0 0 1) 5)))))))))))) else (if (Z 68 0 0 0) = 16 then (zlet2 (zf_76 Z hb (Z 68 0 0 1)) (fun Z32 v33 => (Z32, v33))) else (if (Z 68 0 0 0) = 20 then (zlet2 (zf_50 Z hb (Z 68 0 0 1) (Z 68 0 0 2)) (fun Z35 v36 => (Z35, v36))) else (zlet (zu Z 50 hb (Z 68 0 0 1) 3 (Z 68 0 0 2)) (fun Z37 => (Z37, (Z 50 hb (Z 68 0 0 1) 3))))))))))
theorem sp_121 {s : zSM} {Z : qz_Z} {ν : qz_N} (hZ : zH s Z) (hb : Nat) (gx0 : Z 68 0 0 0 = 8 ∨ Z 68 0 0 0 = 9 ∨ Z 68 0 0 0 = 12 ∨ Z 68 0 0 0 = 15 ∨ Z 68 0 0 0 = 16 ∨ Z 68 0 0 0 = 20 ∨ Z 68 0 0 0 = 21) (gx1 : Z 68 0 0 0 = 8 → (0 ≤ Z 68 0 0 1 ∧ Z 68 0 0 1 ≤ 47 ∧ -1 ≤ Z 68 0 0 2 ∧ Z 68 0 0 2 ≤ 5)) (gx2 : Z 68 0 0 0 = 9 → (0 ≤ Z 68 0 0 1 ∧ Z 68 0 0 1 ≤ 47)) (gx3 : Z 68 0 0 0 = 12 → (0 ≤ Z 68 0 0 1 ∧ Z 68 0 0 1 ≤ 23)) (gx4 : Z 68 0 0 0 = 15 → (0 ≤ Z 68 0 0 1 ∧ Z 68 0 0 1 ≤ 1 ∧ Z 48 hb (Z 68 0 0 1) 5 ≤ 11 ∧ 0 ≤ Z 68 0 0 2 ∧ Z 68 0 0 2 ≤ 47 ∧ 1 ≤ Z 68 0 0 4 ∧ Z 68 0 0 4 ≤ Z 68 0 0 3 ∧ Z 68 0 0 3 ≤ 9999)) (gx5 : Z 68 0 0 0 = 16 → (0 ≤ Z 68 0 0 1 ∧ Z 68 0 0 1 ≤ 47)) (gx6 : Z 68 0 0 0 = 20 → (0 ≤ Z 68 0 0 1 ∧ Z 68 0 0 1 ≤ 59 ∧ 0 ≤ Z 68 0 0 2 ∧ Z 68 0 0 2 ≤ 3)) (gx7 : Z 68 0 0 0 = 21 → (0 ≤ Z 68 0 0 1 ∧ Z 68 0 0 1 ≤ 3 ∧ -1 ≤ Z 68 0 0 2 ∧ Z 68 0 0 2 ≤ 671)) (hLthb : zLt hb Z) (hM : s.2 + 63 ≤ 1000000000) : ∃ (Z1 : qz_Z) (P : Int), (Z1, P) = zf_121 Z hb ∧ (qf_121 [.inr (.inr (some (10, hb, 0))), .inr (.inr (some (68, 0, 0)))] (zm Z ν) = some (zm Z1 ν, .inl (some (.inl (i3 P)))) ∧ zH (zb s 63) Z1 ∧ zC [14, 43, 44, 45, 46, 47, 48, 49, 50, 53, 1112] Z Z1 ∧ zU [hb] Z Z1 ∧ -2147483648 ≤ P ∧ P ≤ 2147483647 ∧ zLt hb Z1) := by
  obtain ⟨P, hP⟩ := zx (zf_121 Z hb)
  refine zc_W (Q := fun Z1 P => zH (zb s 63) Z1 ∧ zC [14, 43, 44, 45, 46, 47, 48, 49, 50, 53, 1112] Z Z1 ∧ zU [hb] Z Z1 ∧ -2147483648 ≤ P ∧ P ≤ 2147483647 ∧ zLt hb Z1) hP (fw_121 hb (68, 0, 0) _ _ ?_)
  replace hP : zE P (zf_121 Z hb) := hP
  unfold zf_121 at hP
  have r1 := zH_f hZ 68 0 0 0
  have r2 := zH_f hZ 68 0 0 1
  have r3 := zH_f hZ 68 0 0 2
  have r4 := zH_k hZ 48 hb (Z 68 0 0 1) 5 (lo := 0) (hi := 12) (by decide) rfl
  have r5 := zH_f hZ 68 0 0 4
  have r6 := zH_f hZ 68 0 0 3
  refine wz_i1 rfl ?_
  refine wz_i0 (i3O (n := 7) (show (0 : Int32) = i3 0 from rfl) (by omega) (by omega) (by omega)) ?_
  refine wz_i0 (Eq.trans (i3To (zm_rd (Z := Z) (ν := ν) (k := 68) (show ((0 : Nat) : Int) = 0 from rfl) (show ((0 : Nat) : Int) = 0 from rfl) (show ((0 : Nat) : Int) = 0 from rfl)) (by omega) (by omega)) (decide_eq_false (by omega))) ?_
  refine wz_i0 (Eq.trans (i3T (zm_rd (Z := Z) (ν := ν) (k := 68) (show ((0 : Nat) : Int) = 0 from rfl) (show ((0 : Nat) : Int) = 0 from rfl) (show ((0 : Nat) : Int) = 0 from rfl)) (by omega) (by omega)) (decide_eq_false (by omega))) ?_
  refine wz_i0 (Eq.trans (i3T (zm_rd (Z := Z) (ν := ν) (k := 68) (show ((0 : Nat) : Int) = 0 from rfl) (show ((0 : Nat) : Int) = 0 from rfl) (show ((0 : Nat) : Int) = 0 from rfl)) (by omega) (by omega)) (decide_eq_false (by omega))) ?_
  refine wz_i0 (Eq.trans (i3T (zm_rd (Z := Z) (ν := ν) (k := 68) (show ((0 : Nat) : Int) = 0 from rfl) (show ((0 : Nat) : Int) = 0 from rfl) (show ((0 : Nat) : Int) = 0 from rfl)) (by omega) (by omega)) (decide_eq_false (by omega))) ?_
  refine wz_i0 (Eq.trans (i3T (zm_rd (Z := Z) (ν := ν) (k := 68) (show ((0 : Nat) : Int) = 0 from rfl) (show ((0 : Nat) : Int) = 0 from rfl) (show ((0 : Nat) : Int) = 0 from rfl)) (by omega) (by omega)) (decide_eq_false (by omega))) ?_
  refine wz_i0 (Eq.trans (i3T (zm_rd (Z := Z) (ν := ν) (k := 68) (show ((0 : Nat) : Int) = 0 from rfl) (show ((0 : Nat) : Int) = 0 from rfl) (show ((0 : Nat) : Int) = 0 from rfl)) (by omega) (by omega)) (decide_eq_false (by omega))) ?_
  refine wz_i0 (Eq.trans (i3T (zm_rd (Z := Z) (ν := ν) (k := 68) (show ((0 : Nat) : Int) = 0 from rfl) (show ((0 : Nat) : Int) = 0 from rfl) (show ((0 : Nat) : Int) = 0 from rfl)) (by omega) (by omega)) (decide_eq_false (by omega))) ?_
  refine wz_i0 (Eq.trans (i3T (zm_rd (Z := Z) (ν := ν) (k := 68) (show ((0 : Nat) : Int) = 0 from rfl) (show ((0 : Nat) : Int) = 0 from rfl) (show ((0 : Nat) : Int) = 0 from rfl)) (by omega) (by omega)) (decide_eq_false (by omega))) ?_
  refine wz_i0 (Eq.trans (i3T (zm_rd (Z := Z) (ν := ν) (k := 68) (show ((0 : Nat) : Int) = 0 from rfl) (show ((0 : Nat) : Int) = 0 from rfl) (show ((0 : Nat) : Int) = 0 from rfl)) (by omega) (by omega)) (decide_eq_false (by omega))) ?_
  refine wz_br (i3T (zm_rd (Z := Z) (ν := ν) (k := 68) (show ((0 : Nat) : Int) = 0 from rfl) (show ((0 : Nat) : Int) = 0 from rfl) (show ((0 : Nat) : Int) = 0 from rfl)) (by omega) (by omega)) (fun h7 => ?_) (fun h7 => ?_)
  · replace hP := zE_p hP h7
    refine wz_i1 rfl ?_
    refine wz_i0 (i3O (n := 7) (show (1 : Int32) = i3 1 from rfl) (by omega) (by omega) (by omega)) ?_
    refine wz_i1 rfl ?_
    refine wz_i0 (i3O (n := 7) (show (2 : Int32) = i3 2 from rfl) (by omega) (by omega) (by omega)) ?_
    refine wz_br (i3NE (zm_rd (Z := Z) (ν := ν) (k := 68) (show ((0 : Nat) : Int) = 0 from rfl) (show ((0 : Nat) : Int) = 0 from rfl) (show ((2 : Nat) : Int) = 2 from rfl)) (show (-1 : Int32) = i3 (-1) from rfl) (by omega) (by omega) (by omega) (by omega)) (fun h8 => ?_) (fun h8 => ?_)
    · replace hP := zE_p hP h8
      refine wz_i0 (i3O (n := 48) (zm_rd (Z := Z) (ν := ν) (k := 68) (show ((0 : Nat) : Int) = 0 from rfl) (show ((0 : Nat) : Int) = 0 from rfl) (show ((1 : Nat) : Int) = 1 from rfl)) (by omega) (by omega) (by omega)) ?_
      obtain ⟨Z9, hZ9, c9, hZ9I, kZ9, jZ9⟩ := sp_175 (ν := ν) hZ hb hb _ (i3I (y := (Z 68 0 0 1)) (zm_rd (Z := Z) (ν := ν) (k := 68) (show ((0 : Nat) : Int) = 0 from rfl) (show ((0 : Nat) : Int) = 0 from rfl) (show ((1 : Nat) : Int) = 1 from rfl)) (by omega) (by omega) (by omega)) (by omega) (a2 := (Z 68 0 0 2)) (by omega) (zbh (c := 0) (k := 2) hM (Nat.le_of_ble_eq_true rfl))
      have hZ9U : zU [hb] Z Z9 := zU_t zU_r jZ9 (zU_b1 (List.Mem.head _) (zU_b1 (List.Mem.head _) zU_b0))
      have hZ9K : zC [14, 43, 44, 45, 46, 47, 48, 49, 50, 53, 1112] Z Z9 := zC_t zC_r kZ9 (by decide)
      replace hP := zl_e hP hZ9
      refine wz_cV_of (zas (zcons rfl (zcons rfl (zcons (zvi (zm_rd (Z := Z) (ν := ν) (k := 68) (show ((0 : Nat) : Int) = 0 from rfl) (show ((0 : Nat) : Int) = 0 from rfl) (show ((2 : Nat) : Int) = 2 from rfl))) rfl))) c9) ?_
      clear c9
      refine wz_i1 (Eq.trans (i3NE (zm_rd (Z := Z) (ν := ν) (k := 68) (show ((0 : Nat) : Int) = 0 from rfl) (show ((0 : Nat) : Int) = 0 from rfl) (show ((2 : Nat) : Int) = 2 from rfl)) (show (6 : Int32) = i3 6 from rfl) (by omega) (by omega) (by omega) (by omega)) (decide_eq_true (by omega))) ?_
      refine wz_i0 (i3O (n := 6) (zm_rd (Z := Z) (ν := ν) (k := 68) (show ((0 : Nat) : Int) = 0 from rfl) (show ((0 : Nat) : Int) = 0 from rfl) (show ((2 : Nat) : Int) = 2 from rfl)) (by omega) (by omega) (by omega)) ?_
      obtain ⟨v10, hv10, c9, lv10, uv10⟩ := sp_182 (ν := ν) hZ9I hb (a1 := (Z 68 0 0 2)) (by omega) (zbh (c := 2) (k := 0) hM (Nat.le_of_ble_eq_true rfl))
      replace hP := zl_e hP hv10
      refine wz_cI_of (zas (zcons rfl (zcons (zvi (zm_rd (Z := Z) (ν := ν) (k := 68) (show ((0 : Nat) : Int) = 0 from rfl) (show ((0 : Nat) : Int) = 0 from rfl) (show ((2 : Nat) : Int) = 2 from rfl))) rfl)) c9) ?_
      clear c9
      have r11 := zH_k hZ9I 43 hb (Z 68 0 0 2) 0 (lo := 0) (hi := 12) (by decide) rfl
      exact zlW hP (i3S (zm_rd (Z := Z9) (ν := ν) (k := 43) (rfl : ((hb : Nat) : Int) = hb) (i3I (y := (Z 68 0 0 2)) (zm_rd (Z := Z) (ν := ν) (k := 68) (show ((0 : Nat) : Int) = 0 from rfl) (show ((0 : Nat) : Int) = 0 from rfl) (show ((2 : Nat) : Int) = 2 from rfl)) (by omega) (by omega) (by omega)) (show ((0 : Nat) : Int) = 0 from rfl)) (rfl : i3 v10 = i3 v10)) ⟨(zbw (a := 2) (c := 63) hZ9I (Nat.le_of_ble_eq_true rfl)), hZ9K, hZ9U, by omega, by omega, (zLt_c hLthb kZ9 rfl)⟩
    · replace hP := zE_n hP h8
      refine wz_i0 (i3O (n := 48) (zm_rd (Z := Z) (ν := ν) (k := 68) (show ((0 : Nat) : Int) = 0 from rfl) (show ((0 : Nat) : Int) = 0 from rfl) (show ((1 : Nat) : Int) = 1 from rfl)) (by omega) (by omega) (by omega)) ?_
      obtain ⟨Z12, hZ12, c9, hZ12I, kZ12, jZ12⟩ := sp_175 (ν := ν) hZ hb hb _ (i3I (y := (Z 68 0 0 1)) (zm_rd (Z := Z) (ν := ν) (k := 68) (show ((0 : Nat) : Int) = 0 from rfl) (show ((0 : Nat) : Int) = 0 from rfl) (show ((1 : Nat) : Int) = 1 from rfl)) (by omega) (by omega) (by omega)) (by omega) (a2 := 6) (by omega) (zbh (c := 0) (k := 2) hM (Nat.le_of_ble_eq_true rfl))
      have hZ12U : zU [hb] Z Z12 := zU_t zU_r jZ12 (zU_b1 (List.Mem.head _) (zU_b1 (List.Mem.head _) zU_b0))
      have hZ12K : zC [14, 43, 44, 45, 46, 47, 48, 49, 50, 53, 1112] Z Z12 := zC_t zC_r kZ12 (by decide)
      replace hP := zl_e hP hZ12
      refine wz_cV_of (zas (zcons rfl (zcons rfl (zcons (zvi (show (6 : Int32) = i3 6 from rfl)) rfl))) c9) ?_
      clear c9
      obtain ⟨v13, hv13, c9, lv13, uv13⟩ := sp_182 (ν := ν) hZ12I hb (a1 := 6) (by omega) (zbh (c := 2) (k := 0) hM (Nat.le_of_ble_eq_true rfl))
      replace hP := zl_e hP hv13
      refine wz_cI_of (zas (zcons rfl (zcons (zvi (show (6 : Int32) = i3 6 from rfl)) rfl)) c9) ?_
      clear c9
      exact zlW hP (i3S (show (12 : Int32) = i3 12 from rfl) (rfl : i3 v13 = i3 v13)) ⟨(zbw (a := 2) (c := 63) hZ12I (Nat.le_of_ble_eq_true rfl)), hZ12K, hZ12U, by omega, by omega, (zLt_c hLthb kZ12 rfl)⟩
  · replace hP := zE_n hP h7
    refine wz_br (i3T (zm_rd (Z := Z) (ν := ν) (k := 68) (show ((0 : Nat) : Int) = 0 from rfl) (show ((0 : Nat) : Int) = 0 from rfl) (show ((0 : Nat) : Int) = 0 from rfl)) (by omega) (by omega)) (fun h14 => ?_) (fun h14 => ?_)
    · replace hP := zE_p hP h14
      refine wz_i1 rfl ?_
      refine wz_i0 (i3O (n := 7) (show (1 : Int32) = i3 1 from rfl) (by omega) (by omega) (by omega)) ?_
      obtain ⟨Z15, v16, hv16, c9, hZ15I, kZ15, jZ15, lv16, uv16, tZ15_a0b⟩ := sp_105 (ν := ν) hZ hb (a1 := (Z 68 0 0 1)) (by omega) (a2 := 4) (by omega) hLthb (zbh (c := 0) (k := 63) hM (Nat.le_of_ble_eq_true rfl))
      have hZ15U : zU [hb] Z Z15 := zU_t zU_r jZ15 (zU_b1 (List.Mem.head _) zU_b0)
      have hZ15K : zC [14, 43, 44, 45, 46, 47, 48, 49, 50, 53, 1112] Z Z15 := zC_t zC_r kZ15 (by decide)
      replace hP := zl_e2 hP hv16
      refine wz_cI_of (zas (zcons rfl (zcons (zvi (zm_rd (Z := Z) (ν := ν) (k := 68) (show ((0 : Nat) : Int) = 0 from rfl) (show ((0 : Nat) : Int) = 0 from rfl) (show ((1 : Nat) : Int) = 1 from rfl))) (zcons (zvi (show (4 : Int32) = i3 4 from rfl)) rfl))) c9) ?_
      clear c9 hv16
      exact zlW hP (rfl : i3 v16 = i3 v16) ⟨hZ15I, hZ15K, hZ15U, by omega, by omega, tZ15_a0b⟩
    · replace hP := zE_n hP h14
      refine wz_i0 (Eq.trans (i3T (zm_rd (Z := Z) (ν := ν) (k := 68) (show ((0 : Nat) : Int) = 0 from rfl) (show ((0 : Nat) : Int) = 0 from rfl) (show ((0 : Nat) : Int) = 0 from rfl)) (by omega) (by omega)) (decide_eq_false (by omega))) ?_
      refine wz_i0 (Eq.trans (i3T (zm_rd (Z := Z) (ν := ν) (k := 68) (show ((0 : Nat) : Int) = 0 from rfl) (show ((0 : Nat) : Int) = 0 from rfl) (show ((0 : Nat) : Int) = 0 from rfl)) (by omega) (by omega)) (decide_eq_false (by omega))) ?_
      refine wz_br (i3T (zm_rd (Z := Z) (ν := ν) (k := 68) (show ((0 : Nat) : Int) = 0 from rfl) (show ((0 : Nat) : Int) = 0 from rfl) (show ((0 : Nat) : Int) = 0 from rfl)) (by omega) (by omega)) (fun h17 => ?_) (fun h17 => ?_)
      · replace hP := zE_p hP h17
        refine wz_i1 rfl ?_
        refine wz_i0 (i3O (n := 7) (show (1 : Int32) = i3 1 from rfl) (by omega) (by omega) (by omega)) ?_
        refine wz_i0 (i3O (n := 24) (zm_rd (Z := Z) (ν := ν) (k := 68) (show ((0 : Nat) : Int) = 0 from rfl) (show ((0 : Nat) : Int) = 0 from rfl) (show ((1 : Nat) : Int) = 1 from rfl)) (by omega) (by omega) (by omega)) ?_
        obtain ⟨Z18, hZ18⟩ := zx (zu Z 46 hb (Z 68 0 0 1) 6 0)
        replace hP := zl_e hP hZ18
        have hZ18I := zH_0 hZ hZ18 (by decide) (Or.inl (by decide))
        have hZ18U : zU [hb] Z Z18 := zU_u zU_r hZ18 (Or.inr (List.Mem.head _))
        have hZ18K : zC [14, 43, 44, 45, 46, 47, 48, 49, 50, 53, 1112] Z Z18 := zC_u zC_r hZ18 (by decide)
        intro μ9 e9
        replace e9 := e9.trans (zm_wI (Z := Z) (ν := ν) hZ18 (rfl : ((hb : Nat) : Int) = hb) (i3I (y := (Z 68 0 0 1)) (zm_rd (Z := Z) (ν := ν) (k := 68) (show ((0 : Nat) : Int) = 0 from rfl) (show ((0 : Nat) : Int) = 0 from rfl) (show ((1 : Nat) : Int) = 1 from rfl)) (by omega) (by omega) (by omega)) (show ((6 : Nat) : Int) = 6 from rfl) (show (0 : Int32) = i3 0 from rfl))
        subst e9
        obtain ⟨Z19, hZ19⟩ := zx (zu Z18 46 hb (Z 68 0 0 1) 7 1)
        replace hP := zl_e hP hZ19
        have hZ19I := zH_u hZ18I hZ19 (lo := 0) (hi := 1) (by decide) rfl (by omega) ⟨by decide, by decide⟩ (Or.inl (by decide)) rfl
        have hZ19U : zU [hb] Z Z19 := zU_u hZ18U hZ19 (Or.inr (List.Mem.head _))
        have hZ19K : zC [14, 43, 44, 45, 46, 47, 48, 49, 50, 53, 1112] Z Z19 := zC_u hZ18K hZ19 (by decide)
        intro μ9 e9
        replace e9 := e9.trans (zm_wI (Z := Z18) (ν := ν) hZ19 (rfl : ((hb : Nat) : Int) = hb) (i3I (y := (Z 68 0 0 1)) (zm_rd (Z := Z) (ν := ν) (k := 68) (show ((0 : Nat) : Int) = 0 from rfl) (show ((0 : Nat) : Int) = 0 from rfl) (show ((1 : Nat) : Int) = 1 from rfl)) (by omega) (by omega) (by omega)) (show ((7 : Nat) : Int) = 7 from rfl) (show (1 : Int32) = i3 1 from rfl))
        subst e9
        have r20 := zH_k hZ 46 hb (Z 68 0 0 1) 6 (lo := 0) (hi := 99) (by decide) rfl
        exact zlW hP (zm_rd (Z := Z) (ν := ν) (k := 46) (rfl : ((hb : Nat) : Int) = hb) (i3I (y := (Z 68 0 0 1)) (zm_rd (Z := Z) (ν := ν) (k := 68) (show ((0 : Nat) : Int) = 0 from rfl) (show ((0 : Nat) : Int) = 0 from rfl) (show ((1 : Nat) : Int) = 1 from rfl)) (by omega) (by omega) (by omega)) (show ((6 : Nat) : Int) = 6 from rfl)) ⟨(zbw (a := 0) (c := 63) hZ19I (Nat.le_of_ble_eq_true rfl)), hZ19K, hZ19U, by omega, by omega, (zLt_o (zLt_o hLthb hZ18 ⟨by decide, .inl (by decide)⟩) hZ19 ⟨by decide, .inl (by decide)⟩)⟩
      · replace hP := zE_n hP h17
        refine wz_i0 (Eq.trans (i3T (zm_rd (Z := Z) (ν := ν) (k := 68) (show ((0 : Nat) : Int) = 0 from rfl) (show ((0 : Nat) : Int) = 0 from rfl) (show ((0 : Nat) : Int) = 0 from rfl)) (by omega) (by omega)) (decide_eq_false (by omega))) ?_
        refine wz_i0 (Eq.trans (i3T (zm_rd (Z := Z) (ν := ν) (k := 68) (show ((0 : Nat) : Int) = 0 from rfl) (show ((0 : Nat) : Int) = 0 from rfl) (show ((0 : Nat) : Int) = 0 from rfl)) (by omega) (by omega)) (decide_eq_false (by omega))) ?_
        refine wz_br (i3T (zm_rd (Z := Z) (ν := ν) (k := 68) (show ((0 : Nat) : Int) = 0 from rfl) (show ((0 : Nat) : Int) = 0 from rfl) (show ((0 : Nat) : Int) = 0 from rfl)) (by omega) (by omega)) (fun h21 => ?_) (fun h21 => ?_)
        · replace hP := zE_p hP h21
          refine wz_i1 rfl ?_
          refine wz_i0 (i3O (n := 7) (show (1 : Int32) = i3 1 from rfl) (by omega) (by omega) (by omega)) ?_
          refine wz_i1 rfl ?_
          refine wz_i0 (i3O (n := 7) (show (2 : Int32) = i3 2 from rfl) (by omega) (by omega) (by omega)) ?_
          refine wz_i1 rfl ?_
          refine wz_i0 (i3O (n := 7) (show (3 : Int32) = i3 3 from rfl) (by omega) (by omega) (by omega)) ?_
          refine wz_i1 rfl ?_
          refine wz_i0 (i3O (n := 7) (show (4 : Int32) = i3 4 from rfl) (by omega) (by omega) (by omega)) ?_
          refine wz_i0 (i3O (n := 2) (zm_rd (Z := Z) (ν := ν) (k := 68) (show ((0 : Nat) : Int) = 0 from rfl) (show ((0 : Nat) : Int) = 0 from rfl) (show ((1 : Nat) : Int) = 1 from rfl)) (by omega) (by omega) (by omega)) ?_
          refine wz_i0 (i3O (n := 48) (zm_rd (Z := Z) (ν := ν) (k := 68) (show ((0 : Nat) : Int) = 0 from rfl) (show ((0 : Nat) : Int) = 0 from rfl) (show ((2 : Nat) : Int) = 2 from rfl)) (by omega) (by omega) (by omega)) ?_
          obtain ⟨Z22, hZ22⟩ := zx (zu Z 44 hb (Z 68 0 0 2) 10 1)
          replace hP := zl_e hP hZ22
          have hZ22I := zH_u hZ hZ22 (lo := 0) (hi := 4) (by decide) rfl (by omega) ⟨by decide, by decide⟩ (Or.inl (by decide)) rfl
          have hZ22U : zU [hb] Z Z22 := zU_u zU_r hZ22 (Or.inr (List.Mem.head _))
          have hZ22K : zC [14, 43, 44, 45, 46, 47, 48, 49, 50, 53, 1112] Z Z22 := zC_u zC_r hZ22 (by decide)
          intro μ9 e9
          replace e9 := e9.trans (zm_wI (Z := Z) (ν := ν) hZ22 (rfl : ((hb : Nat) : Int) = hb) (i3I (y := (Z 68 0 0 2)) (zm_rd (Z := Z) (ν := ν) (k := 68) (show ((0 : Nat) : Int) = 0 from rfl) (show ((0 : Nat) : Int) = 0 from rfl) (show ((2 : Nat) : Int) = 2 from rfl)) (by omega) (by omega) (by omega)) (show ((10 : Nat) : Int) = 10 from rfl) (show (1 : Int32) = i3 1 from rfl))
          subst e9
          refine wz_i0 (i3O (n := 24) (i3A (i3M (zm_rd (Z := Z) (ν := ν) (k := 68) (show ((0 : Nat) : Int) = 0 from rfl) (show ((0 : Nat) : Int) = 0 from rfl) (show ((1 : Nat) : Int) = 1 from rfl)) (show (12 : Int32) = i3 12 from rfl)) (zm_rd (Z := Z) (ν := ν) (k := 48) (rfl : ((hb : Nat) : Int) = hb) (i3I (y := (Z 68 0 0 1)) (zm_rd (Z := Z) (ν := ν) (k := 68) (show ((0 : Nat) : Int) = 0 from rfl) (show ((0 : Nat) : Int) = 0 from rfl) (show ((1 : Nat) : Int) = 1 from rfl)) (by omega) (by omega) (by omega)) (show ((5 : Nat) : Int) = 5 from rfl))) (by omega) (by omega) (by omega)) ?_
          obtain ⟨Z23, hZ23⟩ := zx (zu Z22 49 hb (12 * (Z 68 0 0 1) + (Z 48 hb (Z 68 0 0 1) 5)) 0 (Z 68 0 0 2))
          replace hP := zl_e hP hZ23
          have hZ23I := zH_u hZ22I hZ23 (lo := 0) (hi := 47) (by decide) rfl (by omega) ⟨by decide, by decide⟩ (Or.inl (by decide)) rfl
          have hZ23U : zU [hb] Z Z23 := zU_u hZ22U hZ23 (Or.inr (List.Mem.head _))
          have hZ23K : zC [14, 43, 44, 45, 46, 47, 48, 49, 50, 53, 1112] Z Z23 := zC_u hZ22K hZ23 (by decide)
          intro μ9 e9
          replace e9 := e9.trans (zm_wI (Z := Z22) (ν := ν) hZ23 (rfl : ((hb : Nat) : Int) = hb) (i3I (y := (12 * (Z 68 0 0 1) + (Z 48 hb (Z 68 0 0 1) 5))) (i3A (i3M (zm_rd (Z := Z) (ν := ν) (k := 68) (show ((0 : Nat) : Int) = 0 from rfl) (show ((0 : Nat) : Int) = 0 from rfl) (show ((1 : Nat) : Int) = 1 from rfl)) (show (12 : Int32) = i3 12 from rfl)) (zm_rd (Z := Z) (ν := ν) (k := 48) (rfl : ((hb : Nat) : Int) = hb) (i3I (y := (Z 68 0 0 1)) (zm_rd (Z := Z) (ν := ν) (k := 68) (show ((0 : Nat) : Int) = 0 from rfl) (show ((0 : Nat) : Int) = 0 from rfl) (show ((1 : Nat) : Int) = 1 from rfl)) (by omega) (by omega) (by omega)) (show ((5 : Nat) : Int) = 5 from rfl))) (by omega) (by omega) (by omega)) (show ((0 : Nat) : Int) = 0 from rfl) (zm_rd (Z := Z) (ν := ν) (k := 68) (show ((0 : Nat) : Int) = 0 from rfl) (show ((0 : Nat) : Int) = 0 from rfl) (show ((2 : Nat) : Int) = 2 from rfl)))
          subst e9
          refine wz_i0 (i3O (n := 24) (i3A (i3M (zm_rd (Z := Z) (ν := ν) (k := 68) (show ((0 : Nat) : Int) = 0 from rfl) (show ((0 : Nat) : Int) = 0 from rfl) (show ((1 : Nat) : Int) = 1 from rfl)) (show (12 : Int32) = i3 12 from rfl)) (zm_rd (Z := Z) (ν := ν) (k := 48) (rfl : ((hb : Nat) : Int) = hb) (i3I (y := (Z 68 0 0 1)) (zm_rd (Z := Z) (ν := ν) (k := 68) (show ((0 : Nat) : Int) = 0 from rfl) (show ((0 : Nat) : Int) = 0 from rfl) (show ((1 : Nat) : Int) = 1 from rfl)) (by omega) (by omega) (by omega)) (show ((5 : Nat) : Int) = 5 from rfl))) (by omega) (by omega) (by omega)) ?_
          obtain ⟨Z24, hZ24⟩ := zx (zu Z23 49 hb (12 * (Z 68 0 0 1) + (Z 48 hb (Z 68 0 0 1) 5)) 1 (Z 68 0 0 3))
          replace hP := zl_e hP hZ24
          have hZ24I := zH_u hZ23I hZ24 (lo := 0) (hi := 9999) (by decide) rfl (by omega) ⟨by decide, by decide⟩ (Or.inl (by decide)) rfl
          have hZ24U : zU [hb] Z Z24 := zU_u hZ23U hZ24 (Or.inr (List.Mem.head _))
          have hZ24K : zC [14, 43, 44, 45, 46, 47, 48, 49, 50, 53, 1112] Z Z24 := zC_u hZ23K hZ24 (by decide)
          intro μ9 e9
          replace e9 := e9.trans (zm_wI (Z := Z23) (ν := ν) hZ24 (rfl : ((hb : Nat) : Int) = hb) (i3I (y := (12 * (Z 68 0 0 1) + (Z 48 hb (Z 68 0 0 1) 5))) (i3A (i3M (zm_rd (Z := Z) (ν := ν) (k := 68) (show ((0 : Nat) : Int) = 0 from rfl) (show ((0 : Nat) : Int) = 0 from rfl) (show ((1 : Nat) : Int) = 1 from rfl)) (show (12 : Int32) = i3 12 from rfl)) (zm_rd (Z := Z) (ν := ν) (k := 48) (rfl : ((hb : Nat) : Int) = hb) (i3I (y := (Z 68 0 0 1)) (zm_rd (Z := Z) (ν := ν) (k := 68) (show ((0 : Nat) : Int) = 0 from rfl) (show ((0 : Nat) : Int) = 0 from rfl) (show ((1 : Nat) : Int) = 1 from rfl)) (by omega) (by omega) (by omega)) (show ((5 : Nat) : Int) = 5 from rfl))) (by omega) (by omega) (by omega)) (show ((1 : Nat) : Int) = 1 from rfl) (zm_rd (Z := Z) (ν := ν) (k := 68) (show ((0 : Nat) : Int) = 0 from rfl) (show ((0 : Nat) : Int) = 0 from rfl) (show ((3 : Nat) : Int) = 3 from rfl)))
          subst e9
          refine wz_i0 (i3O (n := 24) (i3A (i3M (zm_rd (Z := Z) (ν := ν) (k := 68) (show ((0 : Nat) : Int) = 0 from rfl) (show ((0 : Nat) : Int) = 0 from rfl) (show ((1 : Nat) : Int) = 1 from rfl)) (show (12 : Int32) = i3 12 from rfl)) (zm_rd (Z := Z) (ν := ν) (k := 48) (rfl : ((hb : Nat) : Int) = hb) (i3I (y := (Z 68 0 0 1)) (zm_rd (Z := Z) (ν := ν) (k := 68) (show ((0 : Nat) : Int) = 0 from rfl) (show ((0 : Nat) : Int) = 0 from rfl) (show ((1 : Nat) : Int) = 1 from rfl)) (by omega) (by omega) (by omega)) (show ((5 : Nat) : Int) = 5 from rfl))) (by omega) (by omega) (by omega)) ?_
          obtain ⟨Z25, hZ25⟩ := zx (zu Z24 49 hb (12 * (Z 68 0 0 1) + (Z 48 hb (Z 68 0 0 1) 5)) 2 (Z 68 0 0 4))
          replace hP := zl_e hP hZ25
          have hZ25I := zH_u hZ24I hZ25 (lo := 0) (hi := 9999) (by decide) rfl (by omega) ⟨by decide, by decide⟩ (Or.inl (by decide)) rfl
          have hZ25U : zU [hb] Z Z25 := zU_u hZ24U hZ25 (Or.inr (List.Mem.head _))
          have hZ25K : zC [14, 43, 44, 45, 46, 47, 48, 49, 50, 53, 1112] Z Z25 := zC_u hZ24K hZ25 (by decide)
          intro μ9 e9
          replace e9 := e9.trans (zm_wI (Z := Z24) (ν := ν) hZ25 (rfl : ((hb : Nat) : Int) = hb) (i3I (y := (12 * (Z 68 0 0 1) + (Z 48 hb (Z 68 0 0 1) 5))) (i3A (i3M (zm_rd (Z := Z) (ν := ν) (k := 68) (show ((0 : Nat) : Int) = 0 from rfl) (show ((0 : Nat) : Int) = 0 from rfl) (show ((1 : Nat) : Int) = 1 from rfl)) (show (12 : Int32) = i3 12 from rfl)) (zm_rd (Z := Z) (ν := ν) (k := 48) (rfl : ((hb : Nat) : Int) = hb) (i3I (y := (Z 68 0 0 1)) (zm_rd (Z := Z) (ν := ν) (k := 68) (show ((0 : Nat) : Int) = 0 from rfl) (show ((0 : Nat) : Int) = 0 from rfl) (show ((1 : Nat) : Int) = 1 from rfl)) (by omega) (by omega) (by omega)) (show ((5 : Nat) : Int) = 5 from rfl))) (by omega) (by omega) (by omega)) (show ((2 : Nat) : Int) = 2 from rfl) (zm_rd (Z := Z) (ν := ν) (k := 68) (show ((0 : Nat) : Int) = 0 from rfl) (show ((0 : Nat) : Int) = 0 from rfl) (show ((4 : Nat) : Int) = 4 from rfl)))
          subst e9
          refine wz_i0 (i3O (n := 2) (zm_rd (Z := Z) (ν := ν) (k := 68) (show ((0 : Nat) : Int) = 0 from rfl) (show ((0 : Nat) : Int) = 0 from rfl) (show ((1 : Nat) : Int) = 1 from rfl)) (by omega) (by omega) (by omega)) ?_
          have r26 := zH_k hZ25I 48 hb (Z 68 0 0 1) 5 (lo := 0) (hi := 12) (by decide) rfl
          have q27 := (zu_ne (k' := 48) (b' := hb) (i' := (Z 68 0 0 1)) (j' := 5) hZ25 (fun q => absurd q.1 (by decide))).trans ((zu_ne (k' := 48) (b' := hb) (i' := (Z 68 0 0 1)) (j' := 5) hZ24 (fun q => absurd q.1 (by decide))).trans ((zu_ne (k' := 48) (b' := hb) (i' := (Z 68 0 0 1)) (j' := 5) hZ23 (fun q => absurd q.1 (by decide))).trans (zu_ne (k' := 48) (b' := hb) (i' := (Z 68 0 0 1)) (j' := 5) hZ22 (fun q => absurd q.1 (by decide)))))
          obtain ⟨Z28, hZ28⟩ := zx (zu Z25 48 hb (Z 68 0 0 1) 5 ((Z25 48 hb (Z 68 0 0 1) 5) + 1))
          replace hP := zl_e hP hZ28
          have hZ28I := zH_u hZ25I hZ28 (lo := 0) (hi := 12) (by decide) rfl (by omega) ⟨by decide, by decide⟩ (Or.inl (by decide)) rfl
          have hZ28U : zU [hb] Z Z28 := zU_u hZ25U hZ28 (Or.inr (List.Mem.head _))
          have hZ28K : zC [14, 43, 44, 45, 46, 47, 48, 49, 50, 53, 1112] Z Z28 := zC_u hZ25K hZ28 (by decide)
          intro μ9 e9
          replace e9 := e9.trans (zm_wI (Z := Z25) (ν := ν) hZ28 (rfl : ((hb : Nat) : Int) = hb) (i3I (y := (Z 68 0 0 1)) (zm_rd (Z := Z) (ν := ν) (k := 68) (show ((0 : Nat) : Int) = 0 from rfl) (show ((0 : Nat) : Int) = 0 from rfl) (show ((1 : Nat) : Int) = 1 from rfl)) (by omega) (by omega) (by omega)) (show ((5 : Nat) : Int) = 5 from rfl) (i3A (zm_rd (Z := Z25) (ν := ν) (k := 48) (rfl : ((hb : Nat) : Int) = hb) (i3I (y := (Z 68 0 0 1)) (zm_rd (Z := Z) (ν := ν) (k := 68) (show ((0 : Nat) : Int) = 0 from rfl) (show ((0 : Nat) : Int) = 0 from rfl) (show ((1 : Nat) : Int) = 1 from rfl)) (by omega) (by omega) (by omega)) (show ((5 : Nat) : Int) = 5 from rfl)) (show (1 : Int32) = i3 1 from rfl)))
          subst e9
          have r29 := zH_k hZ22I 48 hb (Z 68 0 0 1) 5 (lo := 0) (hi := 12) (by decide) rfl
          have q30 := zu_ne (k' := 48) (b' := hb) (i' := (Z 68 0 0 1)) (j' := 5) hZ22 (fun q => absurd q.1 (by decide))
          exact zlW hP (zm_rd (Z := Z) (ν := ν) (k := 48) (rfl : ((hb : Nat) : Int) = hb) (i3I (y := (Z 68 0 0 1)) (zm_rd (Z := Z) (ν := ν) (k := 68) (show ((0 : Nat) : Int) = 0 from rfl) (show ((0 : Nat) : Int) = 0 from rfl) (show ((1 : Nat) : Int) = 1 from rfl)) (by omega) (by omega) (by omega)) (show ((5 : Nat) : Int) = 5 from rfl)) ⟨(zbw (a := 0) (c := 63) hZ28I (Nat.le_of_ble_eq_true rfl)), hZ28K, hZ28U, by omega, by omega, (lt_q4 (zLt_o hLthb hZ22 ⟨by decide, .inl (by decide)⟩) hZ23 hZ24 hZ25 hZ28 (by omega) (by omega) (by omega) (by omega) (by omega))⟩
        · replace hP := zE_n hP h21
          refine wz_br (i3T (zm_rd (Z := Z) (ν := ν) (k := 68) (show ((0 : Nat) : Int) = 0 from rfl) (show ((0 : Nat) : Int) = 0 from rfl) (show ((0 : Nat) : Int) = 0 from rfl)) (by omega) (by omega)) (fun h31 => ?_) (fun h31 => ?_)
          · replace hP := zE_p hP h31
            refine wz_i1 rfl ?_
            refine wz_i0 (i3O (n := 7) (show (1 : Int32) = i3 1 from rfl) (by omega) (by omega) (by omega)) ?_
            obtain ⟨Z32, v33, hv33, c9, hZ32I, kZ32, jZ32, lv33, uv33, tZ32_a0b⟩ := sp_76 (ν := ν) hZ hb (a1 := (Z 68 0 0 1)) (by omega) hLthb (zbh (c := 0) (k := 0) hM (Nat.le_of_ble_eq_true rfl))
            have hZ32U : zU [hb] Z Z32 := zU_t zU_r jZ32 (zU_b1 (List.Mem.head _) zU_b0)
            have hZ32K : zC [14, 43, 44, 45, 46, 47, 48, 49, 50, 53, 1112] Z Z32 := zC_t zC_r kZ32 (by decide)
            replace hP := zl_e2 hP hv33
            refine wz_cI_of (zas (zcons rfl (zcons (zvi (zm_rd (Z := Z) (ν := ν) (k := 68) (show ((0 : Nat) : Int) = 0 from rfl) (show ((0 : Nat) : Int) = 0 from rfl) (show ((1 : Nat) : Int) = 1 from rfl))) rfl)) c9) ?_
            clear c9 hv33
            exact zlW hP (rfl : i3 v33 = i3 v33) ⟨(zbw (a := 0) (c := 63) hZ32I (Nat.le_of_ble_eq_true rfl)), hZ32K, hZ32U, by omega, by omega, tZ32_a0b⟩
          · replace hP := zE_n hP h31
            refine wz_i0 (Eq.trans (i3T (zm_rd (Z := Z) (ν := ν) (k := 68) (show ((0 : Nat) : Int) = 0 from rfl) (show ((0 : Nat) : Int) = 0 from rfl) (show ((0 : Nat) : Int) = 0 from rfl)) (by omega) (by omega)) (decide_eq_false (by omega))) ?_
            refine wz_i0 (Eq.trans (i3T (zm_rd (Z := Z) (ν := ν) (k := 68) (show ((0 : Nat) : Int) = 0 from rfl) (show ((0 : Nat) : Int) = 0 from rfl) (show ((0 : Nat) : Int) = 0 from rfl)) (by omega) (by omega)) (decide_eq_false (by omega))) ?_
            refine wz_i0 (Eq.trans (i3T (zm_rd (Z := Z) (ν := ν) (k := 68) (show ((0 : Nat) : Int) = 0 from rfl) (show ((0 : Nat) : Int) = 0 from rfl) (show ((0 : Nat) : Int) = 0 from rfl)) (by omega) (by omega)) (decide_eq_false (by omega))) ?_
            refine wz_br (i3T (zm_rd (Z := Z) (ν := ν) (k := 68) (show ((0 : Nat) : Int) = 0 from rfl) (show ((0 : Nat) : Int) = 0 from rfl) (show ((0 : Nat) : Int) = 0 from rfl)) (by omega) (by omega)) (fun h34 => ?_) (fun h34 => ?_)
            · replace hP := zE_p hP h34
              refine wz_i1 rfl ?_
              refine wz_i0 (i3O (n := 7) (show (1 : Int32) = i3 1 from rfl) (by omega) (by omega) (by omega)) ?_
              refine wz_i1 rfl ?_
              refine wz_i0 (i3O (n := 7) (show (2 : Int32) = i3 2 from rfl) (by omega) (by omega) (by omega)) ?_
              obtain ⟨Z35, v36, hv36, c9, hZ35I, kZ35, jZ35, lv36, uv36⟩ := sp_50 (ν := ν) hZ hb (a1 := (Z 68 0 0 1)) (by omega) (a2 := (Z 68 0 0 2)) (by omega) (zbh (c := 0) (k := 2) hM (Nat.le_of_ble_eq_true rfl))
              have hZ35U : zU [hb] Z Z35 := zU_t zU_r jZ35 (zU_b1 (List.Mem.head _) zU_b0)
              have hZ35K : zC [14, 43, 44, 45, 46, 47, 48, 49, 50, 53, 1112] Z Z35 := zC_t zC_r kZ35 (by decide)
              replace hP := zl_e2 hP hv36
              refine wz_cI_of (zas (zcons rfl (zcons (zvi (zm_rd (Z := Z) (ν := ν) (k := 68) (show ((0 : Nat) : Int) = 0 from rfl) (show ((0 : Nat) : Int) = 0 from rfl) (show ((1 : Nat) : Int) = 1 from rfl))) (zcons (zvi (zm_rd (Z := Z) (ν := ν) (k := 68) (show ((0 : Nat) : Int) = 0 from rfl) (show ((0 : Nat) : Int) = 0 from rfl) (show ((2 : Nat) : Int) = 2 from rfl))) rfl))) c9) ?_
              clear c9 hv36
              exact zlW hP (rfl : i3 v36 = i3 v36) ⟨(zbw (a := 2) (c := 63) hZ35I (Nat.le_of_ble_eq_true rfl)), hZ35K, hZ35U, by omega, by omega, (zLt_c hLthb kZ35 rfl)⟩
            · replace hP := zE_n hP h34
              refine wz_i1 (Eq.trans (i3T (zm_rd (Z := Z) (ν := ν) (k := 68) (show ((0 : Nat) : Int) = 0 from rfl) (show ((0 : Nat) : Int) = 0 from rfl) (show ((0 : Nat) : Int) = 0 from rfl)) (by omega) (by omega)) (decide_eq_true (by omega))) ?_
              refine wz_i1 rfl ?_
              refine wz_i0 (i3O (n := 7) (show (1 : Int32) = i3 1 from rfl) (by omega) (by omega) (by omega)) ?_
              refine wz_i0 (i3O (n := 4) (zm_rd (Z := Z) (ν := ν) (k := 68) (show ((0 : Nat) : Int) = 0 from rfl) (show ((0 : Nat) : Int) = 0 from rfl) (show ((1 : Nat) : Int) = 1 from rfl)) (by omega) (by omega) (by omega)) ?_
              refine wz_i1 rfl ?_
              refine wz_i0 (i3O (n := 7) (show (2 : Int32) = i3 2 from rfl) (by omega) (by omega) (by omega)) ?_
              obtain ⟨Z37, hZ37⟩ := zx (zu Z 50 hb (Z 68 0 0 1) 3 (Z 68 0 0 2))
              replace hP := zl_e hP hZ37
              have hZ37I := zH_u hZ hZ37 (lo := -1) (hi := 671) (by decide) rfl (by omega) ⟨by decide, by decide⟩ (Or.inl (by decide)) rfl
              have hZ37U : zU [hb] Z Z37 := zU_u zU_r hZ37 (Or.inr (List.Mem.head _))
              have hZ37K : zC [14, 43, 44, 45, 46, 47, 48, 49, 50, 53, 1112] Z Z37 := zC_u zC_r hZ37 (by decide)
              intro μ9 e9
              replace e9 := e9.trans (zm_wI (Z := Z) (ν := ν) hZ37 (rfl : ((hb : Nat) : Int) = hb) (i3I (y := (Z 68 0 0 1)) (zm_rd (Z := Z) (ν := ν) (k := 68) (show ((0 : Nat) : Int) = 0 from rfl) (show ((0 : Nat) : Int) = 0 from rfl) (show ((1 : Nat) : Int) = 1 from rfl)) (by omega) (by omega) (by omega)) (show ((3 : Nat) : Int) = 3 from rfl) (zm_rd (Z := Z) (ν := ν) (k := 68) (show ((0 : Nat) : Int) = 0 from rfl) (show ((0 : Nat) : Int) = 0 from rfl) (show ((2 : Nat) : Int) = 2 from rfl)))
              subst e9
              have r38 := zH_k hZ 50 hb (Z 68 0 0 1) 3 (lo := -1) (hi := 671) (by decide) rfl
              exact zlW hP (zm_rd (Z := Z) (ν := ν) (k := 50) (rfl : ((hb : Nat) : Int) = hb) (i3I (y := (Z 68 0 0 1)) (zm_rd (Z := Z) (ν := ν) (k := 68) (show ((0 : Nat) : Int) = 0 from rfl) (show ((0 : Nat) : Int) = 0 from rfl) (show ((1 : Nat) : Int) = 1 from rfl)) (by omega) (by omega) (by omega)) (show ((3 : Nat) : Int) = 3 from rfl)) ⟨(zbw (a := 0) (c := 63) hZ37I (Nat.le_of_ble_eq_true rfl)), hZ37K, hZ37U, by omega, by omega, (zLt_o hLthb hZ37 ⟨by decide, .inl (by decide)⟩)⟩
