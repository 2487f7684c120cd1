/- yX6_taskFault -/
def zf_123 (Z : qz_Z) (hb : Int) : Int := (if (Z 68 0 0 0) < 8 ∨ 21 < (Z 68 0 0 0) then 3 else (if (Z 68 0 0 0) = 8 then (if (Z 68 0 0 1) < 0 then 1 else (if (Z 11 hb 0 3) ≤ (Z 68 0 0 1) then 1 else (if (Z 68 0 0 2) < (-1) then 1 else (if (Z 68 0 0 2) < (Z 11 hb 0 2) then (if (Z 68 0 0 2) ≠ (-1) then (if (Z 44 hb (Z 68 0 0 1) 10) = 0 then (if (Z 44 hb (Z 68 0 0 1) 12) = (Z 68 0 0 2) then 3 else (if (Z 44 hb (Z 68 0 0 1) 12) < 0 then (if (Z 11 hb 0 2) ≤ (Z 68 0 0 2) then (zlet (zf_182 Z hb (Z 68 0 0 2)) (fun v21 => (if ((Z 43 hb (Z 68 0 0 2) 0) - v21) ≤ 0 then 3 else 0))) else (if (Z 43 hb (Z 68 0 0 2) 10) ≤ (Z 11 hb 0 13) then (zlet (zf_182 Z hb (Z 68 0 0 2)) (fun v27 => (if ((Z 43 hb (Z 68 0 0 2) 0) - v27) ≤ 0 then 3 else 0))) else 3)) else (if (Z 11 hb 0 2) ≤ (Z 44 hb (Z 68 0 0 1) 12) then (if (Z 11 hb 0 2) ≤ (Z 68 0 0 2) then (zlet (zf_182 Z hb (Z 68 0 0 2)) (fun v32 => (if ((Z 43 hb (Z 68 0 0 2) 0) - v32) ≤ 0 then 3 else 0))) else (if (Z 43 hb (Z 68 0 0 2) 10) ≤ (Z 11 hb 0 13) then (zlet (zf_182 Z hb (Z 68 0 0 2)) (fun v38 => (if ((Z 43 hb (Z 68 0 0 2) 0) - v38) ≤ 0 then 3 else 0))) else 3)) else (if (Z 43 hb (Z 44 hb (Z 68 0 0 1) 12) 10) ≤ (Z 11 hb 0 13) then (if (Z 11 hb 0 2) ≤ (Z 68 0 0 2) then (zlet (zf_182 Z hb (Z 68 0 0 2)) (fun v45 => (if ((Z 43 hb (Z 68 0 0 2) 0) - v45) ≤ 0 then 3 else 0))) else (if (Z 43 hb (Z 68 0 0 2) 10) ≤ (Z 11 hb 0 13) then (zlet (zf_182 Z hb (Z 68 0 0 2)) (fun v50 => (if ((Z 43 hb (Z 68 0 0 2) 0) - v50) ≤ 0 then 3 else 0))) else 3)) else 3)))) else (if (Z 44 hb (Z 68 0 0 1) 10) ≠ 1 then 3 else (if (Z 44 hb (Z 68 0 0 1) 12) = (Z 68 0 0 2) then 3 else (if (Z 44 hb (Z 68 0 0 1) 12) < 0 then (if (Z 11 hb 0 2) ≤ (Z 68 0 0 2) then (zlet (zf_182 Z hb (Z 68 0 0 2)) (fun v58 => (if ((Z 43 hb (Z 68 0 0 2) 0) - v58) ≤ 0 then 3 else 0))) else (if (Z 43 hb (Z 68 0 0 2) 10) ≤ (Z 11 hb 0 13) then (zlet (zf_182 Z hb (Z 68 0 0 2)) (fun v64 => (if ((Z 43 hb (Z 68 0 0 2) 0) - v64) ≤ 0 then 3 else 0))) else 3)) else (if (Z 11 hb 0 2) ≤ (Z 44 hb (Z 68 0 0 1) 12) then (if (Z 11 hb 0 2) ≤ (Z 68 0 0 2) then (zlet (zf_182 Z hb (Z 68 0 0 2)) (fun v69 => (if ((Z 43 hb (Z 68 0 0 2) 0) - v69) ≤ 0 then 3 else 0))) else (if (Z 43 hb (Z 68 0 0 2) 10) ≤ (Z 11 hb 0 13) then (zlet (zf_182 Z hb (Z 68 0 0 2)) (fun v75 => (if ((Z 43 hb (Z 68 0 0 2) 0) - v75) ≤ 0 then 3 else 0))) else 3)) else (if (Z 43 hb (Z 44 hb (Z 68 0 0 1) 12) 10) ≤ (Z 11 hb 0 13) then (if (Z 11 hb 0 2) ≤ (Z 68 0 0 2) then (zlet (zf_182 Z hb (Z 68 0 0 2)) (fun v82 => (if ((Z 43 hb (Z 68 0 0 2) 0) - v82) ≤ 0 then 3 else 0))) else (if (Z 43 hb (Z 68 0 0 2) 10) ≤ (Z 11 hb 0 13) then (zlet (zf_182 Z hb (Z 68 0 0 2)) (fun v87 => (if ((Z 43 hb (Z 68 0 0 2) 0) - v87) ≤ 0 then 3 else 0))) else 3)) else 3)))))) else (if (Z 44 hb (Z 68 0 0 1) 10) = 0 then (if (Z 44 hb (Z 68 0 0 1) 12) = 6 then 3 else (if (Z 44 hb (Z 68 0 0 1) 12) < 0 then (zlet (zf_182 Z hb 6) (fun v95 => (if (12 - v95) ≤ 0 then 3 else 0))) else (if (Z 11 hb 0 2) ≤ (Z 44 hb (Z 68 0 0 1) 12) then (zlet (zf_182 Z hb 6) (fun v98 => (if (12 - v98) ≤ 0 then 3 else 0))) else (if (Z 43 hb (Z 44 hb (Z 68 0 0 1) 12) 10) ≤ (Z 11 hb 0 13) then (zlet (zf_182 Z hb 6) (fun v103 => (if (12 - v103) ≤ 0 then 3 else 0))) else 3)))) else (if (Z 44 hb (Z 68 0 0 1) 10) ≠ 1 then 3 else (if (Z 44 hb (Z 68 0 0 1) 12) = 6 then 3 else (if (Z 44 hb (Z 68 0 0 1) 12) < 0 then (zlet (zf_182 Z hb 6) (fun v109 => (if (12 - v109) ≤ 0 then 3 else 0))) else (if (Z 11 hb 0 2) ≤ (Z 44 hb (Z 68 0 0 1) 12) then (zlet (zf_182 Z hb 6) (fun v112 => (if (12 - v112) ≤ 0 then 3 else 0))) else (if (Z 43 hb (Z 44 hb (Z 68 0 0 1) 12) 10) ≤ (Z 11 hb 0 13) then (zlet (zf_182 Z hb 6) (fun v117 => (if (12 - v117) ≤ 0 then 3 else 0))) else 3))))))) else 1)))) else (if (Z 68 0 0 0) = 9 then (if (Z 68 0 0 1) < 0 then 1 else (if (Z 68 0 0 1) < (Z 11 hb 0 3) then (if (Z 44 hb (Z 68 0 0 1) 10) = 0 then 0 else (if (Z 44 hb (Z 68 0 0 1) 10) ≠ 1 then 3 else 0)) else 1)) else (if (Z 68 0 0 0) = 10 then 3 else (if (Z 68 0 0 0) = 11 then 3 else (if (Z 68 0 0 0) = 12 then (if (Z 68 0 0 1) < 0 then 1 else (if (Z 68 0 0 1) < (Z 11 hb 0 5) then (if (Z 46 hb (Z 68 0 0 1) 7) ≠ 0 then 3 else 0) else 1)) else (if (Z 68 0 0 0) = 13 then 3 else (if (Z 68 0 0 0) = 14 then 3 else (if (Z 68 0 0 0) = 15 then (if (Z 68 0 0 1) < 0 then 1 else (if (Z 11 hb 0 7) ≤ (Z 68 0 0 1) then 1 else (if (Z 68 0 0 2) < 0 then 1 else (if (Z 68 0 0 2) < (Z 11 hb 0 3) then (if (Z 68 0 0 3) < 1 then 2 else (if 9999 < (Z 68 0 0 3) then 2 else (if (Z 68 0 0 4) < 1 then 2 else (if (Z 68 0 0 3) < (Z 68 0 0 4) then 2 else (if (Z 68 0 0 3) ≤ ((Z 68 0 0 4) + (200 * (Z 48 hb (Z 68 0 0 1) 3))) then (if (Z 44 hb (Z 68 0 0 2) 10) ≠ 0 then 3 else (if (Z 44 hb (Z 68 0 0 2) 4) ≤ 0 then 3 else (if (Z 44 hb (Z 68 0 0 2) 12) < 0 then (if 12 ≤ (Z 48 hb (Z 68 0 0 1) 5) then 3 else 0) else (if (Z 11 hb 0 2) ≤ (Z 44 hb (Z 68 0 0 2) 12) then (if 12 ≤ (Z 48 hb (Z 68 0 0 1) 5) then 3 else 0) else (if (Z 43 hb (Z 44 hb (Z 68 0 0 2) 12) 10) ≤ (Z 11 hb 0 13) then (if 12 ≤ (Z 48 hb (Z 68 0 0 1) 5) then 3 else 0) else 3))))) else 2))))) else 1)))) else (if (Z 68 0 0 0) = 16 then (if (Z 68 0 0 1) < 0 then 1 else (if (Z 68 0 0 1) < (Z 11 hb 0 3) then (if (Z 44 hb (Z 68 0 0 1) 10) ≠ 1 then 3 else 0) else 1)) else (if (Z 68 0 0 0) = 17 then 3 else (if (Z 68 0 0 0) = 18 then 3 else (if (Z 68 0 0 0) = 19 then 3 else (if (Z 68 0 0 0) = 20 then (if (Z 68 0 0 1) < 0 then 1 else (if (Z 11 hb 0 6) ≤ (Z 68 0 0 1) then 1 else (if (Z 68 0 0 2) < 0 then 1 else (if (Z 68 0 0 2) < (Z 11 hb 0 8) then (if (Z 47 hb (Z 68 0 0 1) 9) ≠ 0 then 3 else (if (Z 44 hb (Z 47 hb (Z 68 0 0 1) 0) 12) < 0 then (if (Z 50 hb (Z 68 0 0 2) 2) ≠ 0 then 3 else (zlet (zf_43 Z hb (Z 68 0 0 2)) (fun v190 => (if (Z 50 hb (Z 68 0 0 2) 0) < (w3 (v190 + (Z 47 hb (Z 68 0 0 1) 3))) then 3 else (zlet (zf_53 Z hb (Z 68 0 0 2)) (fun v195 => (if 0 < v195 then 0 else (zlet (zf_40 Z hb) (fun v197 => (if (Z 11 hb 0 14) ≤ v197 then 3 else 0)))))))))) else (if (Z 11 hb 0 2) ≤ (Z 44 hb (Z 47 hb (Z 68 0 0 1) 0) 12) then (if (Z 50 hb (Z 68 0 0 2) 2) ≠ 0 then 3 else (zlet (zf_43 Z hb (Z 68 0 0 2)) (fun v204 => (if (Z 50 hb (Z 68 0 0 2) 0) < (w3 (v204 + (Z 47 hb (Z 68 0 0 1) 3))) then 3 else (zlet (zf_53 Z hb (Z 68 0 0 2)) (fun v209 => (if 0 < v209 then 0 else (zlet (zf_40 Z hb) (fun v211 => (if (Z 11 hb 0 14) ≤ v211 then 3 else 0)))))))))) else (if (Z 43 hb (Z 44 hb (Z 47 hb (Z 68 0 0 1) 0) 12) 10) ≤ (Z 11 hb 0 13) then (if (Z 50 hb (Z 68 0 0 2) 2) ≠ 0 then 3 else (zlet (zf_43 Z hb (Z 68 0 0 2)) (fun v219 => (if (Z 50 hb (Z 68 0 0 2) 0) < (w3 (v219 + (Z 47 hb (Z 68 0 0 1) 3))) then 3 else (zlet (zf_53 Z hb (Z 68 0 0 2)) (fun v224 => (if 0 < v224 then 0 else (zlet (zf_40 Z hb) (fun v226 => (if (Z 11 hb 0 14) ≤ v226 then 3 else 0)))))))))) else 3)))) else 1)))) else (if (Z 68 0 0 1) < 0 then 1 else (if (Z 68 0 0 1) < (Z 11 hb 0 8) then (if (Z 68 0 0 2) = (-1) then (if (Z 50 hb (Z 68 0 0 1) 2) ≠ 0 then 3 else 0) else (if (Z 68 0 0 2) ≤ (Z 11 hb 0 13) then 2 else (if (Z 68 0 0 2) ≤ 671 then (if (Z 50 hb (Z 68 0 0 1) 2) ≠ 0 then 3 else 0) else 2))) else 1))))))))))))))))
theorem sp_123 {s : zSM} {Z : qz_Z} {ν : qz_N} (hZ : zH s Z) (hb : Nat) (hM : s.2 + 0 ≤ 1000000000) : ∃ P : Int, P = zf_123 Z hb ∧ (qf_123 [.inr (.inr (some (10, hb, 0))), .inr (.inr (some (68, 0, 0)))] (zm Z ν) = some (zm Z ν, .inl (some (.inl (i3 P)))) ∧ 0 ≤ P ∧ P ≤ 3 ∧ (P ≠ 0 ∨ Z 68 0 0 0 = 8 ∨ Z 68 0 0 0 = 9 ∨ Z 68 0 0 0 = 12 ∨ Z 68 0 0 0 = 15 ∨ Z 68 0 0 0 = 16 ∨ Z 68 0 0 0 = 20 ∨ Z 68 0 0 0 = 21) ∧ (P ≠ 0 ∨ Z 68 0 0 0 ≠ 8 ∨ (0 ≤ Z 68 0 0 1 ∧ Z 68 0 0 1 ≤ 47 ∧ -1 ≤ Z 68 0 0 2 ∧ Z 68 0 0 2 ≤ 5)) ∧ (P ≠ 0 ∨ Z 68 0 0 0 ≠ 9 ∨ (0 ≤ Z 68 0 0 1 ∧ Z 68 0 0 1 ≤ 47)) ∧ (P ≠ 0 ∨ Z 68 0 0 0 ≠ 12 ∨ (0 ≤ Z 68 0 0 1 ∧ Z 68 0 0 1 ≤ 23)) ∧ (P ≠ 0 ∨ Z 68 0 0 0 ≠ 15 ∨ (0 ≤ Z 68 0 0 1 ∧ Z 68 0 0 1 ≤ 1 ∧ Z 48 hb (Z 68 0 0 1) 5 ≤ 11 ∧ 0 ≤ Z 68 0 0 2 ∧ Z 68 0 0 2 ≤ 47 ∧ 1 ≤ Z 68 0 0 4 ∧ Z 68 0 0 4 ≤ Z 68 0 0 3 ∧ Z 68 0 0 3 ≤ 9999)) ∧ (P ≠ 0 ∨ Z 68 0 0 0 ≠ 16 ∨ (0 ≤ Z 68 0 0 1 ∧ Z 68 0 0 1 ≤ 47)) ∧ (P ≠ 0 ∨ Z 68 0 0 0 ≠ 20 ∨ (0 ≤ Z 68 0 0 1 ∧ Z 68 0 0 1 ≤ 59 ∧ 0 ≤ Z 68 0 0 2 ∧ Z 68 0 0 2 ≤ 3)) ∧ (P ≠ 0 ∨ Z 68 0 0 0 ≠ 21 ∨ (0 ≤ Z 68 0 0 1 ∧ Z 68 0 0 1 ≤ 3 ∧ -1 ≤ Z 68 0 0 2 ∧ Z 68 0 0 2 ≤ 671))) := by
  obtain ⟨P, hP⟩ := zx (zf_123 Z hb)
  refine zc_R (Q := fun P => 0 ≤ P ∧ P ≤ 3 ∧ (P ≠ 0 ∨ Z 68 0 0 0 = 8 ∨ Z 68 0 0 0 = 9 ∨ Z 68 0 0 0 = 12 ∨ Z 68 0 0 0 = 15 ∨ Z 68 0 0 0 = 16 ∨ Z 68 0 0 0 = 20 ∨ Z 68 0 0 0 = 21) ∧ (P ≠ 0 ∨ Z 68 0 0 0 ≠ 8 ∨ (0 ≤ Z 68 0 0 1 ∧ Z 68 0 0 1 ≤ 47 ∧ -1 ≤ Z 68 0 0 2 ∧ Z 68 0 0 2 ≤ 5)) ∧ (P ≠ 0 ∨ Z 68 0 0 0 ≠ 9 ∨ (0 ≤ Z 68 0 0 1 ∧ Z 68 0 0 1 ≤ 47)) ∧ (P ≠ 0 ∨ Z 68 0 0 0 ≠ 12 ∨ (0 ≤ Z 68 0 0 1 ∧ Z 68 0 0 1 ≤ 23)) ∧ (P ≠ 0 ∨ Z 68 0 0 0 ≠ 15 ∨ (0 ≤ Z 68 0 0 1 ∧ Z 68 0 0 1 ≤ 1 ∧ Z 48 hb (Z 68 0 0 1) 5 ≤ 11 ∧ 0 ≤ Z 68 0 0 2 ∧ Z 68 0 0 2 ≤ 47 ∧ 1 ≤ Z 68 0 0 4 ∧ Z 68 0 0 4 ≤ Z 68 0 0 3 ∧ Z 68 0 0 3 ≤ 9999)) ∧ (P ≠ 0 ∨ Z 68 0 0 0 ≠ 16 ∨ (0 ≤ Z 68 0 0 1 ∧ Z 68 0 0 1 ≤ 47)) ∧ (P ≠ 0 ∨ Z 68 0 0 0 ≠ 20 ∨ (0 ≤ Z 68 0 0 1 ∧ Z 68 0 0 1 ≤ 59 ∧ 0 ≤ Z 68 0 0 2 ∧ Z 68 0 0 2 ≤ 3)) ∧ (P ≠ 0 ∨ Z 68 0 0 0 ≠ 21 ∨ (0 ≤ Z 68 0 0 1 ∧ Z 68 0 0 1 ≤ 3 ∧ -1 ≤ Z 68 0 0 2 ∧ Z 68 0 0 2 ≤ 671))) hP (fw_123 hb _ _ ?_)
  replace hP : zE P (zf_123 Z hb) := hP
  unfold zf_123 at hP
  have r1 := zH_f hZ 68 0 0 0
  have r2 := zH_f hZ 68 0 0 1
  have r3 := zH_f hZ 68 0 0 2
  have r4 := zH_f hZ 68 0 0 4
  have r5 := zH_f hZ 68 0 0 3
  refine wz_br (i3To (zm_rd (Z := Z) (ν := ν) (k := 68) (show ((0 : Nat) : Int) = 0 from rfl) (show ((0 : Nat) : Int) = 0 from rfl) (show ((0 : Nat) : Int) = 0 from rfl)) (by omega) (by omega)) (fun h6 => ?_) (fun h6 => ?_)
  · replace hP := zE_p hP h6
    exact zlR hP (show (3 : Int32) = i3 3 from rfl) ⟨by omega, by omega, by omega, by omega, by omega, by omega, by omega, by omega, by omega, by omega⟩
  · replace hP := zE_n hP h6
    refine wz_br (i3T (zm_rd (Z := Z) (ν := ν) (k := 68) (show ((0 : Nat) : Int) = 0 from rfl) (show ((0 : Nat) : Int) = 0 from rfl) (show ((0 : Nat) : Int) = 0 from rfl)) (by omega) (by omega)) (fun h7 => ?_) (fun h7 => ?_)
    · replace hP := zE_p hP h7
      refine fw_178 _ _ _ _ _ ?_
      refine wz_br (i3L (zm_rd (Z := Z) (ν := ν) (k := 68) (show ((0 : Nat) : Int) = 0 from rfl) (show ((0 : Nat) : Int) = 0 from rfl) (show ((1 : Nat) : Int) = 1 from rfl)) (show (0 : Int32) = i3 0 from rfl) (by omega) (by omega) (by omega) (by omega)) (fun h8 => ?_) (fun h8 => ?_)
      · replace hP := zE_p hP h8
        exact zlR hP (show (1 : Int32) = i3 1 from rfl) ⟨by omega, by omega, by omega, by omega, by omega, by omega, by omega, by omega, by omega, by omega⟩
      · replace hP := zE_n hP h8
        have r9 := zH_k hZ 11 hb 0 3 (lo := 0) (hi := 48) (by decide) rfl
        refine wz_br (i3Le (zm_rd (Z := Z) (ν := ν) (k := 11) (rfl : ((hb : Nat) : Int) = hb) (show ((0 : Nat) : Int) = 0 from rfl) (show ((3 : Nat) : Int) = 3 from rfl)) (zm_rd (Z := Z) (ν := ν) (k := 68) (show ((0 : Nat) : Int) = 0 from rfl) (show ((0 : Nat) : Int) = 0 from rfl) (show ((1 : Nat) : Int) = 1 from rfl)) (by omega) (by omega) (by omega) (by omega)) (fun h10 => ?_) (fun h10 => ?_)
        · replace hP := zE_p hP h10
          exact zlR hP (show (1 : Int32) = i3 1 from rfl) ⟨by omega, by omega, by omega, by omega, by omega, by omega, by omega, by omega, by omega, by omega⟩
        · replace hP := zE_n hP h10
          refine wz_br (i3L (zm_rd (Z := Z) (ν := ν) (k := 68) (show ((0 : Nat) : Int) = 0 from rfl) (show ((0 : Nat) : Int) = 0 from rfl) (show ((2 : Nat) : Int) = 2 from rfl)) (show (-1 : Int32) = i3 (-1) from rfl) (by omega) (by omega) (by omega) (by omega)) (fun h11 => ?_) (fun h11 => ?_)
          · replace hP := zE_p hP h11
            exact zlR hP (show (1 : Int32) = i3 1 from rfl) ⟨by omega, by omega, by omega, by omega, by omega, by omega, by omega, by omega, by omega, by omega⟩
          · replace hP := zE_n hP h11
            have r12 := zH_k hZ 11 hb 0 2 (lo := 0) (hi := 6) (by decide) rfl
            refine wz_br (i3L (zm_rd (Z := Z) (ν := ν) (k := 68) (show ((0 : Nat) : Int) = 0 from rfl) (show ((0 : Nat) : Int) = 0 from rfl) (show ((2 : Nat) : Int) = 2 from rfl)) (zm_rd (Z := Z) (ν := ν) (k := 11) (rfl : ((hb : Nat) : Int) = hb) (show ((0 : Nat) : Int) = 0 from rfl) (show ((2 : Nat) : Int) = 2 from rfl)) (by omega) (by omega) (by omega) (by omega)) (fun h13 => ?_) (fun h13 => ?_)
            · replace hP := zE_p hP h13
              refine wz_i0 (i3O (n := 48) (zm_rd (Z := Z) (ν := ν) (k := 68) (show ((0 : Nat) : Int) = 0 from rfl) (show ((0 : Nat) : Int) = 0 from rfl) (show ((1 : Nat) : Int) = 1 from rfl)) (by omega) (by omega) (by omega)) ?_
              refine wz_br (i3NE (zm_rd (Z := Z) (ν := ν) (k := 68) (show ((0 : Nat) : Int) = 0 from rfl) (show ((0 : Nat) : Int) = 0 from rfl) (show ((2 : Nat) : Int) = 2 from rfl)) (show (-1 : Int32) = i3 (-1) from rfl) (by omega) (by omega) (by omega) (by omega)) (fun h14 => ?_) (fun h14 => ?_)
              · replace hP := zE_p hP h14
                have r15 := zH_k hZ 44 hb (Z 68 0 0 1) 10 (lo := 0) (hi := 4) (by decide) rfl
                refine wz_br (i3E (zm_rd (Z := Z) (ν := ν) (k := 44) (rfl : ((hb : Nat) : Int) = hb) (i3I (y := (Z 68 0 0 1)) (zm_rd (Z := Z) (ν := ν) (k := 68) (show ((0 : Nat) : Int) = 0 from rfl) (show ((0 : Nat) : Int) = 0 from rfl) (show ((1 : Nat) : Int) = 1 from rfl)) (by omega) (by omega) (by omega)) (show ((10 : Nat) : Int) = 10 from rfl)) (show (0 : Int32) = i3 0 from rfl) (by omega) (by omega) (by omega) (by omega)) (fun h16 => ?_) (fun h16 => ?_)
                · replace hP := zE_p hP h16
                  have r17 := zH_k hZ 44 hb (Z 68 0 0 1) 12 (lo := -1) (hi := 6) (by decide) rfl
                  refine wz_br (i3E (zm_rd (Z := Z) (ν := ν) (k := 44) (rfl : ((hb : Nat) : Int) = hb) (i3I (y := (Z 68 0 0 1)) (zm_rd (Z := Z) (ν := ν) (k := 68) (show ((0 : Nat) : Int) = 0 from rfl) (show ((0 : Nat) : Int) = 0 from rfl) (show ((1 : Nat) : Int) = 1 from rfl)) (by omega) (by omega) (by omega)) (show ((12 : Nat) : Int) = 12 from rfl)) (zm_rd (Z := Z) (ν := ν) (k := 68) (show ((0 : Nat) : Int) = 0 from rfl) (show ((0 : Nat) : Int) = 0 from rfl) (show ((2 : Nat) : Int) = 2 from rfl)) (by omega) (by omega) (by omega) (by omega)) (fun h18 => ?_) (fun h18 => ?_)
                  · replace hP := zE_p hP h18
                    exact zlR hP (show (3 : Int32) = i3 3 from rfl) ⟨by omega, by omega, by omega, by omega, by omega, by omega, by omega, by omega, by omega, by omega⟩
                  · replace hP := zE_n hP h18
                    refine wz_br (i3L (zm_rd (Z := Z) (ν := ν) (k := 44) (rfl : ((hb : Nat) : Int) = hb) (i3I (y := (Z 68 0 0 1)) (zm_rd (Z := Z) (ν := ν) (k := 68) (show ((0 : Nat) : Int) = 0 from rfl) (show ((0 : Nat) : Int) = 0 from rfl) (show ((1 : Nat) : Int) = 1 from rfl)) (by omega) (by omega) (by omega)) (show ((12 : Nat) : Int) = 12 from rfl)) (show (0 : Int32) = i3 0 from rfl) (by omega) (by omega) (by omega) (by omega)) (fun h19 => ?_) (fun h19 => ?_)
                    · replace hP := zE_p hP h19
                      refine wz_i0 (Eq.trans (i3L (zm_rd (Z := Z) (ν := ν) (k := 68) (show ((0 : Nat) : Int) = 0 from rfl) (show ((0 : Nat) : Int) = 0 from rfl) (show ((2 : Nat) : Int) = 2 from rfl)) (show (0 : Int32) = i3 0 from rfl) (by omega) (by omega) (by omega) (by omega)) (decide_eq_false (by omega))) ?_
                      refine wz_br (i3Le (zm_rd (Z := Z) (ν := ν) (k := 11) (rfl : ((hb : Nat) : Int) = hb) (show ((0 : Nat) : Int) = 0 from rfl) (show ((2 : Nat) : Int) = 2 from rfl)) (zm_rd (Z := Z) (ν := ν) (k := 68) (show ((0 : Nat) : Int) = 0 from rfl) (show ((0 : Nat) : Int) = 0 from rfl) (show ((2 : Nat) : Int) = 2 from rfl)) (by omega) (by omega) (by omega) (by omega)) (fun h20 => ?_) (fun h20 => ?_)
                      · replace hP := zE_p hP h20
                        refine wz_i1 (Eq.trans (i3NE (zm_rd (Z := Z) (ν := ν) (k := 68) (show ((0 : Nat) : Int) = 0 from rfl) (show ((0 : Nat) : Int) = 0 from rfl) (show ((2 : Nat) : Int) = 2 from rfl)) (show (6 : Int32) = i3 6 from rfl) (by omega) (by omega) (by omega) (by omega)) (decide_eq_true (by omega))) ?_
                        refine wz_i0 (i3O (n := 6) (zm_rd (Z := Z) (ν := ν) (k := 68) (show ((0 : Nat) : Int) = 0 from rfl) (show ((0 : Nat) : Int) = 0 from rfl) (show ((2 : Nat) : Int) = 2 from rfl)) (by omega) (by omega) (by omega)) ?_
                        obtain ⟨v21, hv21, c9, lv21, uv21⟩ := sp_182 (ν := ν) hZ hb (a1 := (Z 68 0 0 2)) (by omega) (zbh (c := 0) (k := 0) hM (Nat.le_of_ble_eq_true rfl))
                        replace hP := zl_e hP hv21
                        refine wz_cI_of (zas (zcons rfl (zcons (zvi (zm_rd (Z := Z) (ν := ν) (k := 68) (show ((0 : Nat) : Int) = 0 from rfl) (show ((0 : Nat) : Int) = 0 from rfl) (show ((2 : Nat) : Int) = 2 from rfl))) rfl)) c9) ?_
                        clear c9
                        have r22 := zH_k hZ 43 hb (Z 68 0 0 2) 0 (lo := 0) (hi := 12) (by decide) rfl
                        refine wz_br (i3Le (i3S (zm_rd (Z := Z) (ν := ν) (k := 43) (rfl : ((hb : Nat) : Int) = hb) (i3I (y := (Z 68 0 0 2)) (zm_rd (Z := Z) (ν := ν) (k := 68) (show ((0 : Nat) : Int) = 0 from rfl) (show ((0 : Nat) : Int) = 0 from rfl) (show ((2 : Nat) : Int) = 2 from rfl)) (by omega) (by omega) (by omega)) (show ((0 : Nat) : Int) = 0 from rfl)) (rfl : i3 v21 = i3 v21)) (show (0 : Int32) = i3 0 from rfl) (by omega) (by omega) (by omega) (by omega)) (fun h23 => ?_) (fun h23 => ?_)
                        · replace hP := zE_p hP h23
                          exact zlR hP (show (3 : Int32) = i3 3 from rfl) ⟨by omega, by omega, by omega, by omega, by omega, by omega, by omega, by omega, by omega, by omega⟩
                        · replace hP := zE_n hP h23
                          exact zlR hP (show (0 : Int32) = i3 0 from rfl) ⟨by omega, by omega, by omega, by omega, by omega, by omega, by omega, by omega, by omega, by omega⟩
                      · replace hP := zE_n hP h20
                        refine wz_i0 (i3O (n := 6) (zm_rd (Z := Z) (ν := ν) (k := 68) (show ((0 : Nat) : Int) = 0 from rfl) (show ((0 : Nat) : Int) = 0 from rfl) (show ((2 : Nat) : Int) = 2 from rfl)) (by omega) (by omega) (by omega)) ?_
                        have r24 := zH_k hZ 43 hb (Z 68 0 0 2) 10 (lo := -1) (hi := 695) (by decide) rfl
                        have r25 := zH_k hZ 11 hb 0 13 (lo := 0) (hi := 671) (by decide) rfl
                        refine wz_br (i3Le (zm_rd (Z := Z) (ν := ν) (k := 43) (rfl : ((hb : Nat) : Int) = hb) (i3I (y := (Z 68 0 0 2)) (zm_rd (Z := Z) (ν := ν) (k := 68) (show ((0 : Nat) : Int) = 0 from rfl) (show ((0 : Nat) : Int) = 0 from rfl) (show ((2 : Nat) : Int) = 2 from rfl)) (by omega) (by omega) (by omega)) (show ((10 : Nat) : Int) = 10 from rfl)) (zm_rd (Z := Z) (ν := ν) (k := 11) (rfl : ((hb : Nat) : Int) = hb) (show ((0 : Nat) : Int) = 0 from rfl) (show ((13 : Nat) : Int) = 13 from rfl)) (by omega) (by omega) (by omega) (by omega)) (fun h26 => ?_) (fun h26 => ?_)
                        · replace hP := zE_p hP h26
                          refine wz_i1 (Eq.trans (i3NE (zm_rd (Z := Z) (ν := ν) (k := 68) (show ((0 : Nat) : Int) = 0 from rfl) (show ((0 : Nat) : Int) = 0 from rfl) (show ((2 : Nat) : Int) = 2 from rfl)) (show (6 : Int32) = i3 6 from rfl) (by omega) (by omega) (by omega) (by omega)) (decide_eq_true (by omega))) ?_
                          refine wz_i0 (i3O (n := 6) (zm_rd (Z := Z) (ν := ν) (k := 68) (show ((0 : Nat) : Int) = 0 from rfl) (show ((0 : Nat) : Int) = 0 from rfl) (show ((2 : Nat) : Int) = 2 from rfl)) (by omega) (by omega) (by omega)) ?_
                          obtain ⟨v27, hv27, c9, lv27, uv27⟩ := sp_182 (ν := ν) hZ hb (a1 := (Z 68 0 0 2)) (by omega) (zbh (c := 0) (k := 0) hM (Nat.le_of_ble_eq_true rfl))
                          replace hP := zl_e hP hv27
                          refine wz_cI_of (zas (zcons rfl (zcons (zvi (zm_rd (Z := Z) (ν := ν) (k := 68) (show ((0 : Nat) : Int) = 0 from rfl) (show ((0 : Nat) : Int) = 0 from rfl) (show ((2 : Nat) : Int) = 2 from rfl))) rfl)) c9) ?_
                          clear c9
                          have r28 := zH_k hZ 43 hb (Z 68 0 0 2) 0 (lo := 0) (hi := 12) (by decide) rfl
                          refine wz_br (i3Le (i3S (zm_rd (Z := Z) (ν := ν) (k := 43) (rfl : ((hb : Nat) : Int) = hb) (i3I (y := (Z 68 0 0 2)) (zm_rd (Z := Z) (ν := ν) (k := 68) (show ((0 : Nat) : Int) = 0 from rfl) (show ((0 : Nat) : Int) = 0 from rfl) (show ((2 : Nat) : Int) = 2 from rfl)) (by omega) (by omega) (by omega)) (show ((0 : Nat) : Int) = 0 from rfl)) (rfl : i3 v27 = i3 v27)) (show (0 : Int32) = i3 0 from rfl) (by omega) (by omega) (by omega) (by omega)) (fun h29 => ?_) (fun h29 => ?_)
                          · replace hP := zE_p hP h29
                            exact zlR hP (show (3 : Int32) = i3 3 from rfl) ⟨by omega, by omega, by omega, by omega, by omega, by omega, by omega, by omega, by omega, by omega⟩
                          · replace hP := zE_n hP h29
                            exact zlR hP (show (0 : Int32) = i3 0 from rfl) ⟨by omega, by omega, by omega, by omega, by omega, by omega, by omega, by omega, by omega, by omega⟩
                        · replace hP := zE_n hP h26
                          exact zlR hP (show (3 : Int32) = i3 3 from rfl) ⟨by omega, by omega, by omega, by omega, by omega, by omega, by omega, by omega, by omega, by omega⟩
                    · replace hP := zE_n hP h19
                      refine wz_br (i3Le (zm_rd (Z := Z) (ν := ν) (k := 11) (rfl : ((hb : Nat) : Int) = hb) (show ((0 : Nat) : Int) = 0 from rfl) (show ((2 : Nat) : Int) = 2 from rfl)) (zm_rd (Z := Z) (ν := ν) (k := 44) (rfl : ((hb : Nat) : Int) = hb) (i3I (y := (Z 68 0 0 1)) (zm_rd (Z := Z) (ν := ν) (k := 68) (show ((0 : Nat) : Int) = 0 from rfl) (show ((0 : Nat) : Int) = 0 from rfl) (show ((1 : Nat) : Int) = 1 from rfl)) (by omega) (by omega) (by omega)) (show ((12 : Nat) : Int) = 12 from rfl)) (by omega) (by omega) (by omega) (by omega)) (fun h30 => ?_) (fun h30 => ?_)
                      · replace hP := zE_p hP h30
                        refine wz_i0 (Eq.trans (i3L (zm_rd (Z := Z) (ν := ν) (k := 68) (show ((0 : Nat) : Int) = 0 from rfl) (show ((0 : Nat) : Int) = 0 from rfl) (show ((2 : Nat) : Int) = 2 from rfl)) (show (0 : Int32) = i3 0 from rfl) (by omega) (by omega) (by omega) (by omega)) (decide_eq_false (by omega))) ?_
                        refine wz_br (i3Le (zm_rd (Z := Z) (ν := ν) (k := 11) (rfl : ((hb : Nat) : Int) = hb) (show ((0 : Nat) : Int) = 0 from rfl) (show ((2 : Nat) : Int) = 2 from rfl)) (zm_rd (Z := Z) (ν := ν) (k := 68) (show ((0 : Nat) : Int) = 0 from rfl) (show ((0 : Nat) : Int) = 0 from rfl) (show ((2 : Nat) : Int) = 2 from rfl)) (by omega) (by omega) (by omega) (by omega)) (fun h31 => ?_) (fun h31 => ?_)
                        · replace hP := zE_p hP h31
                          refine wz_i1 (Eq.trans (i3NE (zm_rd (Z := Z) (ν := ν) (k := 68) (show ((0 : Nat) : Int) = 0 from rfl) (show ((0 : Nat) : Int) = 0 from rfl) (show ((2 : Nat) : Int) = 2 from rfl)) (show (6 : Int32) = i3 6 from rfl) (by omega) (by omega) (by omega) (by omega)) (decide_eq_true (by omega))) ?_
                          refine wz_i0 (i3O (n := 6) (zm_rd (Z := Z) (ν := ν) (k := 68) (show ((0 : Nat) : Int) = 0 from rfl) (show ((0 : Nat) : Int) = 0 from rfl) (show ((2 : Nat) : Int) = 2 from rfl)) (by omega) (by omega) (by omega)) ?_
                          obtain ⟨v32, hv32, c9, lv32, uv32⟩ := sp_182 (ν := ν) hZ hb (a1 := (Z 68 0 0 2)) (by omega) (zbh (c := 0) (k := 0) hM (Nat.le_of_ble_eq_true rfl))
                          replace hP := zl_e hP hv32
                          refine wz_cI_of (zas (zcons rfl (zcons (zvi (zm_rd (Z := Z) (ν := ν) (k := 68) (show ((0 : Nat) : Int) = 0 from rfl) (show ((0 : Nat) : Int) = 0 from rfl) (show ((2 : Nat) : Int) = 2 from rfl))) rfl)) c9) ?_
                          clear c9
                          have r33 := zH_k hZ 43 hb (Z 68 0 0 2) 0 (lo := 0) (hi := 12) (by decide) rfl
                          refine wz_br (i3Le (i3S (zm_rd (Z := Z) (ν := ν) (k := 43) (rfl : ((hb : Nat) : Int) = hb) (i3I (y := (Z 68 0 0 2)) (zm_rd (Z := Z) (ν := ν) (k := 68) (show ((0 : Nat) : Int) = 0 from rfl) (show ((0 : Nat) : Int) = 0 from rfl) (show ((2 : Nat) : Int) = 2 from rfl)) (by omega) (by omega) (by omega)) (show ((0 : Nat) : Int) = 0 from rfl)) (rfl : i3 v32 = i3 v32)) (show (0 : Int32) = i3 0 from rfl) (by omega) (by omega) (by omega) (by omega)) (fun h34 => ?_) (fun h34 => ?_)
                          · replace hP := zE_p hP h34
                            exact zlR hP (show (3 : Int32) = i3 3 from rfl) ⟨by omega, by omega, by omega, by omega, by omega, by omega, by omega, by omega, by omega, by omega⟩
                          · replace hP := zE_n hP h34
                            exact zlR hP (show (0 : Int32) = i3 0 from rfl) ⟨by omega, by omega, by omega, by omega, by omega, by omega, by omega, by omega, by omega, by omega⟩
                        · replace hP := zE_n hP h31
                          refine wz_i0 (i3O (n := 6) (zm_rd (Z := Z) (ν := ν) (k := 68) (show ((0 : Nat) : Int) = 0 from rfl) (show ((0 : Nat) : Int) = 0 from rfl) (show ((2 : Nat) : Int) = 2 from rfl)) (by omega) (by omega) (by omega)) ?_
                          have r35 := zH_k hZ 43 hb (Z 68 0 0 2) 10 (lo := -1) (hi := 695) (by decide) rfl
                          have r36 := zH_k hZ 11 hb 0 13 (lo := 0) (hi := 671) (by decide) rfl
                          refine wz_br (i3Le (zm_rd (Z := Z) (ν := ν) (k := 43) (rfl : ((hb : Nat) : Int) = hb) (i3I (y := (Z 68 0 0 2)) (zm_rd (Z := Z) (ν := ν) (k := 68) (show ((0 : Nat) : Int) = 0 from rfl) (show ((0 : Nat) : Int) = 0 from rfl) (show ((2 : Nat) : Int) = 2 from rfl)) (by omega) (by omega) (by omega)) (show ((10 : Nat) : Int) = 10 from rfl)) (zm_rd (Z := Z) (ν := ν) (k := 11) (rfl : ((hb : Nat) : Int) = hb) (show ((0 : Nat) : Int) = 0 from rfl) (show ((13 : Nat) : Int) = 13 from rfl)) (by omega) (by omega) (by omega) (by omega)) (fun h37 => ?_) (fun h37 => ?_)
                          · replace hP := zE_p hP h37
                            refine wz_i1 (Eq.trans (i3NE (zm_rd (Z := Z) (ν := ν) (k := 68) (show ((0 : Nat) : Int) = 0 from rfl) (show ((0 : Nat) : Int) = 0 from rfl) (show ((2 : Nat) : Int) = 2 from rfl)) (show (6 : Int32) = i3 6 from rfl) (by omega) (by omega) (by omega) (by omega)) (decide_eq_true (by omega))) ?_
                            refine wz_i0 (i3O (n := 6) (zm_rd (Z := Z) (ν := ν) (k := 68) (show ((0 : Nat) : Int) = 0 from rfl) (show ((0 : Nat) : Int) = 0 from rfl) (show ((2 : Nat) : Int) = 2 from rfl)) (by omega) (by omega) (by omega)) ?_
                            obtain ⟨v38, hv38, c9, lv38, uv38⟩ := sp_182 (ν := ν) hZ hb (a1 := (Z 68 0 0 2)) (by omega) (zbh (c := 0) (k := 0) hM (Nat.le_of_ble_eq_true rfl))
                            replace hP := zl_e hP hv38
                            refine wz_cI_of (zas (zcons rfl (zcons (zvi (zm_rd (Z := Z) (ν := ν) (k := 68) (show ((0 : Nat) : Int) = 0 from rfl) (show ((0 : Nat) : Int) = 0 from rfl) (show ((2 : Nat) : Int) = 2 from rfl))) rfl)) c9) ?_
                            clear c9
                            have r39 := zH_k hZ 43 hb (Z 68 0 0 2) 0 (lo := 0) (hi := 12) (by decide) rfl
                            refine wz_br (i3Le (i3S (zm_rd (Z := Z) (ν := ν) (k := 43) (rfl : ((hb : Nat) : Int) = hb) (i3I (y := (Z 68 0 0 2)) (zm_rd (Z := Z) (ν := ν) (k := 68) (show ((0 : Nat) : Int) = 0 from rfl) (show ((0 : Nat) : Int) = 0 from rfl) (show ((2 : Nat) : Int) = 2 from rfl)) (by omega) (by omega) (by omega)) (show ((0 : Nat) : Int) = 0 from rfl)) (rfl : i3 v38 = i3 v38)) (show (0 : Int32) = i3 0 from rfl) (by omega) (by omega) (by omega) (by omega)) (fun h40 => ?_) (fun h40 => ?_)
                            · replace hP := zE_p hP h40
                              exact zlR hP (show (3 : Int32) = i3 3 from rfl) ⟨by omega, by omega, by omega, by omega, by omega, by omega, by omega, by omega, by omega, by omega⟩
                            · replace hP := zE_n hP h40
                              exact zlR hP (show (0 : Int32) = i3 0 from rfl) ⟨by omega, by omega, by omega, by omega, by omega, by omega, by omega, by omega, by omega, by omega⟩
                          · replace hP := zE_n hP h37
                            exact zlR hP (show (3 : Int32) = i3 3 from rfl) ⟨by omega, by omega, by omega, by omega, by omega, by omega, by omega, by omega, by omega, by omega⟩
                      · replace hP := zE_n hP h30
                        refine wz_i0 (i3O (n := 6) (zm_rd (Z := Z) (ν := ν) (k := 44) (rfl : ((hb : Nat) : Int) = hb) (i3I (y := (Z 68 0 0 1)) (zm_rd (Z := Z) (ν := ν) (k := 68) (show ((0 : Nat) : Int) = 0 from rfl) (show ((0 : Nat) : Int) = 0 from rfl) (show ((1 : Nat) : Int) = 1 from rfl)) (by omega) (by omega) (by omega)) (show ((12 : Nat) : Int) = 12 from rfl)) (by omega) (by omega) (by omega)) ?_
                        have r41 := zH_k hZ 43 hb (Z 44 hb (Z 68 0 0 1) 12) 10 (lo := -1) (hi := 695) (by decide) rfl
                        have r42 := zH_k hZ 11 hb 0 13 (lo := 0) (hi := 671) (by decide) rfl
                        refine wz_br (i3Le (zm_rd (Z := Z) (ν := ν) (k := 43) (rfl : ((hb : Nat) : Int) = hb) (i3I (y := (Z 44 hb (Z 68 0 0 1) 12)) (zm_rd (Z := Z) (ν := ν) (k := 44) (rfl : ((hb : Nat) : Int) = hb) (i3I (y := (Z 68 0 0 1)) (zm_rd (Z := Z) (ν := ν) (k := 68) (show ((0 : Nat) : Int) = 0 from rfl) (show ((0 : Nat) : Int) = 0 from rfl) (show ((1 : Nat) : Int) = 1 from rfl)) (by omega) (by omega) (by omega)) (show ((12 : Nat) : Int) = 12 from rfl)) (by omega) (by omega) (by omega)) (show ((10 : Nat) : Int) = 10 from rfl)) (zm_rd (Z := Z) (ν := ν) (k := 11) (rfl : ((hb : Nat) : Int) = hb) (show ((0 : Nat) : Int) = 0 from rfl) (show ((13 : Nat) : Int) = 13 from rfl)) (by omega) (by omega) (by omega) (by omega)) (fun h43 => ?_) (fun h43 => ?_)
                        · replace hP := zE_p hP h43
                          refine wz_i0 (Eq.trans (i3L (zm_rd (Z := Z) (ν := ν) (k := 68) (show ((0 : Nat) : Int) = 0 from rfl) (show ((0 : Nat) : Int) = 0 from rfl) (show ((2 : Nat) : Int) = 2 from rfl)) (show (0 : Int32) = i3 0 from rfl) (by omega) (by omega) (by omega) (by omega)) (decide_eq_false (by omega))) ?_
                          refine wz_br (i3Le (zm_rd (Z := Z) (ν := ν) (k := 11) (rfl : ((hb : Nat) : Int) = hb) (show ((0 : Nat) : Int) = 0 from rfl) (show ((2 : Nat) : Int) = 2 from rfl)) (zm_rd (Z := Z) (ν := ν) (k := 68) (show ((0 : Nat) : Int) = 0 from rfl) (show ((0 : Nat) : Int) = 0 from rfl) (show ((2 : Nat) : Int) = 2 from rfl)) (by omega) (by omega) (by omega) (by omega)) (fun h44 => ?_) (fun h44 => ?_)
                          · replace hP := zE_p hP h44
                            refine wz_i1 (Eq.trans (i3NE (zm_rd (Z := Z) (ν := ν) (k := 68) (show ((0 : Nat) : Int) = 0 from rfl) (show ((0 : Nat) : Int) = 0 from rfl) (show ((2 : Nat) : Int) = 2 from rfl)) (show (6 : Int32) = i3 6 from rfl) (by omega) (by omega) (by omega) (by omega)) (decide_eq_true (by omega))) ?_
                            refine wz_i0 (i3O (n := 6) (zm_rd (Z := Z) (ν := ν) (k := 68) (show ((0 : Nat) : Int) = 0 from rfl) (show ((0 : Nat) : Int) = 0 from rfl) (show ((2 : Nat) : Int) = 2 from rfl)) (by omega) (by omega) (by omega)) ?_
                            obtain ⟨v45, hv45, c9, lv45, uv45⟩ := sp_182 (ν := ν) hZ hb (a1 := (Z 68 0 0 2)) (by omega) (zbh (c := 0) (k := 0) hM (Nat.le_of_ble_eq_true rfl))
                            replace hP := zl_e hP hv45
                            refine wz_cI_of (zas (zcons rfl (zcons (zvi (zm_rd (Z := Z) (ν := ν) (k := 68) (show ((0 : Nat) : Int) = 0 from rfl) (show ((0 : Nat) : Int) = 0 from rfl) (show ((2 : Nat) : Int) = 2 from rfl))) rfl)) c9) ?_
                            clear c9
                            have r46 := zH_k hZ 43 hb (Z 68 0 0 2) 0 (lo := 0) (hi := 12) (by decide) rfl
                            refine wz_br (i3Le (i3S (zm_rd (Z := Z) (ν := ν) (k := 43) (rfl : ((hb : Nat) : Int) = hb) (i3I (y := (Z 68 0 0 2)) (zm_rd (Z := Z) (ν := ν) (k := 68) (show ((0 : Nat) : Int) = 0 from rfl) (show ((0 : Nat) : Int) = 0 from rfl) (show ((2 : Nat) : Int) = 2 from rfl)) (by omega) (by omega) (by omega)) (show ((0 : Nat) : Int) = 0 from rfl)) (rfl : i3 v45 = i3 v45)) (show (0 : Int32) = i3 0 from rfl) (by omega) (by omega) (by omega) (by omega)) (fun h47 => ?_) (fun h47 => ?_)
                            · replace hP := zE_p hP h47
                              exact zlR hP (show (3 : Int32) = i3 3 from rfl) ⟨by omega, by omega, by omega, by omega, by omega, by omega, by omega, by omega, by omega, by omega⟩
                            · replace hP := zE_n hP h47
                              exact zlR hP (show (0 : Int32) = i3 0 from rfl) ⟨by omega, by omega, by omega, by omega, by omega, by omega, by omega, by omega, by omega, by omega⟩
                          · replace hP := zE_n hP h44
                            refine wz_i0 (i3O (n := 6) (zm_rd (Z := Z) (ν := ν) (k := 68) (show ((0 : Nat) : Int) = 0 from rfl) (show ((0 : Nat) : Int) = 0 from rfl) (show ((2 : Nat) : Int) = 2 from rfl)) (by omega) (by omega) (by omega)) ?_
                            have r48 := zH_k hZ 43 hb (Z 68 0 0 2) 10 (lo := -1) (hi := 695) (by decide) rfl
                            refine wz_br (i3Le (zm_rd (Z := Z) (ν := ν) (k := 43) (rfl : ((hb : Nat) : Int) = hb) (i3I (y := (Z 68 0 0 2)) (zm_rd (Z := Z) (ν := ν) (k := 68) (show ((0 : Nat) : Int) = 0 from rfl) (show ((0 : Nat) : Int) = 0 from rfl) (show ((2 : Nat) : Int) = 2 from rfl)) (by omega) (by omega) (by omega)) (show ((10 : Nat) : Int) = 10 from rfl)) (zm_rd (Z := Z) (ν := ν) (k := 11) (rfl : ((hb : Nat) : Int) = hb) (show ((0 : Nat) : Int) = 0 from rfl) (show ((13 : Nat) : Int) = 13 from rfl)) (by omega) (by omega) (by omega) (by omega)) (fun h49 => ?_) (fun h49 => ?_)
                            · replace hP := zE_p hP h49
                              refine wz_i1 (Eq.trans (i3NE (zm_rd (Z := Z) (ν := ν) (k := 68) (show ((0 : Nat) : Int) = 0 from rfl) (show ((0 : Nat) : Int) = 0 from rfl) (show ((2 : Nat) : Int) = 2 from rfl)) (show (6 : Int32) = i3 6 from rfl) (by omega) (by omega) (by omega) (by omega)) (decide_eq_true (by omega))) ?_
                              refine wz_i0 (i3O (n := 6) (zm_rd (Z := Z) (ν := ν) (k := 68) (show ((0 : Nat) : Int) = 0 from rfl) (show ((0 : Nat) : Int) = 0 from rfl) (show ((2 : Nat) : Int) = 2 from rfl)) (by omega) (by omega) (by omega)) ?_
                              obtain ⟨v50, hv50, c9, lv50, uv50⟩ := sp_182 (ν := ν) hZ hb (a1 := (Z 68 0 0 2)) (by omega) (zbh (c := 0) (k := 0) hM (Nat.le_of_ble_eq_true rfl))
                              replace hP := zl_e hP hv50
                              refine wz_cI_of (zas (zcons rfl (zcons (zvi (zm_rd (Z := Z) (ν := ν) (k := 68) (show ((0 : Nat) : Int) = 0 from rfl) (show ((0 : Nat) : Int) = 0 from rfl) (show ((2 : Nat) : Int) = 2 from rfl))) rfl)) c9) ?_
                              clear c9
                              have r51 := zH_k hZ 43 hb (Z 68 0 0 2) 0 (lo := 0) (hi := 12) (by decide) rfl
                              refine wz_br (i3Le (i3S (zm_rd (Z := Z) (ν := ν) (k := 43) (rfl : ((hb : Nat) : Int) = hb) (i3I (y := (Z 68 0 0 2)) (zm_rd (Z := Z) (ν := ν) (k := 68) (show ((0 : Nat) : Int) = 0 from rfl) (show ((0 : Nat) : Int) = 0 from rfl) (show ((2 : Nat) : Int) = 2 from rfl)) (by omega) (by omega) (by omega)) (show ((0 : Nat) : Int) = 0 from rfl)) (rfl : i3 v50 = i3 v50)) (show (0 : Int32) = i3 0 from rfl) (by omega) (by omega) (by omega) (by omega)) (fun h52 => ?_) (fun h52 => ?_)
                              · replace hP := zE_p hP h52
                                exact zlR hP (show (3 : Int32) = i3 3 from rfl) ⟨by omega, by omega, by omega, by omega, by omega, by omega, by omega, by omega, by omega, by omega⟩
                              · replace hP := zE_n hP h52
                                exact zlR hP (show (0 : Int32) = i3 0 from rfl) ⟨by omega, by omega, by omega, by omega, by omega, by omega, by omega, by omega, by omega, by omega⟩
                            · replace hP := zE_n hP h49
                              exact zlR hP (show (3 : Int32) = i3 3 from rfl) ⟨by omega, by omega, by omega, by omega, by omega, by omega, by omega, by omega, by omega, by omega⟩
                        · replace hP := zE_n hP h43
                          exact zlR hP (show (3 : Int32) = i3 3 from rfl) ⟨by omega, by omega, by omega, by omega, by omega, by omega, by omega, by omega, by omega, by omega⟩
                · replace hP := zE_n hP h16
                  refine wz_br (i3NE (zm_rd (Z := Z) (ν := ν) (k := 44) (rfl : ((hb : Nat) : Int) = hb) (i3I (y := (Z 68 0 0 1)) (zm_rd (Z := Z) (ν := ν) (k := 68) (show ((0 : Nat) : Int) = 0 from rfl) (show ((0 : Nat) : Int) = 0 from rfl) (show ((1 : Nat) : Int) = 1 from rfl)) (by omega) (by omega) (by omega)) (show ((10 : Nat) : Int) = 10 from rfl)) (show (1 : Int32) = i3 1 from rfl) (by omega) (by omega) (by omega) (by omega)) (fun h53 => ?_) (fun h53 => ?_)
                  · replace hP := zE_p hP h53
                    exact zlR hP (show (3 : Int32) = i3 3 from rfl) ⟨by omega, by omega, by omega, by omega, by omega, by omega, by omega, by omega, by omega, by omega⟩
                  · replace hP := zE_n hP h53
                    have r54 := zH_k hZ 44 hb (Z 68 0 0 1) 12 (lo := -1) (hi := 6) (by decide) rfl
                    refine wz_br (i3E (zm_rd (Z := Z) (ν := ν) (k := 44) (rfl : ((hb : Nat) : Int) = hb) (i3I (y := (Z 68 0 0 1)) (zm_rd (Z := Z) (ν := ν) (k := 68) (show ((0 : Nat) : Int) = 0 from rfl) (show ((0 : Nat) : Int) = 0 from rfl) (show ((1 : Nat) : Int) = 1 from rfl)) (by omega) (by omega) (by omega)) (show ((12 : Nat) : Int) = 12 from rfl)) (zm_rd (Z := Z) (ν := ν) (k := 68) (show ((0 : Nat) : Int) = 0 from rfl) (show ((0 : Nat) : Int) = 0 from rfl) (show ((2 : Nat) : Int) = 2 from rfl)) (by omega) (by omega) (by omega) (by omega)) (fun h55 => ?_) (fun h55 => ?_)
                    · replace hP := zE_p hP h55
                      exact zlR hP (show (3 : Int32) = i3 3 from rfl) ⟨by omega, by omega, by omega, by omega, by omega, by omega, by omega, by omega, by omega, by omega⟩
                    · replace hP := zE_n hP h55
                      refine wz_br (i3L (zm_rd (Z := Z) (ν := ν) (k := 44) (rfl : ((hb : Nat) : Int) = hb) (i3I (y := (Z 68 0 0 1)) (zm_rd (Z := Z) (ν := ν) (k := 68) (show ((0 : Nat) : Int) = 0 from rfl) (show ((0 : Nat) : Int) = 0 from rfl) (show ((1 : Nat) : Int) = 1 from rfl)) (by omega) (by omega) (by omega)) (show ((12 : Nat) : Int) = 12 from rfl)) (show (0 : Int32) = i3 0 from rfl) (by omega) (by omega) (by omega) (by omega)) (fun h56 => ?_) (fun h56 => ?_)
                      · replace hP := zE_p hP h56
                        refine wz_i0 (Eq.trans (i3L (zm_rd (Z := Z) (ν := ν) (k := 68) (show ((0 : Nat) : Int) = 0 from rfl) (show ((0 : Nat) : Int) = 0 from rfl) (show ((2 : Nat) : Int) = 2 from rfl)) (show (0 : Int32) = i3 0 from rfl) (by omega) (by omega) (by omega) (by omega)) (decide_eq_false (by omega))) ?_
                        refine wz_br (i3Le (zm_rd (Z := Z) (ν := ν) (k := 11) (rfl : ((hb : Nat) : Int) = hb) (show ((0 : Nat) : Int) = 0 from rfl) (show ((2 : Nat) : Int) = 2 from rfl)) (zm_rd (Z := Z) (ν := ν) (k := 68) (show ((0 : Nat) : Int) = 0 from rfl) (show ((0 : Nat) : Int) = 0 from rfl) (show ((2 : Nat) : Int) = 2 from rfl)) (by omega) (by omega) (by omega) (by omega)) (fun h57 => ?_) (fun h57 => ?_)
                        · replace hP := zE_p hP h57
                          refine wz_i1 (Eq.trans (i3NE (zm_rd (Z := Z) (ν := ν) (k := 68) (show ((0 : Nat) : Int) = 0 from rfl) (show ((0 : Nat) : Int) = 0 from rfl) (show ((2 : Nat) : Int) = 2 from rfl)) (show (6 : Int32) = i3 6 from rfl) (by omega) (by omega) (by omega) (by omega)) (decide_eq_true (by omega))) ?_
                          refine wz_i0 (i3O (n := 6) (zm_rd (Z := Z) (ν := ν) (k := 68) (show ((0 : Nat) : Int) = 0 from rfl) (show ((0 : Nat) : Int) = 0 from rfl) (show ((2 : Nat) : Int) = 2 from rfl)) (by omega) (by omega) (by omega)) ?_
                          obtain ⟨v58, hv58, c9, lv58, uv58⟩ := sp_182 (ν := ν) hZ hb (a1 := (Z 68 0 0 2)) (by omega) (zbh (c := 0) (k := 0) hM (Nat.le_of_ble_eq_true rfl))
                          replace hP := zl_e hP hv58
                          refine wz_cI_of (zas (zcons rfl (zcons (zvi (zm_rd (Z := Z) (ν := ν) (k := 68) (show ((0 : Nat) : Int) = 0 from rfl) (show ((0 : Nat) : Int) = 0 from rfl) (show ((2 : Nat) : Int) = 2 from rfl))) rfl)) c9) ?_
                          clear c9
                          have r59 := zH_k hZ 43 hb (Z 68 0 0 2) 0 (lo := 0) (hi := 12) (by decide) rfl
                          refine wz_br (i3Le (i3S (zm_rd (Z := Z) (ν := ν) (k := 43) (rfl : ((hb : Nat) : Int) = hb) (i3I (y := (Z 68 0 0 2)) (zm_rd (Z := Z) (ν := ν) (k := 68) (show ((0 : Nat) : Int) = 0 from rfl) (show ((0 : Nat) : Int) = 0 from rfl) (show ((2 : Nat) : Int) = 2 from rfl)) (by omega) (by omega) (by omega)) (show ((0 : Nat) : Int) = 0 from rfl)) (rfl : i3 v58 = i3 v58)) (show (0 : Int32) = i3 0 from rfl) (by omega) (by omega) (by omega) (by omega)) (fun h60 => ?_) (fun h60 => ?_)
                          · replace hP := zE_p hP h60
                            exact zlR hP (show (3 : Int32) = i3 3 from rfl) ⟨by omega, by omega, by omega, by omega, by omega, by omega, by omega, by omega, by omega, by omega⟩
                          · replace hP := zE_n hP h60
                            exact zlR hP (show (0 : Int32) = i3 0 from rfl) ⟨by omega, by omega, by omega, by omega, by omega, by omega, by omega, by omega, by omega, by omega⟩
                        · replace hP := zE_n hP h57
                          refine wz_i0 (i3O (n := 6) (zm_rd (Z := Z) (ν := ν) (k := 68) (show ((0 : Nat) : Int) = 0 from rfl) (show ((0 : Nat) : Int) = 0 from rfl) (show ((2 : Nat) : Int) = 2 from rfl)) (by omega) (by omega) (by omega)) ?_
                          have r61 := zH_k hZ 43 hb (Z 68 0 0 2) 10 (lo := -1) (hi := 695) (by decide) rfl
                          have r62 := zH_k hZ 11 hb 0 13 (lo := 0) (hi := 671) (by decide) rfl
                          refine wz_br (i3Le (zm_rd (Z := Z) (ν := ν) (k := 43) (rfl : ((hb : Nat) : Int) = hb) (i3I (y := (Z 68 0 0 2)) (zm_rd (Z := Z) (ν := ν) (k := 68) (show ((0 : Nat) : Int) = 0 from rfl) (show ((0 : Nat) : Int) = 0 from rfl) (show ((2 : Nat) : Int) = 2 from rfl)) (by omega) (by omega) (by omega)) (show ((10 : Nat) : Int) = 10 from rfl)) (zm_rd (Z := Z) (ν := ν) (k := 11) (rfl : ((hb : Nat) : Int) = hb) (show ((0 : Nat) : Int) = 0 from rfl) (show ((13 : Nat) : Int) = 13 from rfl)) (by omega) (by omega) (by omega) (by omega)) (fun h63 => ?_) (fun h63 => ?_)
                          · replace hP := zE_p hP h63
                            refine wz_i1 (Eq.trans (i3NE (zm_rd (Z := Z) (ν := ν) (k := 68) (show ((0 : Nat) : Int) = 0 from rfl) (show ((0 : Nat) : Int) = 0 from rfl) (show ((2 : Nat) : Int) = 2 from rfl)) (show (6 : Int32) = i3 6 from rfl) (by omega) (by omega) (by omega) (by omega)) (decide_eq_true (by omega))) ?_
                            refine wz_i0 (i3O (n := 6) (zm_rd (Z := Z) (ν := ν) (k := 68) (show ((0 : Nat) : Int) = 0 from rfl) (show ((0 : Nat) : Int) = 0 from rfl) (show ((2 : Nat) : Int) = 2 from rfl)) (by omega) (by omega) (by omega)) ?_
                            obtain ⟨v64, hv64, c9, lv64, uv64⟩ := sp_182 (ν := ν) hZ hb (a1 := (Z 68 0 0 2)) (by omega) (zbh (c := 0) (k := 0) hM (Nat.le_of_ble_eq_true rfl))
                            replace hP := zl_e hP hv64
                            refine wz_cI_of (zas (zcons rfl (zcons (zvi (zm_rd (Z := Z) (ν := ν) (k := 68) (show ((0 : Nat) : Int) = 0 from rfl) (show ((0 : Nat) : Int) = 0 from rfl) (show ((2 : Nat) : Int) = 2 from rfl))) rfl)) c9) ?_
                            clear c9
                            have r65 := zH_k hZ 43 hb (Z 68 0 0 2) 0 (lo := 0) (hi := 12) (by decide) rfl
                            refine wz_br (i3Le (i3S (zm_rd (Z := Z) (ν := ν) (k := 43) (rfl : ((hb : Nat) : Int) = hb) (i3I (y := (Z 68 0 0 2)) (zm_rd (Z := Z) (ν := ν) (k := 68) (show ((0 : Nat) : Int) = 0 from rfl) (show ((0 : Nat) : Int) = 0 from rfl) (show ((2 : Nat) : Int) = 2 from rfl)) (by omega) (by omega) (by omega)) (show ((0 : Nat) : Int) = 0 from rfl)) (rfl : i3 v64 = i3 v64)) (show (0 : Int32) = i3 0 from rfl) (by omega) (by omega) (by omega) (by omega)) (fun h66 => ?_) (fun h66 => ?_)
                            · replace hP := zE_p hP h66
                              exact zlR hP (show (3 : Int32) = i3 3 from rfl) ⟨by omega, by omega, by omega, by omega, by omega, by omega, by omega, by omega, by omega, by omega⟩
                            · replace hP := zE_n hP h66
                              exact zlR hP (show (0 : Int32) = i3 0 from rfl) ⟨by omega, by omega, by omega, by omega, by omega, by omega, by omega, by omega, by omega, by omega⟩
                          · replace hP := zE_n hP h63
                            exact zlR hP (show (3 : Int32) = i3 3 from rfl) ⟨by omega, by omega, by omega, by omega, by omega, by omega, by omega, by omega, by omega, by omega⟩
                      · replace hP := zE_n hP h56
                        refine wz_br (i3Le (zm_rd (Z := Z) (ν := ν) (k := 11) (rfl : ((hb : Nat) : Int) = hb) (show ((0 : Nat) : Int) = 0 from rfl) (show ((2 : Nat) : Int) = 2 from rfl)) (zm_rd (Z := Z) (ν := ν) (k := 44) (rfl : ((hb : Nat) : Int) = hb) (i3I (y := (Z 68 0 0 1)) (zm_rd (Z := Z) (ν := ν) (k := 68) (show ((0 : Nat) : Int) = 0 from rfl) (show ((0 : Nat) : Int) = 0 from rfl) (show ((1 : Nat) : Int) = 1 from rfl)) (by omega) (by omega) (by omega)) (show ((12 : Nat) : Int) = 12 from rfl)) (by omega) (by omega) (by omega) (by omega)) (fun h67 => ?_) (fun h67 => ?_)
                        · replace hP := zE_p hP h67
                          refine wz_i0 (Eq.trans (i3L (zm_rd (Z := Z) (ν := ν) (k := 68) (show ((0 : Nat) : Int) = 0 from rfl) (show ((0 : Nat) : Int) = 0 from rfl) (show ((2 : Nat) : Int) = 2 from rfl)) (show (0 : Int32) = i3 0 from rfl) (by omega) (by omega) (by omega) (by omega)) (decide_eq_false (by omega))) ?_
                          refine wz_br (i3Le (zm_rd (Z := Z) (ν := ν) (k := 11) (rfl : ((hb : Nat) : Int) = hb) (show ((0 : Nat) : Int) = 0 from rfl) (show ((2 : Nat) : Int) = 2 from rfl)) (zm_rd (Z := Z) (ν := ν) (k := 68) (show ((0 : Nat) : Int) = 0 from rfl) (show ((0 : Nat) : Int) = 0 from rfl) (show ((2 : Nat) : Int) = 2 from rfl)) (by omega) (by omega) (by omega) (by omega)) (fun h68 => ?_) (fun h68 => ?_)
                          · replace hP := zE_p hP h68
                            refine wz_i1 (Eq.trans (i3NE (zm_rd (Z := Z) (ν := ν) (k := 68) (show ((0 : Nat) : Int) = 0 from rfl) (show ((0 : Nat) : Int) = 0 from rfl) (show ((2 : Nat) : Int) = 2 from rfl)) (show (6 : Int32) = i3 6 from rfl) (by omega) (by omega) (by omega) (by omega)) (decide_eq_true (by omega))) ?_
                            refine wz_i0 (i3O (n := 6) (zm_rd (Z := Z) (ν := ν) (k := 68) (show ((0 : Nat) : Int) = 0 from rfl) (show ((0 : Nat) : Int) = 0 from rfl) (show ((2 : Nat) : Int) = 2 from rfl)) (by omega) (by omega) (by omega)) ?_
                            obtain ⟨v69, hv69, c9, lv69, uv69⟩ := sp_182 (ν := ν) hZ hb (a1 := (Z 68 0 0 2)) (by omega) (zbh (c := 0) (k := 0) hM (Nat.le_of_ble_eq_true rfl))
                            replace hP := zl_e hP hv69
                            refine wz_cI_of (zas (zcons rfl (zcons (zvi (zm_rd (Z := Z) (ν := ν) (k := 68) (show ((0 : Nat) : Int) = 0 from rfl) (show ((0 : Nat) : Int) = 0 from rfl) (show ((2 : Nat) : Int) = 2 from rfl))) rfl)) c9) ?_
                            clear c9
                            have r70 := zH_k hZ 43 hb (Z 68 0 0 2) 0 (lo := 0) (hi := 12) (by decide) rfl
                            refine wz_br (i3Le (i3S (zm_rd (Z := Z) (ν := ν) (k := 43) (rfl : ((hb : Nat) : Int) = hb) (i3I (y := (Z 68 0 0 2)) (zm_rd (Z := Z) (ν := ν) (k := 68) (show ((0 : Nat) : Int) = 0 from rfl) (show ((0 : Nat) : Int) = 0 from rfl) (show ((2 : Nat) : Int) = 2 from rfl)) (by omega) (by omega) (by omega)) (show ((0 : Nat) : Int) = 0 from rfl)) (rfl : i3 v69 = i3 v69)) (show (0 : Int32) = i3 0 from rfl) (by omega) (by omega) (by omega) (by omega)) (fun h71 => ?_) (fun h71 => ?_)
                            · replace hP := zE_p hP h71
                              exact zlR hP (show (3 : Int32) = i3 3 from rfl) ⟨by omega, by omega, by omega, by omega, by omega, by omega, by omega, by omega, by omega, by omega⟩
                            · replace hP := zE_n hP h71
                              exact zlR hP (show (0 : Int32) = i3 0 from rfl) ⟨by omega, by omega, by omega, by omega, by omega, by omega, by omega, by omega, by omega, by omega⟩
                          · replace hP := zE_n hP h68
                            refine wz_i0 (i3O (n := 6) (zm_rd (Z := Z) (ν := ν) (k := 68) (show ((0 : Nat) : Int) = 0 from rfl) (show ((0 : Nat) : Int) = 0 from rfl) (show ((2 : Nat) : Int) = 2 from rfl)) (by omega) (by omega) (by omega)) ?_
                            have r72 := zH_k hZ 43 hb (Z 68 0 0 2) 10 (lo := -1) (hi := 695) (by decide) rfl
                            have r73 := zH_k hZ 11 hb 0 13 (lo := 0) (hi := 671) (by decide) rfl
                            refine wz_br (i3Le (zm_rd (Z := Z) (ν := ν) (k := 43) (rfl : ((hb : Nat) : Int) = hb) (i3I (y := (Z 68 0 0 2)) (zm_rd (Z := Z) (ν := ν) (k := 68) (show ((0 : Nat) : Int) = 0 from rfl) (show ((0 : Nat) : Int) = 0 from rfl) (show ((2 : Nat) : Int) = 2 from rfl)) (by omega) (by omega) (by omega)) (show ((10 : Nat) : Int) = 10 from rfl)) (zm_rd (Z := Z) (ν := ν) (k := 11) (rfl : ((hb : Nat) : Int) = hb) (show ((0 : Nat) : Int) = 0 from rfl) (show ((13 : Nat) : Int) = 13 from rfl)) (by omega) (by omega) (by omega) (by omega)) (fun h74 => ?_) (fun h74 => ?_)
                            · replace hP := zE_p hP h74
                              refine wz_i1 (Eq.trans (i3NE (zm_rd (Z := Z) (ν := ν) (k := 68) (show ((0 : Nat) : Int) = 0 from rfl) (show ((0 : Nat) : Int) = 0 from rfl) (show ((2 : Nat) : Int) = 2 from rfl)) (show (6 : Int32) = i3 6 from rfl) (by omega) (by omega) (by omega) (by omega)) (decide_eq_true (by omega))) ?_
                              refine wz_i0 (i3O (n := 6) (zm_rd (Z := Z) (ν := ν) (k := 68) (show ((0 : Nat) : Int) = 0 from rfl) (show ((0 : Nat) : Int) = 0 from rfl) (show ((2 : Nat) : Int) = 2 from rfl)) (by omega) (by omega) (by omega)) ?_
                              obtain ⟨v75, hv75, c9, lv75, uv75⟩ := sp_182 (ν := ν) hZ hb (a1 := (Z 68 0 0 2)) (by omega) (zbh (c := 0) (k := 0) hM (Nat.le_of_ble_eq_true rfl))
                              replace hP := zl_e hP hv75
                              refine wz_cI_of (zas (zcons rfl (zcons (zvi (zm_rd (Z := Z) (ν := ν) (k := 68) (show ((0 : Nat) : Int) = 0 from rfl) (show ((0 : Nat) : Int) = 0 from rfl) (show ((2 : Nat) : Int) = 2 from rfl))) rfl)) c9) ?_
                              clear c9
                              have r76 := zH_k hZ 43 hb (Z 68 0 0 2) 0 (lo := 0) (hi := 12) (by decide) rfl
                              refine wz_br (i3Le (i3S (zm_rd (Z := Z) (ν := ν) (k := 43) (rfl : ((hb : Nat) : Int) = hb) (i3I (y := (Z 68 0 0 2)) (zm_rd (Z := Z) (ν := ν) (k := 68) (show ((0 : Nat) : Int) = 0 from rfl) (show ((0 : Nat) : Int) = 0 from rfl) (show ((2 : Nat) : Int) = 2 from rfl)) (by omega) (by omega) (by omega)) (show ((0 : Nat) : Int) = 0 from rfl)) (rfl : i3 v75 = i3 v75)) (show (0 : Int32) = i3 0 from rfl) (by omega) (by omega) (by omega) (by omega)) (fun h77 => ?_) (fun h77 => ?_)
                              · replace hP := zE_p hP h77
                                exact zlR hP (show (3 : Int32) = i3 3 from rfl) ⟨by omega, by omega, by omega, by omega, by omega, by omega, by omega, by omega, by omega, by omega⟩
                              · replace hP := zE_n hP h77
                                exact zlR hP (show (0 : Int32) = i3 0 from rfl) ⟨by omega, by omega, by omega, by omega, by omega, by omega, by omega, by omega, by omega, by omega⟩
                            · replace hP := zE_n hP h74
                              exact zlR hP (show (3 : Int32) = i3 3 from rfl) ⟨by omega, by omega, by omega, by omega, by omega, by omega, by omega, by omega, by omega, by omega⟩
                        · replace hP := zE_n hP h67
                          refine wz_i0 (i3O (n := 6) (zm_rd (Z := Z) (ν := ν) (k := 44) (rfl : ((hb : Nat) : Int) = hb) (i3I (y := (Z 68 0 0 1)) (zm_rd (Z := Z) (ν := ν) (k := 68) (show ((0 : Nat) : Int) = 0 from rfl) (show ((0 : Nat) : Int) = 0 from rfl) (show ((1 : Nat) : Int) = 1 from rfl)) (by omega) (by omega) (by omega)) (show ((12 : Nat) : Int) = 12 from rfl)) (by omega) (by omega) (by omega)) ?_
                          have r78 := zH_k hZ 43 hb (Z 44 hb (Z 68 0 0 1) 12) 10 (lo := -1) (hi := 695) (by decide) rfl
                          have r79 := zH_k hZ 11 hb 0 13 (lo := 0) (hi := 671) (by decide) rfl
                          refine wz_br (i3Le (zm_rd (Z := Z) (ν := ν) (k := 43) (rfl : ((hb : Nat) : Int) = hb) (i3I (y := (Z 44 hb (Z 68 0 0 1) 12)) (zm_rd (Z := Z) (ν := ν) (k := 44) (rfl : ((hb : Nat) : Int) = hb) (i3I (y := (Z 68 0 0 1)) (zm_rd (Z := Z) (ν := ν) (k := 68) (show ((0 : Nat) : Int) = 0 from rfl) (show ((0 : Nat) : Int) = 0 from rfl) (show ((1 : Nat) : Int) = 1 from rfl)) (by omega) (by omega) (by omega)) (show ((12 : Nat) : Int) = 12 from rfl)) (by omega) (by omega) (by omega)) (show ((10 : Nat) : Int) = 10 from rfl)) (zm_rd (Z := Z) (ν := ν) (k := 11) (rfl : ((hb : Nat) : Int) = hb) (show ((0 : Nat) : Int) = 0 from rfl) (show ((13 : Nat) : Int) = 13 from rfl)) (by omega) (by omega) (by omega) (by omega)) (fun h80 => ?_) (fun h80 => ?_)
                          · replace hP := zE_p hP h80
                            refine wz_i0 (Eq.trans (i3L (zm_rd (Z := Z) (ν := ν) (k := 68) (show ((0 : Nat) : Int) = 0 from rfl) (show ((0 : Nat) : Int) = 0 from rfl) (show ((2 : Nat) : Int) = 2 from rfl)) (show (0 : Int32) = i3 0 from rfl) (by omega) (by omega) (by omega) (by omega)) (decide_eq_false (by omega))) ?_
                            refine wz_br (i3Le (zm_rd (Z := Z) (ν := ν) (k := 11) (rfl : ((hb : Nat) : Int) = hb) (show ((0 : Nat) : Int) = 0 from rfl) (show ((2 : Nat) : Int) = 2 from rfl)) (zm_rd (Z := Z) (ν := ν) (k := 68) (show ((0 : Nat) : Int) = 0 from rfl) (show ((0 : Nat) : Int) = 0 from rfl) (show ((2 : Nat) : Int) = 2 from rfl)) (by omega) (by omega) (by omega) (by omega)) (fun h81 => ?_) (fun h81 => ?_)
                            · replace hP := zE_p hP h81
                              refine wz_i1 (Eq.trans (i3NE (zm_rd (Z := Z) (ν := ν) (k := 68) (show ((0 : Nat) : Int) = 0 from rfl) (show ((0 : Nat) : Int) = 0 from rfl) (show ((2 : Nat) : Int) = 2 from rfl)) (show (6 : Int32) = i3 6 from rfl) (by omega) (by omega) (by omega) (by omega)) (decide_eq_true (by omega))) ?_
                              refine wz_i0 (i3O (n := 6) (zm_rd (Z := Z) (ν := ν) (k := 68) (show ((0 : Nat) : Int) = 0 from rfl) (show ((0 : Nat) : Int) = 0 from rfl) (show ((2 : Nat) : Int) = 2 from rfl)) (by omega) (by omega) (by omega)) ?_
                              obtain ⟨v82, hv82, c9, lv82, uv82⟩ := sp_182 (ν := ν) hZ hb (a1 := (Z 68 0 0 2)) (by omega) (zbh (c := 0) (k := 0) hM (Nat.le_of_ble_eq_true rfl))
                              replace hP := zl_e hP hv82
                              refine wz_cI_of (zas (zcons rfl (zcons (zvi (zm_rd (Z := Z) (ν := ν) (k := 68) (show ((0 : Nat) : Int) = 0 from rfl) (show ((0 : Nat) : Int) = 0 from rfl) (show ((2 : Nat) : Int) = 2 from rfl))) rfl)) c9) ?_
                              clear c9
                              have r83 := zH_k hZ 43 hb (Z 68 0 0 2) 0 (lo := 0) (hi := 12) (by decide) rfl
                              refine wz_br (i3Le (i3S (zm_rd (Z := Z) (ν := ν) (k := 43) (rfl : ((hb : Nat) : Int) = hb) (i3I (y := (Z 68 0 0 2)) (zm_rd (Z := Z) (ν := ν) (k := 68) (show ((0 : Nat) : Int) = 0 from rfl) (show ((0 : Nat) : Int) = 0 from rfl) (show ((2 : Nat) : Int) = 2 from rfl)) (by omega) (by omega) (by omega)) (show ((0 : Nat) : Int) = 0 from rfl)) (rfl : i3 v82 = i3 v82)) (show (0 : Int32) = i3 0 from rfl) (by omega) (by omega) (by omega) (by omega)) (fun h84 => ?_) (fun h84 => ?_)
                              · replace hP := zE_p hP h84
                                exact zlR hP (show (3 : Int32) = i3 3 from rfl) ⟨by omega, by omega, by omega, by omega, by omega, by omega, by omega, by omega, by omega, by omega⟩
                              · replace hP := zE_n hP h84
                                exact zlR hP (show (0 : Int32) = i3 0 from rfl) ⟨by omega, by omega, by omega, by omega, by omega, by omega, by omega, by omega, by omega, by omega⟩
                            · replace hP := zE_n hP h81
                              refine wz_i0 (i3O (n := 6) (zm_rd (Z := Z) (ν := ν) (k := 68) (show ((0 : Nat) : Int) = 0 from rfl) (show ((0 : Nat) : Int) = 0 from rfl) (show ((2 : Nat) : Int) = 2 from rfl)) (by omega) (by omega) (by omega)) ?_
                              have r85 := zH_k hZ 43 hb (Z 68 0 0 2) 10 (lo := -1) (hi := 695) (by decide) rfl
                              refine wz_br (i3Le (zm_rd (Z := Z) (ν := ν) (k := 43) (rfl : ((hb : Nat) : Int) = hb) (i3I (y := (Z 68 0 0 2)) (zm_rd (Z := Z) (ν := ν) (k := 68) (show ((0 : Nat) : Int) = 0 from rfl) (show ((0 : Nat) : Int) = 0 from rfl) (show ((2 : Nat) : Int) = 2 from rfl)) (by omega) (by omega) (by omega)) (show ((10 : Nat) : Int) = 10 from rfl)) (zm_rd (Z := Z) (ν := ν) (k := 11) (rfl : ((hb : Nat) : Int) = hb) (show ((0 : Nat) : Int) = 0 from rfl) (show ((13 : Nat) : Int) = 13 from rfl)) (by omega) (by omega) (by omega) (by omega)) (fun h86 => ?_) (fun h86 => ?_)
                              · replace hP := zE_p hP h86
                                refine wz_i1 (Eq.trans (i3NE (zm_rd (Z := Z) (ν := ν) (k := 68) (show ((0 : Nat) : Int) = 0 from rfl) (show ((0 : Nat) : Int) = 0 from rfl) (show ((2 : Nat) : Int) = 2 from rfl)) (show (6 : Int32) = i3 6 from rfl) (by omega) (by omega) (by omega) (by omega)) (decide_eq_true (by omega))) ?_
                                refine wz_i0 (i3O (n := 6) (zm_rd (Z := Z) (ν := ν) (k := 68) (show ((0 : Nat) : Int) = 0 from rfl) (show ((0 : Nat) : Int) = 0 from rfl) (show ((2 : Nat) : Int) = 2 from rfl)) (by omega) (by omega) (by omega)) ?_
                                obtain ⟨v87, hv87, c9, lv87, uv87⟩ := sp_182 (ν := ν) hZ hb (a1 := (Z 68 0 0 2)) (by omega) (zbh (c := 0) (k := 0) hM (Nat.le_of_ble_eq_true rfl))
                                replace hP := zl_e hP hv87
                                refine wz_cI_of (zas (zcons rfl (zcons (zvi (zm_rd (Z := Z) (ν := ν) (k := 68) (show ((0 : Nat) : Int) = 0 from rfl) (show ((0 : Nat) : Int) = 0 from rfl) (show ((2 : Nat) : Int) = 2 from rfl))) rfl)) c9) ?_
                                clear c9
                                have r88 := zH_k hZ 43 hb (Z 68 0 0 2) 0 (lo := 0) (hi := 12) (by decide) rfl
                                refine wz_br (i3Le (i3S (zm_rd (Z := Z) (ν := ν) (k := 43) (rfl : ((hb : Nat) : Int) = hb) (i3I (y := (Z 68 0 0 2)) (zm_rd (Z := Z) (ν := ν) (k := 68) (show ((0 : Nat) : Int) = 0 from rfl) (show ((0 : Nat) : Int) = 0 from rfl) (show ((2 : Nat) : Int) = 2 from rfl)) (by omega) (by omega) (by omega)) (show ((0 : Nat) : Int) = 0 from rfl)) (rfl : i3 v87 = i3 v87)) (show (0 : Int32) = i3 0 from rfl) (by omega) (by omega) (by omega) (by omega)) (fun h89 => ?_) (fun h89 => ?_)
                                · replace hP := zE_p hP h89
                                  exact zlR hP (show (3 : Int32) = i3 3 from rfl) ⟨by omega, by omega, by omega, by omega, by omega, by omega, by omega, by omega, by omega, by omega⟩
                                · replace hP := zE_n hP h89
                                  exact zlR hP (show (0 : Int32) = i3 0 from rfl) ⟨by omega, by omega, by omega, by omega, by omega, by omega, by omega, by omega, by omega, by omega⟩
                              · replace hP := zE_n hP h86
                                exact zlR hP (show (3 : Int32) = i3 3 from rfl) ⟨by omega, by omega, by omega, by omega, by omega, by omega, by omega, by omega, by omega, by omega⟩
                          · replace hP := zE_n hP h80
                            exact zlR hP (show (3 : Int32) = i3 3 from rfl) ⟨by omega, by omega, by omega, by omega, by omega, by omega, by omega, by omega, by omega, by omega⟩
              · replace hP := zE_n hP h14
                have r90 := zH_k hZ 44 hb (Z 68 0 0 1) 10 (lo := 0) (hi := 4) (by decide) rfl
                refine wz_br (i3E (zm_rd (Z := Z) (ν := ν) (k := 44) (rfl : ((hb : Nat) : Int) = hb) (i3I (y := (Z 68 0 0 1)) (zm_rd (Z := Z) (ν := ν) (k := 68) (show ((0 : Nat) : Int) = 0 from rfl) (show ((0 : Nat) : Int) = 0 from rfl) (show ((1 : Nat) : Int) = 1 from rfl)) (by omega) (by omega) (by omega)) (show ((10 : Nat) : Int) = 10 from rfl)) (show (0 : Int32) = i3 0 from rfl) (by omega) (by omega) (by omega) (by omega)) (fun h91 => ?_) (fun h91 => ?_)
                · replace hP := zE_p hP h91
                  have r92 := zH_k hZ 44 hb (Z 68 0 0 1) 12 (lo := -1) (hi := 6) (by decide) rfl
                  refine wz_br (i3E (zm_rd (Z := Z) (ν := ν) (k := 44) (rfl : ((hb : Nat) : Int) = hb) (i3I (y := (Z 68 0 0 1)) (zm_rd (Z := Z) (ν := ν) (k := 68) (show ((0 : Nat) : Int) = 0 from rfl) (show ((0 : Nat) : Int) = 0 from rfl) (show ((1 : Nat) : Int) = 1 from rfl)) (by omega) (by omega) (by omega)) (show ((12 : Nat) : Int) = 12 from rfl)) (show (6 : Int32) = i3 6 from rfl) (by omega) (by omega) (by omega) (by omega)) (fun h93 => ?_) (fun h93 => ?_)
                  · replace hP := zE_p hP h93
                    exact zlR hP (show (3 : Int32) = i3 3 from rfl) ⟨by omega, by omega, by omega, by omega, by omega, by omega, by omega, by omega, by omega, by omega⟩
                  · replace hP := zE_n hP h93
                    refine wz_br (i3L (zm_rd (Z := Z) (ν := ν) (k := 44) (rfl : ((hb : Nat) : Int) = hb) (i3I (y := (Z 68 0 0 1)) (zm_rd (Z := Z) (ν := ν) (k := 68) (show ((0 : Nat) : Int) = 0 from rfl) (show ((0 : Nat) : Int) = 0 from rfl) (show ((1 : Nat) : Int) = 1 from rfl)) (by omega) (by omega) (by omega)) (show ((12 : Nat) : Int) = 12 from rfl)) (show (0 : Int32) = i3 0 from rfl) (by omega) (by omega) (by omega) (by omega)) (fun h94 => ?_) (fun h94 => ?_)
                    · replace hP := zE_p hP h94
                      refine wz_i1 (Eq.trans (i3Le (zm_rd (Z := Z) (ν := ν) (k := 11) (rfl : ((hb : Nat) : Int) = hb) (show ((0 : Nat) : Int) = 0 from rfl) (show ((2 : Nat) : Int) = 2 from rfl)) (show (6 : Int32) = i3 6 from rfl) (by omega) (by omega) (by omega) (by omega)) (decide_eq_true (by omega))) ?_
                      obtain ⟨v95, hv95, c9, lv95, uv95⟩ := sp_182 (ν := ν) hZ hb (a1 := 6) (by omega) (zbh (c := 0) (k := 0) hM (Nat.le_of_ble_eq_true rfl))
                      replace hP := zl_e hP hv95
                      refine wz_cI_of (zas (zcons rfl (zcons (zvi (show (6 : Int32) = i3 6 from rfl)) rfl)) c9) ?_
                      clear c9
                      refine wz_br (i3Le (i3S (show (12 : Int32) = i3 12 from rfl) (rfl : i3 v95 = i3 v95)) (show (0 : Int32) = i3 0 from rfl) (by omega) (by omega) (by omega) (by omega)) (fun h96 => ?_) (fun h96 => ?_)
                      · replace hP := zE_p hP h96
                        exact zlR hP (show (3 : Int32) = i3 3 from rfl) ⟨by omega, by omega, by omega, by omega, by omega, by omega, by omega, by omega, by omega, by omega⟩
                      · replace hP := zE_n hP h96
                        exact zlR hP (show (0 : Int32) = i3 0 from rfl) ⟨by omega, by omega, by omega, by omega, by omega, by omega, by omega, by omega, by omega, by omega⟩
                    · replace hP := zE_n hP h94
                      refine wz_br (i3Le (zm_rd (Z := Z) (ν := ν) (k := 11) (rfl : ((hb : Nat) : Int) = hb) (show ((0 : Nat) : Int) = 0 from rfl) (show ((2 : Nat) : Int) = 2 from rfl)) (zm_rd (Z := Z) (ν := ν) (k := 44) (rfl : ((hb : Nat) : Int) = hb) (i3I (y := (Z 68 0 0 1)) (zm_rd (Z := Z) (ν := ν) (k := 68) (show ((0 : Nat) : Int) = 0 from rfl) (show ((0 : Nat) : Int) = 0 from rfl) (show ((1 : Nat) : Int) = 1 from rfl)) (by omega) (by omega) (by omega)) (show ((12 : Nat) : Int) = 12 from rfl)) (by omega) (by omega) (by omega) (by omega)) (fun h97 => ?_) (fun h97 => ?_)
                      · replace hP := zE_p hP h97
                        refine wz_i1 (Eq.trans (i3Le (zm_rd (Z := Z) (ν := ν) (k := 11) (rfl : ((hb : Nat) : Int) = hb) (show ((0 : Nat) : Int) = 0 from rfl) (show ((2 : Nat) : Int) = 2 from rfl)) (show (6 : Int32) = i3 6 from rfl) (by omega) (by omega) (by omega) (by omega)) (decide_eq_true (by omega))) ?_
                        obtain ⟨v98, hv98, c9, lv98, uv98⟩ := sp_182 (ν := ν) hZ hb (a1 := 6) (by omega) (zbh (c := 0) (k := 0) hM (Nat.le_of_ble_eq_true rfl))
                        replace hP := zl_e hP hv98
                        refine wz_cI_of (zas (zcons rfl (zcons (zvi (show (6 : Int32) = i3 6 from rfl)) rfl)) c9) ?_
                        clear c9
                        refine wz_br (i3Le (i3S (show (12 : Int32) = i3 12 from rfl) (rfl : i3 v98 = i3 v98)) (show (0 : Int32) = i3 0 from rfl) (by omega) (by omega) (by omega) (by omega)) (fun h99 => ?_) (fun h99 => ?_)
                        · replace hP := zE_p hP h99
                          exact zlR hP (show (3 : Int32) = i3 3 from rfl) ⟨by omega, by omega, by omega, by omega, by omega, by omega, by omega, by omega, by omega, by omega⟩
                        · replace hP := zE_n hP h99
                          exact zlR hP (show (0 : Int32) = i3 0 from rfl) ⟨by omega, by omega, by omega, by omega, by omega, by omega, by omega, by omega, by omega, by omega⟩
                      · replace hP := zE_n hP h97
                        refine wz_i0 (i3O (n := 6) (zm_rd (Z := Z) (ν := ν) (k := 44) (rfl : ((hb : Nat) : Int) = hb) (i3I (y := (Z 68 0 0 1)) (zm_rd (Z := Z) (ν := ν) (k := 68) (show ((0 : Nat) : Int) = 0 from rfl) (show ((0 : Nat) : Int) = 0 from rfl) (show ((1 : Nat) : Int) = 1 from rfl)) (by omega) (by omega) (by omega)) (show ((12 : Nat) : Int) = 12 from rfl)) (by omega) (by omega) (by omega)) ?_
                        have r100 := zH_k hZ 43 hb (Z 44 hb (Z 68 0 0 1) 12) 10 (lo := -1) (hi := 695) (by decide) rfl
                        have r101 := zH_k hZ 11 hb 0 13 (lo := 0) (hi := 671) (by decide) rfl
                        refine wz_br (i3Le (zm_rd (Z := Z) (ν := ν) (k := 43) (rfl : ((hb : Nat) : Int) = hb) (i3I (y := (Z 44 hb (Z 68 0 0 1) 12)) (zm_rd (Z := Z) (ν := ν) (k := 44) (rfl : ((hb : Nat) : Int) = hb) (i3I (y := (Z 68 0 0 1)) (zm_rd (Z := Z) (ν := ν) (k := 68) (show ((0 : Nat) : Int) = 0 from rfl) (show ((0 : Nat) : Int) = 0 from rfl) (show ((1 : Nat) : Int) = 1 from rfl)) (by omega) (by omega) (by omega)) (show ((12 : Nat) : Int) = 12 from rfl)) (by omega) (by omega) (by omega)) (show ((10 : Nat) : Int) = 10 from rfl)) (zm_rd (Z := Z) (ν := ν) (k := 11) (rfl : ((hb : Nat) : Int) = hb) (show ((0 : Nat) : Int) = 0 from rfl) (show ((13 : Nat) : Int) = 13 from rfl)) (by omega) (by omega) (by omega) (by omega)) (fun h102 => ?_) (fun h102 => ?_)
                        · replace hP := zE_p hP h102
                          refine wz_i1 (Eq.trans (i3Le (zm_rd (Z := Z) (ν := ν) (k := 11) (rfl : ((hb : Nat) : Int) = hb) (show ((0 : Nat) : Int) = 0 from rfl) (show ((2 : Nat) : Int) = 2 from rfl)) (show (6 : Int32) = i3 6 from rfl) (by omega) (by omega) (by omega) (by omega)) (decide_eq_true (by omega))) ?_
                          obtain ⟨v103, hv103, c9, lv103, uv103⟩ := sp_182 (ν := ν) hZ hb (a1 := 6) (by omega) (zbh (c := 0) (k := 0) hM (Nat.le_of_ble_eq_true rfl))
                          replace hP := zl_e hP hv103
                          refine wz_cI_of (zas (zcons rfl (zcons (zvi (show (6 : Int32) = i3 6 from rfl)) rfl)) c9) ?_
                          clear c9
                          refine wz_br (i3Le (i3S (show (12 : Int32) = i3 12 from rfl) (rfl : i3 v103 = i3 v103)) (show (0 : Int32) = i3 0 from rfl) (by omega) (by omega) (by omega) (by omega)) (fun h104 => ?_) (fun h104 => ?_)
                          · replace hP := zE_p hP h104
                            exact zlR hP (show (3 : Int32) = i3 3 from rfl) ⟨by omega, by omega, by omega, by omega, by omega, by omega, by omega, by omega, by omega, by omega⟩
                          · replace hP := zE_n hP h104
                            exact zlR hP (show (0 : Int32) = i3 0 from rfl) ⟨by omega, by omega, by omega, by omega, by omega, by omega, by omega, by omega, by omega, by omega⟩
                        · replace hP := zE_n hP h102
                          exact zlR hP (show (3 : Int32) = i3 3 from rfl) ⟨by omega, by omega, by omega, by omega, by omega, by omega, by omega, by omega, by omega, by omega⟩
                · replace hP := zE_n hP h91
                  refine wz_br (i3NE (zm_rd (Z := Z) (ν := ν) (k := 44) (rfl : ((hb : Nat) : Int) = hb) (i3I (y := (Z 68 0 0 1)) (zm_rd (Z := Z) (ν := ν) (k := 68) (show ((0 : Nat) : Int) = 0 from rfl) (show ((0 : Nat) : Int) = 0 from rfl) (show ((1 : Nat) : Int) = 1 from rfl)) (by omega) (by omega) (by omega)) (show ((10 : Nat) : Int) = 10 from rfl)) (show (1 : Int32) = i3 1 from rfl) (by omega) (by omega) (by omega) (by omega)) (fun h105 => ?_) (fun h105 => ?_)
                  · replace hP := zE_p hP h105
                    exact zlR hP (show (3 : Int32) = i3 3 from rfl) ⟨by omega, by omega, by omega, by omega, by omega, by omega, by omega, by omega, by omega, by omega⟩
                  · replace hP := zE_n hP h105
                    have r106 := zH_k hZ 44 hb (Z 68 0 0 1) 12 (lo := -1) (hi := 6) (by decide) rfl
                    refine wz_br (i3E (zm_rd (Z := Z) (ν := ν) (k := 44) (rfl : ((hb : Nat) : Int) = hb) (i3I (y := (Z 68 0 0 1)) (zm_rd (Z := Z) (ν := ν) (k := 68) (show ((0 : Nat) : Int) = 0 from rfl) (show ((0 : Nat) : Int) = 0 from rfl) (show ((1 : Nat) : Int) = 1 from rfl)) (by omega) (by omega) (by omega)) (show ((12 : Nat) : Int) = 12 from rfl)) (show (6 : Int32) = i3 6 from rfl) (by omega) (by omega) (by omega) (by omega)) (fun h107 => ?_) (fun h107 => ?_)
                    · replace hP := zE_p hP h107
                      exact zlR hP (show (3 : Int32) = i3 3 from rfl) ⟨by omega, by omega, by omega, by omega, by omega, by omega, by omega, by omega, by omega, by omega⟩
                    · replace hP := zE_n hP h107
                      refine wz_br (i3L (zm_rd (Z := Z) (ν := ν) (k := 44) (rfl : ((hb : Nat) : Int) = hb) (i3I (y := (Z 68 0 0 1)) (zm_rd (Z := Z) (ν := ν) (k := 68) (show ((0 : Nat) : Int) = 0 from rfl) (show ((0 : Nat) : Int) = 0 from rfl) (show ((1 : Nat) : Int) = 1 from rfl)) (by omega) (by omega) (by omega)) (show ((12 : Nat) : Int) = 12 from rfl)) (show (0 : Int32) = i3 0 from rfl) (by omega) (by omega) (by omega) (by omega)) (fun h108 => ?_) (fun h108 => ?_)
                      · replace hP := zE_p hP h108
                        refine wz_i1 (Eq.trans (i3Le (zm_rd (Z := Z) (ν := ν) (k := 11) (rfl : ((hb : Nat) : Int) = hb) (show ((0 : Nat) : Int) = 0 from rfl) (show ((2 : Nat) : Int) = 2 from rfl)) (show (6 : Int32) = i3 6 from rfl) (by omega) (by omega) (by omega) (by omega)) (decide_eq_true (by omega))) ?_
                        obtain ⟨v109, hv109, c9, lv109, uv109⟩ := sp_182 (ν := ν) hZ hb (a1 := 6) (by omega) (zbh (c := 0) (k := 0) hM (Nat.le_of_ble_eq_true rfl))
                        replace hP := zl_e hP hv109
                        refine wz_cI_of (zas (zcons rfl (zcons (zvi (show (6 : Int32) = i3 6 from rfl)) rfl)) c9) ?_
                        clear c9
                        refine wz_br (i3Le (i3S (show (12 : Int32) = i3 12 from rfl) (rfl : i3 v109 = i3 v109)) (show (0 : Int32) = i3 0 from rfl) (by omega) (by omega) (by omega) (by omega)) (fun h110 => ?_) (fun h110 => ?_)
                        · replace hP := zE_p hP h110
                          exact zlR hP (show (3 : Int32) = i3 3 from rfl) ⟨by omega, by omega, by omega, by omega, by omega, by omega, by omega, by omega, by omega, by omega⟩
                        · replace hP := zE_n hP h110
                          exact zlR hP (show (0 : Int32) = i3 0 from rfl) ⟨by omega, by omega, by omega, by omega, by omega, by omega, by omega, by omega, by omega, by omega⟩
                      · replace hP := zE_n hP h108
                        refine wz_br (i3Le (zm_rd (Z := Z) (ν := ν) (k := 11) (rfl : ((hb : Nat) : Int) = hb) (show ((0 : Nat) : Int) = 0 from rfl) (show ((2 : Nat) : Int) = 2 from rfl)) (zm_rd (Z := Z) (ν := ν) (k := 44) (rfl : ((hb : Nat) : Int) = hb) (i3I (y := (Z 68 0 0 1)) (zm_rd (Z := Z) (ν := ν) (k := 68) (show ((0 : Nat) : Int) = 0 from rfl) (show ((0 : Nat) : Int) = 0 from rfl) (show ((1 : Nat) : Int) = 1 from rfl)) (by omega) (by omega) (by omega)) (show ((12 : Nat) : Int) = 12 from rfl)) (by omega) (by omega) (by omega) (by omega)) (fun h111 => ?_) (fun h111 => ?_)
                        · replace hP := zE_p hP h111
                          refine wz_i1 (Eq.trans (i3Le (zm_rd (Z := Z) (ν := ν) (k := 11) (rfl : ((hb : Nat) : Int) = hb) (show ((0 : Nat) : Int) = 0 from rfl) (show ((2 : Nat) : Int) = 2 from rfl)) (show (6 : Int32) = i3 6 from rfl) (by omega) (by omega) (by omega) (by omega)) (decide_eq_true (by omega))) ?_
                          obtain ⟨v112, hv112, c9, lv112, uv112⟩ := sp_182 (ν := ν) hZ hb (a1 := 6) (by omega) (zbh (c := 0) (k := 0) hM (Nat.le_of_ble_eq_true rfl))
                          replace hP := zl_e hP hv112
                          refine wz_cI_of (zas (zcons rfl (zcons (zvi (show (6 : Int32) = i3 6 from rfl)) rfl)) c9) ?_
                          clear c9
                          refine wz_br (i3Le (i3S (show (12 : Int32) = i3 12 from rfl) (rfl : i3 v112 = i3 v112)) (show (0 : Int32) = i3 0 from rfl) (by omega) (by omega) (by omega) (by omega)) (fun h113 => ?_) (fun h113 => ?_)
                          · replace hP := zE_p hP h113
                            exact zlR hP (show (3 : Int32) = i3 3 from rfl) ⟨by omega, by omega, by omega, by omega, by omega, by omega, by omega, by omega, by omega, by omega⟩
                          · replace hP := zE_n hP h113
                            exact zlR hP (show (0 : Int32) = i3 0 from rfl) ⟨by omega, by omega, by omega, by omega, by omega, by omega, by omega, by omega, by omega, by omega⟩
                        · replace hP := zE_n hP h111
                          refine wz_i0 (i3O (n := 6) (zm_rd (Z := Z) (ν := ν) (k := 44) (rfl : ((hb : Nat) : Int) = hb) (i3I (y := (Z 68 0 0 1)) (zm_rd (Z := Z) (ν := ν) (k := 68) (show ((0 : Nat) : Int) = 0 from rfl) (show ((0 : Nat) : Int) = 0 from rfl) (show ((1 : Nat) : Int) = 1 from rfl)) (by omega) (by omega) (by omega)) (show ((12 : Nat) : Int) = 12 from rfl)) (by omega) (by omega) (by omega)) ?_
                          have r114 := zH_k hZ 43 hb (Z 44 hb (Z 68 0 0 1) 12) 10 (lo := -1) (hi := 695) (by decide) rfl
                          have r115 := zH_k hZ 11 hb 0 13 (lo := 0) (hi := 671) (by decide) rfl
                          refine wz_br (i3Le (zm_rd (Z := Z) (ν := ν) (k := 43) (rfl : ((hb : Nat) : Int) = hb) (i3I (y := (Z 44 hb (Z 68 0 0 1) 12)) (zm_rd (Z := Z) (ν := ν) (k := 44) (rfl : ((hb : Nat) : Int) = hb) (i3I (y := (Z 68 0 0 1)) (zm_rd (Z := Z) (ν := ν) (k := 68) (show ((0 : Nat) : Int) = 0 from rfl) (show ((0 : Nat) : Int) = 0 from rfl) (show ((1 : Nat) : Int) = 1 from rfl)) (by omega) (by omega) (by omega)) (show ((12 : Nat) : Int) = 12 from rfl)) (by omega) (by omega) (by omega)) (show ((10 : Nat) : Int) = 10 from rfl)) (zm_rd (Z := Z) (ν := ν) (k := 11) (rfl : ((hb : Nat) : Int) = hb) (show ((0 : Nat) : Int) = 0 from rfl) (show ((13 : Nat) : Int) = 13 from rfl)) (by omega) (by omega) (by omega) (by omega)) (fun h116 => ?_) (fun h116 => ?_)
                          · replace hP := zE_p hP h116
                            refine wz_i1 (Eq.trans (i3Le (zm_rd (Z := Z) (ν := ν) (k := 11) (rfl : ((hb : Nat) : Int) = hb) (show ((0 : Nat) : Int) = 0 from rfl) (show ((2 : Nat) : Int) = 2 from rfl)) (show (6 : Int32) = i3 6 from rfl) (by omega) (by omega) (by omega) (by omega)) (decide_eq_true (by omega))) ?_
                            obtain ⟨v117, hv117, c9, lv117, uv117⟩ := sp_182 (ν := ν) hZ hb (a1 := 6) (by omega) (zbh (c := 0) (k := 0) hM (Nat.le_of_ble_eq_true rfl))
                            replace hP := zl_e hP hv117
                            refine wz_cI_of (zas (zcons rfl (zcons (zvi (show (6 : Int32) = i3 6 from rfl)) rfl)) c9) ?_
                            clear c9
                            refine wz_br (i3Le (i3S (show (12 : Int32) = i3 12 from rfl) (rfl : i3 v117 = i3 v117)) (show (0 : Int32) = i3 0 from rfl) (by omega) (by omega) (by omega) (by omega)) (fun h118 => ?_) (fun h118 => ?_)
                            · replace hP := zE_p hP h118
                              exact zlR hP (show (3 : Int32) = i3 3 from rfl) ⟨by omega, by omega, by omega, by omega, by omega, by omega, by omega, by omega, by omega, by omega⟩
                            · replace hP := zE_n hP h118
                              exact zlR hP (show (0 : Int32) = i3 0 from rfl) ⟨by omega, by omega, by omega, by omega, by omega, by omega, by omega, by omega, by omega, by omega⟩
                          · replace hP := zE_n hP h116
                            exact zlR hP (show (3 : Int32) = i3 3 from rfl) ⟨by omega, by omega, by omega, by omega, by omega, by omega, by omega, by omega, by omega, by omega⟩
            · replace hP := zE_n hP h13
              exact zlR hP (show (1 : Int32) = i3 1 from rfl) ⟨by omega, by omega, by omega, by omega, by omega, by omega, by omega, by omega, by omega, by omega⟩
    · replace hP := zE_n hP h7
      refine wz_br (i3T (zm_rd (Z := Z) (ν := ν) (k := 68) (show ((0 : Nat) : Int) = 0 from rfl) (show ((0 : Nat) : Int) = 0 from rfl) (show ((0 : Nat) : Int) = 0 from rfl)) (by omega) (by omega)) (fun h119 => ?_) (fun h119 => ?_)
      · replace hP := zE_p hP h119
        refine fw_165 _ _ _ _ ?_
        refine wz_br (i3L (zm_rd (Z := Z) (ν := ν) (k := 68) (show ((0 : Nat) : Int) = 0 from rfl) (show ((0 : Nat) : Int) = 0 from rfl) (show ((1 : Nat) : Int) = 1 from rfl)) (show (0 : Int32) = i3 0 from rfl) (by omega) (by omega) (by omega) (by omega)) (fun h120 => ?_) (fun h120 => ?_)
        · replace hP := zE_p hP h120
          exact zlR hP (show (1 : Int32) = i3 1 from rfl) ⟨by omega, by omega, by omega, by omega, by omega, by omega, by omega, by omega, by omega, by omega⟩
        · replace hP := zE_n hP h120
          have r121 := zH_k hZ 11 hb 0 3 (lo := 0) (hi := 48) (by decide) rfl
          refine wz_br (i3L (zm_rd (Z := Z) (ν := ν) (k := 68) (show ((0 : Nat) : Int) = 0 from rfl) (show ((0 : Nat) : Int) = 0 from rfl) (show ((1 : Nat) : Int) = 1 from rfl)) (zm_rd (Z := Z) (ν := ν) (k := 11) (rfl : ((hb : Nat) : Int) = hb) (show ((0 : Nat) : Int) = 0 from rfl) (show ((3 : Nat) : Int) = 3 from rfl)) (by omega) (by omega) (by omega) (by omega)) (fun h122 => ?_) (fun h122 => ?_)
          · replace hP := zE_p hP h122
            refine wz_i0 (i3O (n := 48) (zm_rd (Z := Z) (ν := ν) (k := 68) (show ((0 : Nat) : Int) = 0 from rfl) (show ((0 : Nat) : Int) = 0 from rfl) (show ((1 : Nat) : Int) = 1 from rfl)) (by omega) (by omega) (by omega)) ?_
            have r123 := zH_k hZ 44 hb (Z 68 0 0 1) 10 (lo := 0) (hi := 4) (by decide) rfl
            refine wz_br (i3E (zm_rd (Z := Z) (ν := ν) (k := 44) (rfl : ((hb : Nat) : Int) = hb) (i3I (y := (Z 68 0 0 1)) (zm_rd (Z := Z) (ν := ν) (k := 68) (show ((0 : Nat) : Int) = 0 from rfl) (show ((0 : Nat) : Int) = 0 from rfl) (show ((1 : Nat) : Int) = 1 from rfl)) (by omega) (by omega) (by omega)) (show ((10 : Nat) : Int) = 10 from rfl)) (show (0 : Int32) = i3 0 from rfl) (by omega) (by omega) (by omega) (by omega)) (fun h124 => ?_) (fun h124 => ?_)
            · replace hP := zE_p hP h124
              exact zlR hP (show (0 : Int32) = i3 0 from rfl) ⟨by omega, by omega, by omega, by omega, by omega, by omega, by omega, by omega, by omega, by omega⟩
            · replace hP := zE_n hP h124
              refine wz_br (i3NE (zm_rd (Z := Z) (ν := ν) (k := 44) (rfl : ((hb : Nat) : Int) = hb) (i3I (y := (Z 68 0 0 1)) (zm_rd (Z := Z) (ν := ν) (k := 68) (show ((0 : Nat) : Int) = 0 from rfl) (show ((0 : Nat) : Int) = 0 from rfl) (show ((1 : Nat) : Int) = 1 from rfl)) (by omega) (by omega) (by omega)) (show ((10 : Nat) : Int) = 10 from rfl)) (show (1 : Int32) = i3 1 from rfl) (by omega) (by omega) (by omega) (by omega)) (fun h125 => ?_) (fun h125 => ?_)
              · replace hP := zE_p hP h125
                exact zlR hP (show (3 : Int32) = i3 3 from rfl) ⟨by omega, by omega, by omega, by omega, by omega, by omega, by omega, by omega, by omega, by omega⟩
              · replace hP := zE_n hP h125
                exact zlR hP (show (0 : Int32) = i3 0 from rfl) ⟨by omega, by omega, by omega, by omega, by omega, by omega, by omega, by omega, by omega, by omega⟩
          · replace hP := zE_n hP h122
            exact zlR hP (show (1 : Int32) = i3 1 from rfl) ⟨by omega, by omega, by omega, by omega, by omega, by omega, by omega, by omega, by omega, by omega⟩
      · replace hP := zE_n hP h119
        refine wz_br (i3T (zm_rd (Z := Z) (ν := ν) (k := 68) (show ((0 : Nat) : Int) = 0 from rfl) (show ((0 : Nat) : Int) = 0 from rfl) (show ((0 : Nat) : Int) = 0 from rfl)) (by omega) (by omega)) (fun h126 => ?_) (fun h126 => ?_)
        · replace hP := zE_p hP h126
          exact zlR hP (show (3 : Int32) = i3 3 from rfl) ⟨by omega, by omega, by omega, by omega, by omega, by omega, by omega, by omega, by omega, by omega⟩
        · replace hP := zE_n hP h126
          refine wz_br (i3T (zm_rd (Z := Z) (ν := ν) (k := 68) (show ((0 : Nat) : Int) = 0 from rfl) (show ((0 : Nat) : Int) = 0 from rfl) (show ((0 : Nat) : Int) = 0 from rfl)) (by omega) (by omega)) (fun h127 => ?_) (fun h127 => ?_)
          · replace hP := zE_p hP h127
            exact zlR hP (show (3 : Int32) = i3 3 from rfl) ⟨by omega, by omega, by omega, by omega, by omega, by omega, by omega, by omega, by omega, by omega⟩
          · replace hP := zE_n hP h127
            refine wz_br (i3T (zm_rd (Z := Z) (ν := ν) (k := 68) (show ((0 : Nat) : Int) = 0 from rfl) (show ((0 : Nat) : Int) = 0 from rfl) (show ((0 : Nat) : Int) = 0 from rfl)) (by omega) (by omega)) (fun h128 => ?_) (fun h128 => ?_)
            · replace hP := zE_p hP h128
              refine wz_br (i3L (zm_rd (Z := Z) (ν := ν) (k := 68) (show ((0 : Nat) : Int) = 0 from rfl) (show ((0 : Nat) : Int) = 0 from rfl) (show ((1 : Nat) : Int) = 1 from rfl)) (show (0 : Int32) = i3 0 from rfl) (by omega) (by omega) (by omega) (by omega)) (fun h129 => ?_) (fun h129 => ?_)
              · replace hP := zE_p hP h129
                exact zlR hP (show (1 : Int32) = i3 1 from rfl) ⟨by omega, by omega, by omega, by omega, by omega, by omega, by omega, by omega, by omega, by omega⟩
              · replace hP := zE_n hP h129
                have r130 := zH_k hZ 11 hb 0 5 (lo := 0) (hi := 24) (by decide) rfl
                refine wz_br (i3L (zm_rd (Z := Z) (ν := ν) (k := 68) (show ((0 : Nat) : Int) = 0 from rfl) (show ((0 : Nat) : Int) = 0 from rfl) (show ((1 : Nat) : Int) = 1 from rfl)) (zm_rd (Z := Z) (ν := ν) (k := 11) (rfl : ((hb : Nat) : Int) = hb) (show ((0 : Nat) : Int) = 0 from rfl) (show ((5 : Nat) : Int) = 5 from rfl)) (by omega) (by omega) (by omega) (by omega)) (fun h131 => ?_) (fun h131 => ?_)
                · replace hP := zE_p hP h131
                  refine wz_i0 (i3O (n := 24) (zm_rd (Z := Z) (ν := ν) (k := 68) (show ((0 : Nat) : Int) = 0 from rfl) (show ((0 : Nat) : Int) = 0 from rfl) (show ((1 : Nat) : Int) = 1 from rfl)) (by omega) (by omega) (by omega)) ?_
                  have r132 := zH_k hZ 46 hb (Z 68 0 0 1) 7 (lo := 0) (hi := 1) (by decide) rfl
                  refine wz_br (i3NE (zm_rd (Z := Z) (ν := ν) (k := 46) (rfl : ((hb : Nat) : Int) = hb) (i3I (y := (Z 68 0 0 1)) (zm_rd (Z := Z) (ν := ν) (k := 68) (show ((0 : Nat) : Int) = 0 from rfl) (show ((0 : Nat) : Int) = 0 from rfl) (show ((1 : Nat) : Int) = 1 from rfl)) (by omega) (by omega) (by omega)) (show ((7 : Nat) : Int) = 7 from rfl)) (show (0 : Int32) = i3 0 from rfl) (by omega) (by omega) (by omega) (by omega)) (fun h133 => ?_) (fun h133 => ?_)
                  · replace hP := zE_p hP h133
                    exact zlR hP (show (3 : Int32) = i3 3 from rfl) ⟨by omega, by omega, by omega, by omega, by omega, by omega, by omega, by omega, by omega, by omega⟩
                  · replace hP := zE_n hP h133
                    exact zlR hP (show (0 : Int32) = i3 0 from rfl) ⟨by omega, by omega, by omega, by omega, by omega, by omega, by omega, by omega, by omega, by omega⟩
                · replace hP := zE_n hP h131
                  exact zlR hP (show (1 : Int32) = i3 1 from rfl) ⟨by omega, by omega, by omega, by omega, by omega, by omega, by omega, by omega, by omega, by omega⟩
            · replace hP := zE_n hP h128
              refine wz_br (i3T (zm_rd (Z := Z) (ν := ν) (k := 68) (show ((0 : Nat) : Int) = 0 from rfl) (show ((0 : Nat) : Int) = 0 from rfl) (show ((0 : Nat) : Int) = 0 from rfl)) (by omega) (by omega)) (fun h134 => ?_) (fun h134 => ?_)
              · replace hP := zE_p hP h134
                exact zlR hP (show (3 : Int32) = i3 3 from rfl) ⟨by omega, by omega, by omega, by omega, by omega, by omega, by omega, by omega, by omega, by omega⟩
              · replace hP := zE_n hP h134
                refine wz_br (i3T (zm_rd (Z := Z) (ν := ν) (k := 68) (show ((0 : Nat) : Int) = 0 from rfl) (show ((0 : Nat) : Int) = 0 from rfl) (show ((0 : Nat) : Int) = 0 from rfl)) (by omega) (by omega)) (fun h135 => ?_) (fun h135 => ?_)
                · replace hP := zE_p hP h135
                  exact zlR hP (show (3 : Int32) = i3 3 from rfl) ⟨by omega, by omega, by omega, by omega, by omega, by omega, by omega, by omega, by omega, by omega⟩
                · replace hP := zE_n hP h135
                  refine wz_br (i3T (zm_rd (Z := Z) (ν := ν) (k := 68) (show ((0 : Nat) : Int) = 0 from rfl) (show ((0 : Nat) : Int) = 0 from rfl) (show ((0 : Nat) : Int) = 0 from rfl)) (by omega) (by omega)) (fun h136 => ?_) (fun h136 => ?_)
                  · replace hP := zE_p hP h136
                    refine fw_71 _ _ _ _ _ _ _ ?_
                    refine wz_br (i3L (zm_rd (Z := Z) (ν := ν) (k := 68) (show ((0 : Nat) : Int) = 0 from rfl) (show ((0 : Nat) : Int) = 0 from rfl) (show ((1 : Nat) : Int) = 1 from rfl)) (show (0 : Int32) = i3 0 from rfl) (by omega) (by omega) (by omega) (by omega)) (fun h137 => ?_) (fun h137 => ?_)
                    · replace hP := zE_p hP h137
                      exact zlR hP (show (1 : Int32) = i3 1 from rfl) ⟨by omega, by omega, by omega, by omega, by omega, by omega, by omega, by omega, by omega, by omega⟩
                    · replace hP := zE_n hP h137
                      have r138 := zH_k hZ 11 hb 0 7 (lo := 0) (hi := 2) (by decide) rfl
                      refine wz_br (i3Le (zm_rd (Z := Z) (ν := ν) (k := 11) (rfl : ((hb : Nat) : Int) = hb) (show ((0 : Nat) : Int) = 0 from rfl) (show ((7 : Nat) : Int) = 7 from rfl)) (zm_rd (Z := Z) (ν := ν) (k := 68) (show ((0 : Nat) : Int) = 0 from rfl) (show ((0 : Nat) : Int) = 0 from rfl) (show ((1 : Nat) : Int) = 1 from rfl)) (by omega) (by omega) (by omega) (by omega)) (fun h139 => ?_) (fun h139 => ?_)
                      · replace hP := zE_p hP h139
                        exact zlR hP (show (1 : Int32) = i3 1 from rfl) ⟨by omega, by omega, by omega, by omega, by omega, by omega, by omega, by omega, by omega, by omega⟩
                      · replace hP := zE_n hP h139
                        refine wz_br (i3L (zm_rd (Z := Z) (ν := ν) (k := 68) (show ((0 : Nat) : Int) = 0 from rfl) (show ((0 : Nat) : Int) = 0 from rfl) (show ((2 : Nat) : Int) = 2 from rfl)) (show (0 : Int32) = i3 0 from rfl) (by omega) (by omega) (by omega) (by omega)) (fun h140 => ?_) (fun h140 => ?_)
                        · replace hP := zE_p hP h140
                          exact zlR hP (show (1 : Int32) = i3 1 from rfl) ⟨by omega, by omega, by omega, by omega, by omega, by omega, by omega, by omega, by omega, by omega⟩
                        · replace hP := zE_n hP h140
                          have r141 := zH_k hZ 11 hb 0 3 (lo := 0) (hi := 48) (by decide) rfl
                          refine wz_br (i3L (zm_rd (Z := Z) (ν := ν) (k := 68) (show ((0 : Nat) : Int) = 0 from rfl) (show ((0 : Nat) : Int) = 0 from rfl) (show ((2 : Nat) : Int) = 2 from rfl)) (zm_rd (Z := Z) (ν := ν) (k := 11) (rfl : ((hb : Nat) : Int) = hb) (show ((0 : Nat) : Int) = 0 from rfl) (show ((3 : Nat) : Int) = 3 from rfl)) (by omega) (by omega) (by omega) (by omega)) (fun h142 => ?_) (fun h142 => ?_)
                          · replace hP := zE_p hP h142
                            refine wz_br (i3L (zm_rd (Z := Z) (ν := ν) (k := 68) (show ((0 : Nat) : Int) = 0 from rfl) (show ((0 : Nat) : Int) = 0 from rfl) (show ((3 : Nat) : Int) = 3 from rfl)) (show (1 : Int32) = i3 1 from rfl) (by omega) (by omega) (by omega) (by omega)) (fun h143 => ?_) (fun h143 => ?_)
                            · replace hP := zE_p hP h143
                              exact zlR hP (show (2 : Int32) = i3 2 from rfl) ⟨by omega, by omega, by omega, by omega, by omega, by omega, by omega, by omega, by omega, by omega⟩
                            · replace hP := zE_n hP h143
                              refine wz_br (i3L (show (9999 : Int32) = i3 9999 from rfl) (zm_rd (Z := Z) (ν := ν) (k := 68) (show ((0 : Nat) : Int) = 0 from rfl) (show ((0 : Nat) : Int) = 0 from rfl) (show ((3 : Nat) : Int) = 3 from rfl)) (by omega) (by omega) (by omega) (by omega)) (fun h144 => ?_) (fun h144 => ?_)
                              · replace hP := zE_p hP h144
                                exact zlR hP (show (2 : Int32) = i3 2 from rfl) ⟨by omega, by omega, by omega, by omega, by omega, by omega, by omega, by omega, by omega, by omega⟩
                              · replace hP := zE_n hP h144
                                refine wz_br (i3L (zm_rd (Z := Z) (ν := ν) (k := 68) (show ((0 : Nat) : Int) = 0 from rfl) (show ((0 : Nat) : Int) = 0 from rfl) (show ((4 : Nat) : Int) = 4 from rfl)) (show (1 : Int32) = i3 1 from rfl) (by omega) (by omega) (by omega) (by omega)) (fun h145 => ?_) (fun h145 => ?_)
                                · replace hP := zE_p hP h145
                                  exact zlR hP (show (2 : Int32) = i3 2 from rfl) ⟨by omega, by omega, by omega, by omega, by omega, by omega, by omega, by omega, by omega, by omega⟩
                                · replace hP := zE_n hP h145
                                  refine wz_br (i3L (zm_rd (Z := Z) (ν := ν) (k := 68) (show ((0 : Nat) : Int) = 0 from rfl) (show ((0 : Nat) : Int) = 0 from rfl) (show ((3 : Nat) : Int) = 3 from rfl)) (zm_rd (Z := Z) (ν := ν) (k := 68) (show ((0 : Nat) : Int) = 0 from rfl) (show ((0 : Nat) : Int) = 0 from rfl) (show ((4 : Nat) : Int) = 4 from rfl)) (by omega) (by omega) (by omega) (by omega)) (fun h146 => ?_) (fun h146 => ?_)
                                  · replace hP := zE_p hP h146
                                    exact zlR hP (show (2 : Int32) = i3 2 from rfl) ⟨by omega, by omega, by omega, by omega, by omega, by omega, by omega, by omega, by omega, by omega⟩
                                  · replace hP := zE_n hP h146
                                    refine wz_i0 (i3O (n := 2) (zm_rd (Z := Z) (ν := ν) (k := 68) (show ((0 : Nat) : Int) = 0 from rfl) (show ((0 : Nat) : Int) = 0 from rfl) (show ((1 : Nat) : Int) = 1 from rfl)) (by omega) (by omega) (by omega)) ?_
                                    have r147 := zH_k hZ 48 hb (Z 68 0 0 1) 3 (lo := 0) (hi := 500) (by decide) rfl
                                    refine wz_br (i3Le (zm_rd (Z := Z) (ν := ν) (k := 68) (show ((0 : Nat) : Int) = 0 from rfl) (show ((0 : Nat) : Int) = 0 from rfl) (show ((3 : Nat) : Int) = 3 from rfl)) (i3A (zm_rd (Z := Z) (ν := ν) (k := 68) (show ((0 : Nat) : Int) = 0 from rfl) (show ((0 : Nat) : Int) = 0 from rfl) (show ((4 : Nat) : Int) = 4 from rfl)) (i3M (show (200 : Int32) = i3 200 from rfl) (zm_rd (Z := Z) (ν := ν) (k := 48) (rfl : ((hb : Nat) : Int) = hb) (i3I (y := (Z 68 0 0 1)) (zm_rd (Z := Z) (ν := ν) (k := 68) (show ((0 : Nat) : Int) = 0 from rfl) (show ((0 : Nat) : Int) = 0 from rfl) (show ((1 : Nat) : Int) = 1 from rfl)) (by omega) (by omega) (by omega)) (show ((3 : Nat) : Int) = 3 from rfl)))) (by omega) (by omega) (by omega) (by omega)) (fun h148 => ?_) (fun h148 => ?_)
                                    · replace hP := zE_p hP h148
                                      refine wz_i0 (i3O (n := 48) (zm_rd (Z := Z) (ν := ν) (k := 68) (show ((0 : Nat) : Int) = 0 from rfl) (show ((0 : Nat) : Int) = 0 from rfl) (show ((2 : Nat) : Int) = 2 from rfl)) (by omega) (by omega) (by omega)) ?_
                                      have r149 := zH_k hZ 44 hb (Z 68 0 0 2) 10 (lo := 0) (hi := 4) (by decide) rfl
                                      refine wz_br (i3NE (zm_rd (Z := Z) (ν := ν) (k := 44) (rfl : ((hb : Nat) : Int) = hb) (i3I (y := (Z 68 0 0 2)) (zm_rd (Z := Z) (ν := ν) (k := 68) (show ((0 : Nat) : Int) = 0 from rfl) (show ((0 : Nat) : Int) = 0 from rfl) (show ((2 : Nat) : Int) = 2 from rfl)) (by omega) (by omega) (by omega)) (show ((10 : Nat) : Int) = 10 from rfl)) (show (0 : Int32) = i3 0 from rfl) (by omega) (by omega) (by omega) (by omega)) (fun h150 => ?_) (fun h150 => ?_)
                                      · replace hP := zE_p hP h150
                                        exact zlR hP (show (3 : Int32) = i3 3 from rfl) ⟨by omega, by omega, by omega, by omega, by omega, by omega, by omega, by omega, by omega, by omega⟩
                                      · replace hP := zE_n hP h150
                                        have r151 := zH_k hZ 44 hb (Z 68 0 0 2) 4 (lo := 0) (hi := 40) (by decide) rfl
                                        refine wz_br (i3Le (zm_rd (Z := Z) (ν := ν) (k := 44) (rfl : ((hb : Nat) : Int) = hb) (i3I (y := (Z 68 0 0 2)) (zm_rd (Z := Z) (ν := ν) (k := 68) (show ((0 : Nat) : Int) = 0 from rfl) (show ((0 : Nat) : Int) = 0 from rfl) (show ((2 : Nat) : Int) = 2 from rfl)) (by omega) (by omega) (by omega)) (show ((4 : Nat) : Int) = 4 from rfl)) (show (0 : Int32) = i3 0 from rfl) (by omega) (by omega) (by omega) (by omega)) (fun h152 => ?_) (fun h152 => ?_)
                                        · replace hP := zE_p hP h152
                                          exact zlR hP (show (3 : Int32) = i3 3 from rfl) ⟨by omega, by omega, by omega, by omega, by omega, by omega, by omega, by omega, by omega, by omega⟩
                                        · replace hP := zE_n hP h152
                                          have r153 := zH_k hZ 44 hb (Z 68 0 0 2) 12 (lo := -1) (hi := 6) (by decide) rfl
                                          refine wz_br (i3L (zm_rd (Z := Z) (ν := ν) (k := 44) (rfl : ((hb : Nat) : Int) = hb) (i3I (y := (Z 68 0 0 2)) (zm_rd (Z := Z) (ν := ν) (k := 68) (show ((0 : Nat) : Int) = 0 from rfl) (show ((0 : Nat) : Int) = 0 from rfl) (show ((2 : Nat) : Int) = 2 from rfl)) (by omega) (by omega) (by omega)) (show ((12 : Nat) : Int) = 12 from rfl)) (show (0 : Int32) = i3 0 from rfl) (by omega) (by omega) (by omega) (by omega)) (fun h154 => ?_) (fun h154 => ?_)
                                          · replace hP := zE_p hP h154
                                            refine wz_i0 (i3O (n := 2) (zm_rd (Z := Z) (ν := ν) (k := 68) (show ((0 : Nat) : Int) = 0 from rfl) (show ((0 : Nat) : Int) = 0 from rfl) (show ((1 : Nat) : Int) = 1 from rfl)) (by omega) (by omega) (by omega)) ?_
                                            have r155 := zH_k hZ 48 hb (Z 68 0 0 1) 5 (lo := 0) (hi := 12) (by decide) rfl
                                            refine wz_br (i3Le (show (12 : Int32) = i3 12 from rfl) (zm_rd (Z := Z) (ν := ν) (k := 48) (rfl : ((hb : Nat) : Int) = hb) (i3I (y := (Z 68 0 0 1)) (zm_rd (Z := Z) (ν := ν) (k := 68) (show ((0 : Nat) : Int) = 0 from rfl) (show ((0 : Nat) : Int) = 0 from rfl) (show ((1 : Nat) : Int) = 1 from rfl)) (by omega) (by omega) (by omega)) (show ((5 : Nat) : Int) = 5 from rfl)) (by omega) (by omega) (by omega) (by omega)) (fun h156 => ?_) (fun h156 => ?_)
                                            · replace hP := zE_p hP h156
                                              exact zlR hP (show (3 : Int32) = i3 3 from rfl) ⟨by omega, by omega, by omega, by omega, by omega, by omega, by omega, by omega, by omega, by omega⟩
                                            · replace hP := zE_n hP h156
                                              exact zlR hP (show (0 : Int32) = i3 0 from rfl) ⟨by omega, by omega, by omega, by omega, by omega, by omega, by omega, by omega, by omega, by omega⟩
                                          · replace hP := zE_n hP h154
                                            have r157 := zH_k hZ 11 hb 0 2 (lo := 0) (hi := 6) (by decide) rfl
                                            refine wz_br (i3Le (zm_rd (Z := Z) (ν := ν) (k := 11) (rfl : ((hb : Nat) : Int) = hb) (show ((0 : Nat) : Int) = 0 from rfl) (show ((2 : Nat) : Int) = 2 from rfl)) (zm_rd (Z := Z) (ν := ν) (k := 44) (rfl : ((hb : Nat) : Int) = hb) (i3I (y := (Z 68 0 0 2)) (zm_rd (Z := Z) (ν := ν) (k := 68) (show ((0 : Nat) : Int) = 0 from rfl) (show ((0 : Nat) : Int) = 0 from rfl) (show ((2 : Nat) : Int) = 2 from rfl)) (by omega) (by omega) (by omega)) (show ((12 : Nat) : Int) = 12 from rfl)) (by omega) (by omega) (by omega) (by omega)) (fun h158 => ?_) (fun h158 => ?_)
                                            · replace hP := zE_p hP h158
                                              refine wz_i0 (i3O (n := 2) (zm_rd (Z := Z) (ν := ν) (k := 68) (show ((0 : Nat) : Int) = 0 from rfl) (show ((0 : Nat) : Int) = 0 from rfl) (show ((1 : Nat) : Int) = 1 from rfl)) (by omega) (by omega) (by omega)) ?_
                                              have r159 := zH_k hZ 48 hb (Z 68 0 0 1) 5 (lo := 0) (hi := 12) (by decide) rfl
                                              refine wz_br (i3Le (show (12 : Int32) = i3 12 from rfl) (zm_rd (Z := Z) (ν := ν) (k := 48) (rfl : ((hb : Nat) : Int) = hb) (i3I (y := (Z 68 0 0 1)) (zm_rd (Z := Z) (ν := ν) (k := 68) (show ((0 : Nat) : Int) = 0 from rfl) (show ((0 : Nat) : Int) = 0 from rfl) (show ((1 : Nat) : Int) = 1 from rfl)) (by omega) (by omega) (by omega)) (show ((5 : Nat) : Int) = 5 from rfl)) (by omega) (by omega) (by omega) (by omega)) (fun h160 => ?_) (fun h160 => ?_)
                                              · replace hP := zE_p hP h160
                                                exact zlR hP (show (3 : Int32) = i3 3 from rfl) ⟨by omega, by omega, by omega, by omega, by omega, by omega, by omega, by omega, by omega, by omega⟩
                                              · replace hP := zE_n hP h160
                                                exact zlR hP (show (0 : Int32) = i3 0 from rfl) ⟨by omega, by omega, by omega, by omega, by omega, by omega, by omega, by omega, by omega, by omega⟩
                                            · replace hP := zE_n hP h158
                                              refine wz_i0 (i3O (n := 6) (zm_rd (Z := Z) (ν := ν) (k := 44) (rfl : ((hb : Nat) : Int) = hb) (i3I (y := (Z 68 0 0 2)) (zm_rd (Z := Z) (ν := ν) (k := 68) (show ((0 : Nat) : Int) = 0 from rfl) (show ((0 : Nat) : Int) = 0 from rfl) (show ((2 : Nat) : Int) = 2 from rfl)) (by omega) (by omega) (by omega)) (show ((12 : Nat) : Int) = 12 from rfl)) (by omega) (by omega) (by omega)) ?_
                                              have r161 := zH_k hZ 43 hb (Z 44 hb (Z 68 0 0 2) 12) 10 (lo := -1) (hi := 695) (by decide) rfl
                                              have r162 := zH_k hZ 11 hb 0 13 (lo := 0) (hi := 671) (by decide) rfl
                                              refine wz_br (i3Le (zm_rd (Z := Z) (ν := ν) (k := 43) (rfl : ((hb : Nat) : Int) = hb) (i3I (y := (Z 44 hb (Z 68 0 0 2) 12)) (zm_rd (Z := Z) (ν := ν) (k := 44) (rfl : ((hb : Nat) : Int) = hb) (i3I (y := (Z 68 0 0 2)) (zm_rd (Z := Z) (ν := ν) (k := 68) (show ((0 : Nat) : Int) = 0 from rfl) (show ((0 : Nat) : Int) = 0 from rfl) (show ((2 : Nat) : Int) = 2 from rfl)) (by omega) (by omega) (by omega)) (show ((12 : Nat) : Int) = 12 from rfl)) (by omega) (by omega) (by omega)) (show ((10 : Nat) : Int) = 10 from rfl)) (zm_rd (Z := Z) (ν := ν) (k := 11) (rfl : ((hb : Nat) : Int) = hb) (show ((0 : Nat) : Int) = 0 from rfl) (show ((13 : Nat) : Int) = 13 from rfl)) (by omega) (by omega) (by omega) (by omega)) (fun h163 => ?_) (fun h163 => ?_)
                                              · replace hP := zE_p hP h163
                                                refine wz_i0 (i3O (n := 2) (zm_rd (Z := Z) (ν := ν) (k := 68) (show ((0 : Nat) : Int) = 0 from rfl) (show ((0 : Nat) : Int) = 0 from rfl) (show ((1 : Nat) : Int) = 1 from rfl)) (by omega) (by omega) (by omega)) ?_
                                                have r164 := zH_k hZ 48 hb (Z 68 0 0 1) 5 (lo := 0) (hi := 12) (by decide) rfl
                                                refine wz_br (i3Le (show (12 : Int32) = i3 12 from rfl) (zm_rd (Z := Z) (ν := ν) (k := 48) (rfl : ((hb : Nat) : Int) = hb) (i3I (y := (Z 68 0 0 1)) (zm_rd (Z := Z) (ν := ν) (k := 68) (show ((0 : Nat) : Int) = 0 from rfl) (show ((0 : Nat) : Int) = 0 from rfl) (show ((1 : Nat) : Int) = 1 from rfl)) (by omega) (by omega) (by omega)) (show ((5 : Nat) : Int) = 5 from rfl)) (by omega) (by omega) (by omega) (by omega)) (fun h165 => ?_) (fun h165 => ?_)
                                                · replace hP := zE_p hP h165
                                                  exact zlR hP (show (3 : Int32) = i3 3 from rfl) ⟨by omega, by omega, by omega, by omega, by omega, by omega, by omega, by omega, by omega, by omega⟩
                                                · replace hP := zE_n hP h165
                                                  exact zlR hP (show (0 : Int32) = i3 0 from rfl) ⟨by omega, by omega, by omega, by omega, by omega, by omega, by omega, by omega, by omega, by omega⟩
                                              · replace hP := zE_n hP h163
                                                exact zlR hP (show (3 : Int32) = i3 3 from rfl) ⟨by omega, by omega, by omega, by omega, by omega, by omega, by omega, by omega, by omega, by omega⟩
                                    · replace hP := zE_n hP h148
                                      exact zlR hP (show (2 : Int32) = i3 2 from rfl) ⟨by omega, by omega, by omega, by omega, by omega, by omega, by omega, by omega, by omega, by omega⟩
                          · replace hP := zE_n hP h142
                            exact zlR hP (show (1 : Int32) = i3 1 from rfl) ⟨by omega, by omega, by omega, by omega, by omega, by omega, by omega, by omega, by omega, by omega⟩
                  · replace hP := zE_n hP h136
                    refine wz_br (i3T (zm_rd (Z := Z) (ν := ν) (k := 68) (show ((0 : Nat) : Int) = 0 from rfl) (show ((0 : Nat) : Int) = 0 from rfl) (show ((0 : Nat) : Int) = 0 from rfl)) (by omega) (by omega)) (fun h166 => ?_) (fun h166 => ?_)
                    · replace hP := zE_p hP h166
                      refine wz_br (i3L (zm_rd (Z := Z) (ν := ν) (k := 68) (show ((0 : Nat) : Int) = 0 from rfl) (show ((0 : Nat) : Int) = 0 from rfl) (show ((1 : Nat) : Int) = 1 from rfl)) (show (0 : Int32) = i3 0 from rfl) (by omega) (by omega) (by omega) (by omega)) (fun h167 => ?_) (fun h167 => ?_)
                      · replace hP := zE_p hP h167
                        exact zlR hP (show (1 : Int32) = i3 1 from rfl) ⟨by omega, by omega, by omega, by omega, by omega, by omega, by omega, by omega, by omega, by omega⟩
                      · replace hP := zE_n hP h167
                        have r168 := zH_k hZ 11 hb 0 3 (lo := 0) (hi := 48) (by decide) rfl
                        refine wz_br (i3L (zm_rd (Z := Z) (ν := ν) (k := 68) (show ((0 : Nat) : Int) = 0 from rfl) (show ((0 : Nat) : Int) = 0 from rfl) (show ((1 : Nat) : Int) = 1 from rfl)) (zm_rd (Z := Z) (ν := ν) (k := 11) (rfl : ((hb : Nat) : Int) = hb) (show ((0 : Nat) : Int) = 0 from rfl) (show ((3 : Nat) : Int) = 3 from rfl)) (by omega) (by omega) (by omega) (by omega)) (fun h169 => ?_) (fun h169 => ?_)
                        · replace hP := zE_p hP h169
                          refine wz_i0 (i3O (n := 48) (zm_rd (Z := Z) (ν := ν) (k := 68) (show ((0 : Nat) : Int) = 0 from rfl) (show ((0 : Nat) : Int) = 0 from rfl) (show ((1 : Nat) : Int) = 1 from rfl)) (by omega) (by omega) (by omega)) ?_
                          have r170 := zH_k hZ 44 hb (Z 68 0 0 1) 10 (lo := 0) (hi := 4) (by decide) rfl
                          refine wz_br (i3NE (zm_rd (Z := Z) (ν := ν) (k := 44) (rfl : ((hb : Nat) : Int) = hb) (i3I (y := (Z 68 0 0 1)) (zm_rd (Z := Z) (ν := ν) (k := 68) (show ((0 : Nat) : Int) = 0 from rfl) (show ((0 : Nat) : Int) = 0 from rfl) (show ((1 : Nat) : Int) = 1 from rfl)) (by omega) (by omega) (by omega)) (show ((10 : Nat) : Int) = 10 from rfl)) (show (1 : Int32) = i3 1 from rfl) (by omega) (by omega) (by omega) (by omega)) (fun h171 => ?_) (fun h171 => ?_)
                          · replace hP := zE_p hP h171
                            exact zlR hP (show (3 : Int32) = i3 3 from rfl) ⟨by omega, by omega, by omega, by omega, by omega, by omega, by omega, by omega, by omega, by omega⟩
                          · replace hP := zE_n hP h171
                            exact zlR hP (show (0 : Int32) = i3 0 from rfl) ⟨by omega, by omega, by omega, by omega, by omega, by omega, by omega, by omega, by omega, by omega⟩
                        · replace hP := zE_n hP h169
                          exact zlR hP (show (1 : Int32) = i3 1 from rfl) ⟨by omega, by omega, by omega, by omega, by omega, by omega, by omega, by omega, by omega, by omega⟩
                    · replace hP := zE_n hP h166
                      refine wz_br (i3T (zm_rd (Z := Z) (ν := ν) (k := 68) (show ((0 : Nat) : Int) = 0 from rfl) (show ((0 : Nat) : Int) = 0 from rfl) (show ((0 : Nat) : Int) = 0 from rfl)) (by omega) (by omega)) (fun h172 => ?_) (fun h172 => ?_)
                      · replace hP := zE_p hP h172
                        exact zlR hP (show (3 : Int32) = i3 3 from rfl) ⟨by omega, by omega, by omega, by omega, by omega, by omega, by omega, by omega, by omega, by omega⟩
                      · replace hP := zE_n hP h172
                        refine wz_br (i3T (zm_rd (Z := Z) (ν := ν) (k := 68) (show ((0 : Nat) : Int) = 0 from rfl) (show ((0 : Nat) : Int) = 0 from rfl) (show ((0 : Nat) : Int) = 0 from rfl)) (by omega) (by omega)) (fun h173 => ?_) (fun h173 => ?_)
                        · replace hP := zE_p hP h173
                          exact zlR hP (show (3 : Int32) = i3 3 from rfl) ⟨by omega, by omega, by omega, by omega, by omega, by omega, by omega, by omega, by omega, by omega⟩
                        · replace hP := zE_n hP h173
                          refine wz_br (i3T (zm_rd (Z := Z) (ν := ν) (k := 68) (show ((0 : Nat) : Int) = 0 from rfl) (show ((0 : Nat) : Int) = 0 from rfl) (show ((0 : Nat) : Int) = 0 from rfl)) (by omega) (by omega)) (fun h174 => ?_) (fun h174 => ?_)
                          · replace hP := zE_p hP h174
                            exact zlR hP (show (3 : Int32) = i3 3 from rfl) ⟨by omega, by omega, by omega, by omega, by omega, by omega, by omega, by omega, by omega, by omega⟩
                          · replace hP := zE_n hP h174
                            refine wz_br (i3T (zm_rd (Z := Z) (ν := ν) (k := 68) (show ((0 : Nat) : Int) = 0 from rfl) (show ((0 : Nat) : Int) = 0 from rfl) (show ((0 : Nat) : Int) = 0 from rfl)) (by omega) (by omega)) (fun h175 => ?_) (fun h175 => ?_)
                            · replace hP := zE_p hP h175
                              refine fw_49 _ _ _ _ _ ?_
                              refine wz_br (i3L (zm_rd (Z := Z) (ν := ν) (k := 68) (show ((0 : Nat) : Int) = 0 from rfl) (show ((0 : Nat) : Int) = 0 from rfl) (show ((1 : Nat) : Int) = 1 from rfl)) (show (0 : Int32) = i3 0 from rfl) (by omega) (by omega) (by omega) (by omega)) (fun h176 => ?_) (fun h176 => ?_)
                              · replace hP := zE_p hP h176
                                exact zlR hP (show (1 : Int32) = i3 1 from rfl) ⟨by omega, by omega, by omega, by omega, by omega, by omega, by omega, by omega, by omega, by omega⟩
                              · replace hP := zE_n hP h176
                                have r177 := zH_k hZ 11 hb 0 6 (lo := 0) (hi := 60) (by decide) rfl
                                refine wz_br (i3Le (zm_rd (Z := Z) (ν := ν) (k := 11) (rfl : ((hb : Nat) : Int) = hb) (show ((0 : Nat) : Int) = 0 from rfl) (show ((6 : Nat) : Int) = 6 from rfl)) (zm_rd (Z := Z) (ν := ν) (k := 68) (show ((0 : Nat) : Int) = 0 from rfl) (show ((0 : Nat) : Int) = 0 from rfl) (show ((1 : Nat) : Int) = 1 from rfl)) (by omega) (by omega) (by omega) (by omega)) (fun h178 => ?_) (fun h178 => ?_)
                                · replace hP := zE_p hP h178
                                  exact zlR hP (show (1 : Int32) = i3 1 from rfl) ⟨by omega, by omega, by omega, by omega, by omega, by omega, by omega, by omega, by omega, by omega⟩
                                · replace hP := zE_n hP h178
                                  refine wz_br (i3L (zm_rd (Z := Z) (ν := ν) (k := 68) (show ((0 : Nat) : Int) = 0 from rfl) (show ((0 : Nat) : Int) = 0 from rfl) (show ((2 : Nat) : Int) = 2 from rfl)) (show (0 : Int32) = i3 0 from rfl) (by omega) (by omega) (by omega) (by omega)) (fun h179 => ?_) (fun h179 => ?_)
                                  · replace hP := zE_p hP h179
                                    exact zlR hP (show (1 : Int32) = i3 1 from rfl) ⟨by omega, by omega, by omega, by omega, by omega, by omega, by omega, by omega, by omega, by omega⟩
                                  · replace hP := zE_n hP h179
                                    have r180 := zH_k hZ 11 hb 0 8 (lo := 0) (hi := 4) (by decide) rfl
                                    refine wz_br (i3L (zm_rd (Z := Z) (ν := ν) (k := 68) (show ((0 : Nat) : Int) = 0 from rfl) (show ((0 : Nat) : Int) = 0 from rfl) (show ((2 : Nat) : Int) = 2 from rfl)) (zm_rd (Z := Z) (ν := ν) (k := 11) (rfl : ((hb : Nat) : Int) = hb) (show ((0 : Nat) : Int) = 0 from rfl) (show ((8 : Nat) : Int) = 8 from rfl)) (by omega) (by omega) (by omega) (by omega)) (fun h181 => ?_) (fun h181 => ?_)
                                    · replace hP := zE_p hP h181
                                      refine wz_i0 (i3O (n := 60) (zm_rd (Z := Z) (ν := ν) (k := 68) (show ((0 : Nat) : Int) = 0 from rfl) (show ((0 : Nat) : Int) = 0 from rfl) (show ((1 : Nat) : Int) = 1 from rfl)) (by omega) (by omega) (by omega)) ?_
                                      refine wz_i0 (i3O (n := 4) (zm_rd (Z := Z) (ν := ν) (k := 68) (show ((0 : Nat) : Int) = 0 from rfl) (show ((0 : Nat) : Int) = 0 from rfl) (show ((2 : Nat) : Int) = 2 from rfl)) (by omega) (by omega) (by omega)) ?_
                                      have r182 := zH_k hZ 47 hb (Z 68 0 0 1) 9 (lo := 0) (hi := 3) (by decide) rfl
                                      have r183 := zH_lt hZ hb (Z 68 0 0 1)
                                      refine wz_br (i3NE (zm_rd (Z := Z) (ν := ν) (k := 47) (rfl : ((hb : Nat) : Int) = hb) (i3I (y := (Z 68 0 0 1)) (zm_rd (Z := Z) (ν := ν) (k := 68) (show ((0 : Nat) : Int) = 0 from rfl) (show ((0 : Nat) : Int) = 0 from rfl) (show ((1 : Nat) : Int) = 1 from rfl)) (by omega) (by omega) (by omega)) (show ((9 : Nat) : Int) = 9 from rfl)) (show (0 : Int32) = i3 0 from rfl) (by omega) (by omega) (by omega) (by omega)) (fun h184 => ?_) (fun h184 => ?_)
                                      · replace hP := zE_p hP h184
                                        exact zlR hP (show (3 : Int32) = i3 3 from rfl) ⟨by omega, by omega, by omega, by omega, by omega, by omega, by omega, by omega, by omega, by omega⟩
                                      · replace hP := zE_n hP h184
                                        have r185 := zH_k hZ 47 hb (Z 68 0 0 1) 0 (lo := 0) (hi := 47) (by decide) rfl
                                        refine wz_i0 (i3O (n := 48) (zm_rd (Z := Z) (ν := ν) (k := 47) (rfl : ((hb : Nat) : Int) = hb) (i3I (y := (Z 68 0 0 1)) (zm_rd (Z := Z) (ν := ν) (k := 68) (show ((0 : Nat) : Int) = 0 from rfl) (show ((0 : Nat) : Int) = 0 from rfl) (show ((1 : Nat) : Int) = 1 from rfl)) (by omega) (by omega) (by omega)) (show ((0 : Nat) : Int) = 0 from rfl)) (by omega) (by omega) (by omega)) ?_
                                        have r186 := zH_k hZ 44 hb (Z 47 hb (Z 68 0 0 1) 0) 12 (lo := -1) (hi := 6) (by decide) rfl
                                        refine wz_br (i3L (zm_rd (Z := Z) (ν := ν) (k := 44) (rfl : ((hb : Nat) : Int) = hb) (i3I (y := (Z 47 hb (Z 68 0 0 1) 0)) (zm_rd (Z := Z) (ν := ν) (k := 47) (rfl : ((hb : Nat) : Int) = hb) (i3I (y := (Z 68 0 0 1)) (zm_rd (Z := Z) (ν := ν) (k := 68) (show ((0 : Nat) : Int) = 0 from rfl) (show ((0 : Nat) : Int) = 0 from rfl) (show ((1 : Nat) : Int) = 1 from rfl)) (by omega) (by omega) (by omega)) (show ((0 : Nat) : Int) = 0 from rfl)) (by omega) (by omega) (by omega)) (show ((12 : Nat) : Int) = 12 from rfl)) (show (0 : Int32) = i3 0 from rfl) (by omega) (by omega) (by omega) (by omega)) (fun h187 => ?_) (fun h187 => ?_)
                                        · replace hP := zE_p hP h187
                                          have r188 := zH_k hZ 50 hb (Z 68 0 0 2) 2 (lo := 0) (hi := 1) (by decide) rfl
                                          refine wz_br (i3NE (zm_rd (Z := Z) (ν := ν) (k := 50) (rfl : ((hb : Nat) : Int) = hb) (i3I (y := (Z 68 0 0 2)) (zm_rd (Z := Z) (ν := ν) (k := 68) (show ((0 : Nat) : Int) = 0 from rfl) (show ((0 : Nat) : Int) = 0 from rfl) (show ((2 : Nat) : Int) = 2 from rfl)) (by omega) (by omega) (by omega)) (show ((2 : Nat) : Int) = 2 from rfl)) (show (0 : Int32) = i3 0 from rfl) (by omega) (by omega) (by omega) (by omega)) (fun h189 => ?_) (fun h189 => ?_)
                                          · replace hP := zE_p hP h189
                                            exact zlR hP (show (3 : Int32) = i3 3 from rfl) ⟨by omega, by omega, by omega, by omega, by omega, by omega, by omega, by omega, by omega, by omega⟩
                                          · replace hP := zE_n hP h189
                                            obtain ⟨v190, hv190, c9, lv190, uv190⟩ := sp_43 (ν := ν) hZ hb (a1 := (Z 68 0 0 2)) (by omega) (zbh (c := 0) (k := 0) hM (Nat.le_of_ble_eq_true rfl))
                                            replace hP := zl_e hP hv190
                                            refine wz_cI_of (zas (zcons rfl (zcons (zvi (zm_rd (Z := Z) (ν := ν) (k := 68) (show ((0 : Nat) : Int) = 0 from rfl) (show ((0 : Nat) : Int) = 0 from rfl) (show ((2 : Nat) : Int) = 2 from rfl))) rfl)) c9) ?_
                                            clear c9
                                            have r191 := zH_k hZ 50 hb (Z 68 0 0 2) 0 (lo := 0) (hi := 99) (by decide) rfl
                                            have r192 := zH_k hZ 47 hb (Z 68 0 0 1) 3 (lo := 0) (hi := 40) (by decide) rfl
                                            have r193 := w3_r (v190 + (Z 47 hb (Z 68 0 0 1) 3))
                                            refine wz_br (i3L (zm_rd (Z := Z) (ν := ν) (k := 50) (rfl : ((hb : Nat) : Int) = hb) (i3I (y := (Z 68 0 0 2)) (zm_rd (Z := Z) (ν := ν) (k := 68) (show ((0 : Nat) : Int) = 0 from rfl) (show ((0 : Nat) : Int) = 0 from rfl) (show ((2 : Nat) : Int) = 2 from rfl)) (by omega) (by omega) (by omega)) (show ((0 : Nat) : Int) = 0 from rfl)) (i3W (i3A (rfl : i3 v190 = i3 v190) (zm_rd (Z := Z) (ν := ν) (k := 47) (rfl : ((hb : Nat) : Int) = hb) (i3I (y := (Z 68 0 0 1)) (zm_rd (Z := Z) (ν := ν) (k := 68) (show ((0 : Nat) : Int) = 0 from rfl) (show ((0 : Nat) : Int) = 0 from rfl) (show ((1 : Nat) : Int) = 1 from rfl)) (by omega) (by omega) (by omega)) (show ((3 : Nat) : Int) = 3 from rfl)))) (by omega) (by omega) (by omega) (by omega)) (fun h194 => ?_) (fun h194 => ?_)
                                            · replace hP := zE_p hP h194
                                              exact zlR hP (show (3 : Int32) = i3 3 from rfl) ⟨by omega, by omega, by omega, by omega, by omega, by omega, by omega, by omega, by omega, by omega⟩
                                            · replace hP := zE_n hP h194
                                              obtain ⟨v195, hv195, c9, lv195, uv195⟩ := sp_53 (ν := ν) hZ hb (a1 := (Z 68 0 0 2)) (by omega) (zbh (c := 0) (k := 0) hM (Nat.le_of_ble_eq_true rfl))
                                              replace hP := zl_e hP hv195
                                              refine wz_cI_of (zas (zcons rfl (zcons (zvi (zm_rd (Z := Z) (ν := ν) (k := 68) (show ((0 : Nat) : Int) = 0 from rfl) (show ((0 : Nat) : Int) = 0 from rfl) (show ((2 : Nat) : Int) = 2 from rfl))) rfl)) c9) ?_
                                              clear c9
                                              refine wz_br (i3L (show (0 : Int32) = i3 0 from rfl) (rfl : i3 v195 = i3 v195) (by omega) (by omega) (by omega) (by omega)) (fun h196 => ?_) (fun h196 => ?_)
                                              · replace hP := zE_p hP h196
                                                exact zlR hP (show (0 : Int32) = i3 0 from rfl) ⟨by omega, by omega, by omega, by omega, by omega, by omega, by omega, by omega, by omega, by omega⟩
                                              · replace hP := zE_n hP h196
                                                obtain ⟨v197, hv197, c9, lv197, uv197⟩ := sp_40 (ν := ν) hZ hb (zbh (c := 0) (k := 0) hM (Nat.le_of_ble_eq_true rfl))
                                                replace hP := zl_e hP hv197
                                                refine wz_cI_of (zas (zcons rfl rfl) c9) ?_
                                                clear c9
                                                have r198 := zH_k hZ 11 hb 0 14 (lo := 0) (hi := 4) (by decide) rfl
                                                refine wz_br (i3Le (zm_rd (Z := Z) (ν := ν) (k := 11) (rfl : ((hb : Nat) : Int) = hb) (show ((0 : Nat) : Int) = 0 from rfl) (show ((14 : Nat) : Int) = 14 from rfl)) (rfl : i3 v197 = i3 v197) (by omega) (by omega) (by omega) (by omega)) (fun h199 => ?_) (fun h199 => ?_)
                                                · replace hP := zE_p hP h199
                                                  exact zlR hP (show (3 : Int32) = i3 3 from rfl) ⟨by omega, by omega, by omega, by omega, by omega, by omega, by omega, by omega, by omega, by omega⟩
                                                · replace hP := zE_n hP h199
                                                  exact zlR hP (show (0 : Int32) = i3 0 from rfl) ⟨by omega, by omega, by omega, by omega, by omega, by omega, by omega, by omega, by omega, by omega⟩
                                        · replace hP := zE_n hP h187
                                          have r200 := zH_k hZ 11 hb 0 2 (lo := 0) (hi := 6) (by decide) rfl
                                          refine wz_br (i3Le (zm_rd (Z := Z) (ν := ν) (k := 11) (rfl : ((hb : Nat) : Int) = hb) (show ((0 : Nat) : Int) = 0 from rfl) (show ((2 : Nat) : Int) = 2 from rfl)) (zm_rd (Z := Z) (ν := ν) (k := 44) (rfl : ((hb : Nat) : Int) = hb) (i3I (y := (Z 47 hb (Z 68 0 0 1) 0)) (zm_rd (Z := Z) (ν := ν) (k := 47) (rfl : ((hb : Nat) : Int) = hb) (i3I (y := (Z 68 0 0 1)) (zm_rd (Z := Z) (ν := ν) (k := 68) (show ((0 : Nat) : Int) = 0 from rfl) (show ((0 : Nat) : Int) = 0 from rfl) (show ((1 : Nat) : Int) = 1 from rfl)) (by omega) (by omega) (by omega)) (show ((0 : Nat) : Int) = 0 from rfl)) (by omega) (by omega) (by omega)) (show ((12 : Nat) : Int) = 12 from rfl)) (by omega) (by omega) (by omega) (by omega)) (fun h201 => ?_) (fun h201 => ?_)
                                          · replace hP := zE_p hP h201
                                            have r202 := zH_k hZ 50 hb (Z 68 0 0 2) 2 (lo := 0) (hi := 1) (by decide) rfl
                                            refine wz_br (i3NE (zm_rd (Z := Z) (ν := ν) (k := 50) (rfl : ((hb : Nat) : Int) = hb) (i3I (y := (Z 68 0 0 2)) (zm_rd (Z := Z) (ν := ν) (k := 68) (show ((0 : Nat) : Int) = 0 from rfl) (show ((0 : Nat) : Int) = 0 from rfl) (show ((2 : Nat) : Int) = 2 from rfl)) (by omega) (by omega) (by omega)) (show ((2 : Nat) : Int) = 2 from rfl)) (show (0 : Int32) = i3 0 from rfl) (by omega) (by omega) (by omega) (by omega)) (fun h203 => ?_) (fun h203 => ?_)
                                            · replace hP := zE_p hP h203
                                              exact zlR hP (show (3 : Int32) = i3 3 from rfl) ⟨by omega, by omega, by omega, by omega, by omega, by omega, by omega, by omega, by omega, by omega⟩
                                            · replace hP := zE_n hP h203
                                              obtain ⟨v204, hv204, c9, lv204, uv204⟩ := sp_43 (ν := ν) hZ hb (a1 := (Z 68 0 0 2)) (by omega) (zbh (c := 0) (k := 0) hM (Nat.le_of_ble_eq_true rfl))
                                              replace hP := zl_e hP hv204
                                              refine wz_cI_of (zas (zcons rfl (zcons (zvi (zm_rd (Z := Z) (ν := ν) (k := 68) (show ((0 : Nat) : Int) = 0 from rfl) (show ((0 : Nat) : Int) = 0 from rfl) (show ((2 : Nat) : Int) = 2 from rfl))) rfl)) c9) ?_
                                              clear c9
                                              have r205 := zH_k hZ 50 hb (Z 68 0 0 2) 0 (lo := 0) (hi := 99) (by decide) rfl
                                              have r206 := zH_k hZ 47 hb (Z 68 0 0 1) 3 (lo := 0) (hi := 40) (by decide) rfl
                                              have r207 := w3_r (v204 + (Z 47 hb (Z 68 0 0 1) 3))
                                              refine wz_br (i3L (zm_rd (Z := Z) (ν := ν) (k := 50) (rfl : ((hb : Nat) : Int) = hb) (i3I (y := (Z 68 0 0 2)) (zm_rd (Z := Z) (ν := ν) (k := 68) (show ((0 : Nat) : Int) = 0 from rfl) (show ((0 : Nat) : Int) = 0 from rfl) (show ((2 : Nat) : Int) = 2 from rfl)) (by omega) (by omega) (by omega)) (show ((0 : Nat) : Int) = 0 from rfl)) (i3W (i3A (rfl : i3 v204 = i3 v204) (zm_rd (Z := Z) (ν := ν) (k := 47) (rfl : ((hb : Nat) : Int) = hb) (i3I (y := (Z 68 0 0 1)) (zm_rd (Z := Z) (ν := ν) (k := 68) (show ((0 : Nat) : Int) = 0 from rfl) (show ((0 : Nat) : Int) = 0 from rfl) (show ((1 : Nat) : Int) = 1 from rfl)) (by omega) (by omega) (by omega)) (show ((3 : Nat) : Int) = 3 from rfl)))) (by omega) (by omega) (by omega) (by omega)) (fun h208 => ?_) (fun h208 => ?_)
                                              · replace hP := zE_p hP h208
                                                exact zlR hP (show (3 : Int32) = i3 3 from rfl) ⟨by omega, by omega, by omega, by omega, by omega, by omega, by omega, by omega, by omega, by omega⟩
                                              · replace hP := zE_n hP h208
                                                obtain ⟨v209, hv209, c9, lv209, uv209⟩ := sp_53 (ν := ν) hZ hb (a1 := (Z 68 0 0 2)) (by omega) (zbh (c := 0) (k := 0) hM (Nat.le_of_ble_eq_true rfl))
                                                replace hP := zl_e hP hv209
                                                refine wz_cI_of (zas (zcons rfl (zcons (zvi (zm_rd (Z := Z) (ν := ν) (k := 68) (show ((0 : Nat) : Int) = 0 from rfl) (show ((0 : Nat) : Int) = 0 from rfl) (show ((2 : Nat) : Int) = 2 from rfl))) rfl)) c9) ?_
                                                clear c9
                                                refine wz_br (i3L (show (0 : Int32) = i3 0 from rfl) (rfl : i3 v209 = i3 v209) (by omega) (by omega) (by omega) (by omega)) (fun h210 => ?_) (fun h210 => ?_)
                                                · replace hP := zE_p hP h210
                                                  exact zlR hP (show (0 : Int32) = i3 0 from rfl) ⟨by omega, by omega, by omega, by omega, by omega, by omega, by omega, by omega, by omega, by omega⟩
                                                · replace hP := zE_n hP h210
                                                  obtain ⟨v211, hv211, c9, lv211, uv211⟩ := sp_40 (ν := ν) hZ hb (zbh (c := 0) (k := 0) hM (Nat.le_of_ble_eq_true rfl))
                                                  replace hP := zl_e hP hv211
                                                  refine wz_cI_of (zas (zcons rfl rfl) c9) ?_
                                                  clear c9
                                                  have r212 := zH_k hZ 11 hb 0 14 (lo := 0) (hi := 4) (by decide) rfl
                                                  refine wz_br (i3Le (zm_rd (Z := Z) (ν := ν) (k := 11) (rfl : ((hb : Nat) : Int) = hb) (show ((0 : Nat) : Int) = 0 from rfl) (show ((14 : Nat) : Int) = 14 from rfl)) (rfl : i3 v211 = i3 v211) (by omega) (by omega) (by omega) (by omega)) (fun h213 => ?_) (fun h213 => ?_)
                                                  · replace hP := zE_p hP h213
                                                    exact zlR hP (show (3 : Int32) = i3 3 from rfl) ⟨by omega, by omega, by omega, by omega, by omega, by omega, by omega, by omega, by omega, by omega⟩
                                                  · replace hP := zE_n hP h213
                                                    exact zlR hP (show (0 : Int32) = i3 0 from rfl) ⟨by omega, by omega, by omega, by omega, by omega, by omega, by omega, by omega, by omega, by omega⟩
                                          · replace hP := zE_n hP h201
                                            refine wz_i0 (i3O (n := 6) (zm_rd (Z := Z) (ν := ν) (k := 44) (rfl : ((hb : Nat) : Int) = hb) (i3I (y := (Z 47 hb (Z 68 0 0 1) 0)) (zm_rd (Z := Z) (ν := ν) (k := 47) (rfl : ((hb : Nat) : Int) = hb) (i3I (y := (Z 68 0 0 1)) (zm_rd (Z := Z) (ν := ν) (k := 68) (show ((0 : Nat) : Int) = 0 from rfl) (show ((0 : Nat) : Int) = 0 from rfl) (show ((1 : Nat) : Int) = 1 from rfl)) (by omega) (by omega) (by omega)) (show ((0 : Nat) : Int) = 0 from rfl)) (by omega) (by omega) (by omega)) (show ((12 : Nat) : Int) = 12 from rfl)) (by omega) (by omega) (by omega)) ?_
                                            have r214 := zH_k hZ 43 hb (Z 44 hb (Z 47 hb (Z 68 0 0 1) 0) 12) 10 (lo := -1) (hi := 695) (by decide) rfl
                                            have r215 := zH_k hZ 11 hb 0 13 (lo := 0) (hi := 671) (by decide) rfl
                                            refine wz_br (i3Le (zm_rd (Z := Z) (ν := ν) (k := 43) (rfl : ((hb : Nat) : Int) = hb) (i3I (y := (Z 44 hb (Z 47 hb (Z 68 0 0 1) 0) 12)) (zm_rd (Z := Z) (ν := ν) (k := 44) (rfl : ((hb : Nat) : Int) = hb) (i3I (y := (Z 47 hb (Z 68 0 0 1) 0)) (zm_rd (Z := Z) (ν := ν) (k := 47) (rfl : ((hb : Nat) : Int) = hb) (i3I (y := (Z 68 0 0 1)) (zm_rd (Z := Z) (ν := ν) (k := 68) (show ((0 : Nat) : Int) = 0 from rfl) (show ((0 : Nat) : Int) = 0 from rfl) (show ((1 : Nat) : Int) = 1 from rfl)) (by omega) (by omega) (by omega)) (show ((0 : Nat) : Int) = 0 from rfl)) (by omega) (by omega) (by omega)) (show ((12 : Nat) : Int) = 12 from rfl)) (by omega) (by omega) (by omega)) (show ((10 : Nat) : Int) = 10 from rfl)) (zm_rd (Z := Z) (ν := ν) (k := 11) (rfl : ((hb : Nat) : Int) = hb) (show ((0 : Nat) : Int) = 0 from rfl) (show ((13 : Nat) : Int) = 13 from rfl)) (by omega) (by omega) (by omega) (by omega)) (fun h216 => ?_) (fun h216 => ?_)
                                            · replace hP := zE_p hP h216
                                              have r217 := zH_k hZ 50 hb (Z 68 0 0 2) 2 (lo := 0) (hi := 1) (by decide) rfl
                                              refine wz_br (i3NE (zm_rd (Z := Z) (ν := ν) (k := 50) (rfl : ((hb : Nat) : Int) = hb) (i3I (y := (Z 68 0 0 2)) (zm_rd (Z := Z) (ν := ν) (k := 68) (show ((0 : Nat) : Int) = 0 from rfl) (show ((0 : Nat) : Int) = 0 from rfl) (show ((2 : Nat) : Int) = 2 from rfl)) (by omega) (by omega) (by omega)) (show ((2 : Nat) : Int) = 2 from rfl)) (show (0 : Int32) = i3 0 from rfl) (by omega) (by omega) (by omega) (by omega)) (fun h218 => ?_) (fun h218 => ?_)
                                              · replace hP := zE_p hP h218
                                                exact zlR hP (show (3 : Int32) = i3 3 from rfl) ⟨by omega, by omega, by omega, by omega, by omega, by omega, by omega, by omega, by omega, by omega⟩
                                              · replace hP := zE_n hP h218
                                                obtain ⟨v219, hv219, c9, lv219, uv219⟩ := sp_43 (ν := ν) hZ hb (a1 := (Z 68 0 0 2)) (by omega) (zbh (c := 0) (k := 0) hM (Nat.le_of_ble_eq_true rfl))
                                                replace hP := zl_e hP hv219
                                                refine wz_cI_of (zas (zcons rfl (zcons (zvi (zm_rd (Z := Z) (ν := ν) (k := 68) (show ((0 : Nat) : Int) = 0 from rfl) (show ((0 : Nat) : Int) = 0 from rfl) (show ((2 : Nat) : Int) = 2 from rfl))) rfl)) c9) ?_
                                                clear c9
                                                have r220 := zH_k hZ 50 hb (Z 68 0 0 2) 0 (lo := 0) (hi := 99) (by decide) rfl
                                                have r221 := zH_k hZ 47 hb (Z 68 0 0 1) 3 (lo := 0) (hi := 40) (by decide) rfl
                                                have r222 := w3_r (v219 + (Z 47 hb (Z 68 0 0 1) 3))
                                                refine wz_br (i3L (zm_rd (Z := Z) (ν := ν) (k := 50) (rfl : ((hb : Nat) : Int) = hb) (i3I (y := (Z 68 0 0 2)) (zm_rd (Z := Z) (ν := ν) (k := 68) (show ((0 : Nat) : Int) = 0 from rfl) (show ((0 : Nat) : Int) = 0 from rfl) (show ((2 : Nat) : Int) = 2 from rfl)) (by omega) (by omega) (by omega)) (show ((0 : Nat) : Int) = 0 from rfl)) (i3W (i3A (rfl : i3 v219 = i3 v219) (zm_rd (Z := Z) (ν := ν) (k := 47) (rfl : ((hb : Nat) : Int) = hb) (i3I (y := (Z 68 0 0 1)) (zm_rd (Z := Z) (ν := ν) (k := 68) (show ((0 : Nat) : Int) = 0 from rfl) (show ((0 : Nat) : Int) = 0 from rfl) (show ((1 : Nat) : Int) = 1 from rfl)) (by omega) (by omega) (by omega)) (show ((3 : Nat) : Int) = 3 from rfl)))) (by omega) (by omega) (by omega) (by omega)) (fun h223 => ?_) (fun h223 => ?_)
                                                · replace hP := zE_p hP h223
                                                  exact zlR hP (show (3 : Int32) = i3 3 from rfl) ⟨by omega, by omega, by omega, by omega, by omega, by omega, by omega, by omega, by omega, by omega⟩
                                                · replace hP := zE_n hP h223
                                                  obtain ⟨v224, hv224, c9, lv224, uv224⟩ := sp_53 (ν := ν) hZ hb (a1 := (Z 68 0 0 2)) (by omega) (zbh (c := 0) (k := 0) hM (Nat.le_of_ble_eq_true rfl))
                                                  replace hP := zl_e hP hv224
                                                  refine wz_cI_of (zas (zcons rfl (zcons (zvi (zm_rd (Z := Z) (ν := ν) (k := 68) (show ((0 : Nat) : Int) = 0 from rfl) (show ((0 : Nat) : Int) = 0 from rfl) (show ((2 : Nat) : Int) = 2 from rfl))) rfl)) c9) ?_
                                                  clear c9
                                                  refine wz_br (i3L (show (0 : Int32) = i3 0 from rfl) (rfl : i3 v224 = i3 v224) (by omega) (by omega) (by omega) (by omega)) (fun h225 => ?_) (fun h225 => ?_)
                                                  · replace hP := zE_p hP h225
                                                    exact zlR hP (show (0 : Int32) = i3 0 from rfl) ⟨by omega, by omega, by omega, by omega, by omega, by omega, by omega, by omega, by omega, by omega⟩
                                                  · replace hP := zE_n hP h225
                                                    obtain ⟨v226, hv226, c9, lv226, uv226⟩ := sp_40 (ν := ν) hZ hb (zbh (c := 0) (k := 0) hM (Nat.le_of_ble_eq_true rfl))
                                                    replace hP := zl_e hP hv226
                                                    refine wz_cI_of (zas (zcons rfl rfl) c9) ?_
                                                    clear c9
                                                    have r227 := zH_k hZ 11 hb 0 14 (lo := 0) (hi := 4) (by decide) rfl
                                                    refine wz_br (i3Le (zm_rd (Z := Z) (ν := ν) (k := 11) (rfl : ((hb : Nat) : Int) = hb) (show ((0 : Nat) : Int) = 0 from rfl) (show ((14 : Nat) : Int) = 14 from rfl)) (rfl : i3 v226 = i3 v226) (by omega) (by omega) (by omega) (by omega)) (fun h228 => ?_) (fun h228 => ?_)
                                                    · replace hP := zE_p hP h228
                                                      exact zlR hP (show (3 : Int32) = i3 3 from rfl) ⟨by omega, by omega, by omega, by omega, by omega, by omega, by omega, by omega, by omega, by omega⟩
                                                    · replace hP := zE_n hP h228
                                                      exact zlR hP (show (0 : Int32) = i3 0 from rfl) ⟨by omega, by omega, by omega, by omega, by omega, by omega, by omega, by omega, by omega, by omega⟩
                                            · replace hP := zE_n hP h216
                                              exact zlR hP (show (3 : Int32) = i3 3 from rfl) ⟨by omega, by omega, by omega, by omega, by omega, by omega, by omega, by omega, by omega, by omega⟩
                                    · replace hP := zE_n hP h181
                                      exact zlR hP (show (1 : Int32) = i3 1 from rfl) ⟨by omega, by omega, by omega, by omega, by omega, by omega, by omega, by omega, by omega, by omega⟩
                            · replace hP := zE_n hP h175
                              refine wz_i1 (Eq.trans (i3T (zm_rd (Z := Z) (ν := ν) (k := 68) (show ((0 : Nat) : Int) = 0 from rfl) (show ((0 : Nat) : Int) = 0 from rfl) (show ((0 : Nat) : Int) = 0 from rfl)) (by omega) (by omega)) (decide_eq_true (by omega))) ?_
                              refine fw_55 _ _ _ _ _ ?_
                              refine wz_br (i3L (zm_rd (Z := Z) (ν := ν) (k := 68) (show ((0 : Nat) : Int) = 0 from rfl) (show ((0 : Nat) : Int) = 0 from rfl) (show ((1 : Nat) : Int) = 1 from rfl)) (show (0 : Int32) = i3 0 from rfl) (by omega) (by omega) (by omega) (by omega)) (fun h229 => ?_) (fun h229 => ?_)
                              · replace hP := zE_p hP h229
                                exact zlR hP (show (1 : Int32) = i3 1 from rfl) ⟨by omega, by omega, by omega, by omega, by omega, by omega, by omega, by omega, by omega, by omega⟩
                              · replace hP := zE_n hP h229
                                have r230 := zH_k hZ 11 hb 0 8 (lo := 0) (hi := 4) (by decide) rfl
                                refine wz_br (i3L (zm_rd (Z := Z) (ν := ν) (k := 68) (show ((0 : Nat) : Int) = 0 from rfl) (show ((0 : Nat) : Int) = 0 from rfl) (show ((1 : Nat) : Int) = 1 from rfl)) (zm_rd (Z := Z) (ν := ν) (k := 11) (rfl : ((hb : Nat) : Int) = hb) (show ((0 : Nat) : Int) = 0 from rfl) (show ((8 : Nat) : Int) = 8 from rfl)) (by omega) (by omega) (by omega) (by omega)) (fun h231 => ?_) (fun h231 => ?_)
                                · replace hP := zE_p hP h231
                                  refine wz_br (i3E (zm_rd (Z := Z) (ν := ν) (k := 68) (show ((0 : Nat) : Int) = 0 from rfl) (show ((0 : Nat) : Int) = 0 from rfl) (show ((2 : Nat) : Int) = 2 from rfl)) (show (-1 : Int32) = i3 (-1) from rfl) (by omega) (by omega) (by omega) (by omega)) (fun h232 => ?_) (fun h232 => ?_)
                                  · replace hP := zE_p hP h232
                                    refine wz_i0 (i3O (n := 4) (zm_rd (Z := Z) (ν := ν) (k := 68) (show ((0 : Nat) : Int) = 0 from rfl) (show ((0 : Nat) : Int) = 0 from rfl) (show ((1 : Nat) : Int) = 1 from rfl)) (by omega) (by omega) (by omega)) ?_
                                    have r233 := zH_k hZ 50 hb (Z 68 0 0 1) 2 (lo := 0) (hi := 1) (by decide) rfl
                                    refine wz_br (i3NE (zm_rd (Z := Z) (ν := ν) (k := 50) (rfl : ((hb : Nat) : Int) = hb) (i3I (y := (Z 68 0 0 1)) (zm_rd (Z := Z) (ν := ν) (k := 68) (show ((0 : Nat) : Int) = 0 from rfl) (show ((0 : Nat) : Int) = 0 from rfl) (show ((1 : Nat) : Int) = 1 from rfl)) (by omega) (by omega) (by omega)) (show ((2 : Nat) : Int) = 2 from rfl)) (show (0 : Int32) = i3 0 from rfl) (by omega) (by omega) (by omega) (by omega)) (fun h234 => ?_) (fun h234 => ?_)
                                    · replace hP := zE_p hP h234
                                      exact zlR hP (show (3 : Int32) = i3 3 from rfl) ⟨by omega, by omega, by omega, by omega, by omega, by omega, by omega, by omega, by omega, by omega⟩
                                    · replace hP := zE_n hP h234
                                      exact zlR hP (show (0 : Int32) = i3 0 from rfl) ⟨by omega, by omega, by omega, by omega, by omega, by omega, by omega, by omega, by omega, by omega⟩
                                  · replace hP := zE_n hP h232
                                    have r235 := zH_k hZ 11 hb 0 13 (lo := 0) (hi := 671) (by decide) rfl
                                    refine wz_br (i3Le (zm_rd (Z := Z) (ν := ν) (k := 68) (show ((0 : Nat) : Int) = 0 from rfl) (show ((0 : Nat) : Int) = 0 from rfl) (show ((2 : Nat) : Int) = 2 from rfl)) (zm_rd (Z := Z) (ν := ν) (k := 11) (rfl : ((hb : Nat) : Int) = hb) (show ((0 : Nat) : Int) = 0 from rfl) (show ((13 : Nat) : Int) = 13 from rfl)) (by omega) (by omega) (by omega) (by omega)) (fun h236 => ?_) (fun h236 => ?_)
                                    · replace hP := zE_p hP h236
                                      exact zlR hP (show (2 : Int32) = i3 2 from rfl) ⟨by omega, by omega, by omega, by omega, by omega, by omega, by omega, by omega, by omega, by omega⟩
                                    · replace hP := zE_n hP h236
                                      refine wz_br (i3Le (zm_rd (Z := Z) (ν := ν) (k := 68) (show ((0 : Nat) : Int) = 0 from rfl) (show ((0 : Nat) : Int) = 0 from rfl) (show ((2 : Nat) : Int) = 2 from rfl)) (show (671 : Int32) = i3 671 from rfl) (by omega) (by omega) (by omega) (by omega)) (fun h237 => ?_) (fun h237 => ?_)
                                      · replace hP := zE_p hP h237
                                        refine wz_i0 (i3O (n := 4) (zm_rd (Z := Z) (ν := ν) (k := 68) (show ((0 : Nat) : Int) = 0 from rfl) (show ((0 : Nat) : Int) = 0 from rfl) (show ((1 : Nat) : Int) = 1 from rfl)) (by omega) (by omega) (by omega)) ?_
                                        have r238 := zH_k hZ 50 hb (Z 68 0 0 1) 2 (lo := 0) (hi := 1) (by decide) rfl
                                        refine wz_br (i3NE (zm_rd (Z := Z) (ν := ν) (k := 50) (rfl : ((hb : Nat) : Int) = hb) (i3I (y := (Z 68 0 0 1)) (zm_rd (Z := Z) (ν := ν) (k := 68) (show ((0 : Nat) : Int) = 0 from rfl) (show ((0 : Nat) : Int) = 0 from rfl) (show ((1 : Nat) : Int) = 1 from rfl)) (by omega) (by omega) (by omega)) (show ((2 : Nat) : Int) = 2 from rfl)) (show (0 : Int32) = i3 0 from rfl) (by omega) (by omega) (by omega) (by omega)) (fun h239 => ?_) (fun h239 => ?_)
                                        · replace hP := zE_p hP h239
                                          exact zlR hP (show (3 : Int32) = i3 3 from rfl) ⟨by omega, by omega, by omega, by omega, by omega, by omega, by omega, by omega, by omega, by omega⟩
                                        · replace hP := zE_n hP h239
                                          exact zlR hP (show (0 : Int32) = i3 0 from rfl) ⟨by omega, by omega, by omega, by omega, by omega, by omega, by omega, by omega, by omega, by omega⟩
                                      · replace hP := zE_n hP h237
                                        exact zlR hP (show (2 : Int32) = i3 2 from rfl) ⟨by omega, by omega, by omega, by omega, by omega, by omega, by omega, by omega, by omega, by omega⟩
                                · replace hP := zE_n hP h231
                                  exact zlR hP (show (1 : Int32) = i3 1 from rfl) ⟨by omega, by omega, by omega, by omega, by omega, by omega, by omega, by omega, by omega, by omega⟩
/- yX11_doTasks -/
def zl_196_1 : Nat → qz_Z → Int → Int → (qz_Z × Int × Int) ⊕ (qz_Z × Int)
  | 0, Z, x1, x2 => (.inl (Z, x1, x2))
  | m + 1, Z, x1, x2 => (if x2 < 0 then (.inl (Z, x1, x2)) else (if (Z 4 0 0 1) ≤ x2 then (.inl (Z, x1, x2)) else (if 120 ≤ x1 then (.inl (Z, x1, x2)) else (zlet2 (zf_158 Z x2) (fun Z5 v6 => (zlet (zf_123 Z5 0) (fun v7 => (if v7 = 0 then (if x1 ≠ 0 then (if (Z5 3 0 0 6) < 520 then (zlet (zpy Z5 68 0 0 61 0 (Z5 3 0 0 6) 0 7) (fun Z26 => (zlet (zu Z26 61 0 (Z26 3 0 0 6) 7 (Z26 11 0 0 16)) (fun Z30 => (zlet (zu Z30 11 0 0 16 (Z30 3 0 0 6)) (fun Z33 => (zlet (zu Z33 3 0 0 6 ((Z33 3 0 0 6) + 1)) (fun Z36 => (zlet2 (zf_121 Z36 0) (fun Z50 v51 => zl_196_1 m Z50 (x1 + 1) v6)))))))))) else (zlet2 (zf_121 Z5 0) (fun Z52 v53 => zl_196_1 m Z52 (x1 + 1) v6))) else (zlet (zu Z5 3 0 0 7 (((Z5 3 0 0 7) + 1) % 8)) (fun Z55 => (zlet (zcp Z55 0 (2 + (Z55 3 0 0 7))) (fun Z58 => (zlet (zu Z58 3 0 0 8 (min ((Z58 3 0 0 8) + 1) 8)) (fun Z60 => (zlet (zu Z60 11 0 0 15 (w3 ((Z60 11 0 0 15) + 1))) (fun Z63 => (if (Z63 3 0 0 6) < 520 then (zlet (zpy Z63 68 0 0 61 0 (Z63 3 0 0 6) 0 7) (fun Z66 => (zlet (zu Z66 61 0 (Z66 3 0 0 6) 7 (Z66 11 0 0 16)) (fun Z70 => (zlet (zu Z70 11 0 0 16 (Z70 3 0 0 6)) (fun Z73 => (zlet (zu Z73 3 0 0 6 ((Z73 3 0 0 6) + 1)) (fun Z76 => (zlet2 (zf_121 Z76 0) (fun Z90 v91 => zl_196_1 m Z90 (x1 + 1) v6)))))))))) else (zlet2 (zf_121 Z63 0) (fun Z105 v106 => zl_196_1 m Z105 (x1 + 1) v6)))))))))))) else (.inr (Z5, x1))))))))))
set_option maxHeartbeats 8000000 in
theorem sl_196_1 {s : zSM} {xM9 : Nat} {Zs Z : qz_Z} {ν : qz_N} (hZ : zH (zb s xM9) Z) (hM : s.2 + 7623 ≤ 1000000000) (hK : zC [3, 12, 13, 14, 40, 41, 42, 43, 44, 45, 46, 47, 48, 49, 50, 51, 52, 53, 54, 61, 68, 1099, 1100, 1101, 1102, 1103, 1104, 1105, 1106, 1107, 1108, 1109, 1110, 1111, 1112, 1113, 1114, 1115, 1116] Zs Z) {x1 : Int} (gx1 : 0 ≤ x1 ∧ x1 ≤ 120) {x2 : Int} (gx2 : -122 ≤ x2 ∧ x2 ≤ 120) (hU : zU [0, 2, 3, 4, 5, 6, 7, 8, 9] Zs Z) (hLt0 : zLt 0 Z) (hx9 : xM9 + 63 * ((120 - x1).toNat) + 63 ≤ 7623) {k : wz_K} {R : wz_R} {L : qz_L} (hL : qz_fg [true, true, true] L = [some (.inr (.inr (some (0, 0, 0)))), some (.inl (i3 x1)), some (.inl (i3 x2))]) {T : (qz_Z × Int × Int) ⊕ (qz_Z × Int)} (hP : zE T (zl_196_1 ((120 - x1).toNat + 1) Z x1 x2)) (hk : ∀ (L9 : qz_L) (Z9 : qz_Z) (yx1 yx2 : Int), qz_fg [false, true, false] L9 = [none, some (.inl (i3 yx1)), none] → zH (zb s 7623) Z9 → zC [3, 12, 13, 14, 40, 41, 42, 43, 44, 45, 46, 47, 48, 49, 50, 51, 52, 53, 54, 61, 68, 1099, 1100, 1101, 1102, 1103, 1104, 1105, 1106, 1107, 1108, 1109, 1110, 1111, 1112, 1113, 1114, 1115, 1116] Zs Z9 → zU [0, 2, 3, 4, 5, 6, 7, 8, 9] Zs Z9 → zLt 0 Z9 → (0 ≤ yx1 ∧ yx1 ≤ 120) → (-122 ≤ yx2 ∧ yx2 ≤ 120) → zE T (.inl (Z9, yx1, yx2)) → k 0 (L9, [], zm Z9 ν)) (hr : ∀ (Z8 : qz_Z) (v8 : Int), zH (zb s 7623) Z8 → zC [3, 12, 13, 14, 40, 41, 42, 43, 44, 45, 46, 47, 48, 49, 50, 51, 52, 53, 54, 61, 68, 1099, 1100, 1101, 1102, 1103, 1104, 1105, 1106, 1107, 1108, 1109, 1110, 1111, 1112, 1113, 1114, 1115, 1116] Zs Z8 → zU [0, 2, 3, 4, 5, 6, 7, 8, 9] Zs Z8 → zLt 0 Z8 → 0 ≤ v8 → v8 ≤ 119 → zE T (.inr (Z8, v8)) → R (zm Z8 ν) (.inl (some (.inl (i3 v8))))) : wz_loop qb_196_1 65536 k R (L, [], zm Z ν) := by
  refine wz_lp sb_196_1 (fun m x => ∃ xM9 : Nat, ∃ Z : qz_Z, ∃ x1 : Int, ∃ x2 : Int, qz_fg [true, true, true] x.1 = [some (.inr (.inr (some (0, 0, 0)))), some (.inl (i3 x1)), some (.inl (i3 x2))] ∧ x.2 = ([], zm Z ν) ∧ xM9 + 63 * m + 63 ≤ 7623 ∧ zH (zb s xM9) Z ∧ zC [3, 12, 13, 14, 40, 41, 42, 43, 44, 45, 46, 47, 48, 49, 50, 51, 52, 53, 54, 61, 68, 1099, 1100, 1101, 1102, 1103, 1104, 1105, 1106, 1107, 1108, 1109, 1110, 1111, 1112, 1113, 1114, 1115, 1116] Zs Z ∧ zU [0, 2, 3, 4, 5, 6, 7, 8, 9] Zs Z ∧ zLt 0 Z ∧ m = (120 - x1).toNat ∧ (0 ≤ x1 ∧ x1 ≤ 120) ∧ (-122 ≤ x2 ∧ x2 ≤ 120) ∧ zE T (zl_196_1 (m + 1) Z x1 x2)) ?_ 65536 ((120 - x1).toNat) _ (by omega) ⟨xM9, Z, x1, x2, hL, rfl, hx9, hZ, hK, hU, hLt0, rfl, gx1, gx2, hP⟩
  clear hP gx1 gx2 hx9 hZ hK hU hLt0 hL
  clear x1 x2
  clear Z
  clear xM9
  rintro m ⟨L, st, μ⟩ ⟨xM9, Z, x1, x2, hL, hx, hx9, hZ, hK, hU, hLt0, hm, gx1, gx2, hP⟩
  cases hx
  have hM9 : (zb s xM9).2 + 63 ≤ 1000000000 := by
    show s.2 + xM9 + 63 ≤ 1000000000
    omega
  refine fb_196_1 (i3 x1) (i3 x2) _ _ _ _ hL ?_
  refine wz_br (i3L (rfl : i3 x2 = i3 x2) (show (0 : Int32) = i3 0 from rfl) (by omega) (by omega) (by omega) (by omega)) (fun h1 => ?_) (fun h1 => ?_)
  · replace hP := zE_p hP h1
    exact hk _ _ _ _ (zconso rfl (zconso (zvo (rfl : i3 x1 = i3 x1)) (zconso rfl rfl))) (zbx0 hZ (by omega)) hK hU hLt0 (by omega) (by omega)  hP
  · replace hP := zE_n hP h1
    have r2 := zH_k hZ 4 0 0 1 (lo := 0) (hi := 120) (by decide) rfl
    refine wz_br (i3Le (zm_rd (Z := Z) (ν := ν) (k := 4) (show ((0 : Nat) : Int) = 0 from rfl) (show ((0 : Nat) : Int) = 0 from rfl) (show ((1 : Nat) : Int) = 1 from rfl)) (rfl : i3 x2 = i3 x2) (by omega) (by omega) (by omega) (by omega)) (fun h3 => ?_) (fun h3 => ?_)
    · replace hP := zE_p hP h3
      exact hk _ _ _ _ (zconso rfl (zconso (zvo (rfl : i3 x1 = i3 x1)) (zconso rfl rfl))) (zbx0 hZ (by omega)) hK hU hLt0 (by omega) (by omega)  hP
    · replace hP := zE_n hP h3
      refine wz_br (i3Le (show (120 : Int32) = i3 120 from rfl) (rfl : i3 x1 = i3 x1) (by omega) (by omega) (by omega) (by omega)) (fun h4 => ?_) (fun h4 => ?_)
      · replace hP := zE_p hP h4
        exact hk _ _ _ _ (zconso rfl (zconso (zvo (rfl : i3 x1 = i3 x1)) (zconso rfl rfl))) (zbx0 hZ (by omega)) hK hU hLt0 (by omega) (by omega)  hP
      · replace hP := zE_n hP h4
        obtain ⟨Z5, v6, hv6, c9, hZ5I, kZ5, jZ5, lv6, uv6⟩ := sp_158 (ν := ν) hZ (a1 := x2) (by omega) (zbh (c := 0) (k := 0) hM9 (Nat.le_of_ble_eq_true rfl))
        have hZ5U : zU [0, 2, 3, 4, 5, 6, 7, 8, 9] Zs Z5 := zU_t hU jZ5 zU_b0
        have hZ5K : zC [3, 12, 13, 14, 40, 41, 42, 43, 44, 45, 46, 47, 48, 49, 50, 51, 52, 53, 54, 61, 68, 1099, 1100, 1101, 1102, 1103, 1104, 1105, 1106, 1107, 1108, 1109, 1110, 1111, 1112, 1113, 1114, 1115, 1116] Zs Z5 := zC_t hK kZ5 (by decide)
        replace hP := zl_e2 hP hv6
        refine wz_cI_of (zas (zcons rfl (zcons (zvi (rfl : i3 x2 = i3 x2)) (zcons rfl rfl))) c9) ?_
        clear c9 hv6
        obtain ⟨v7, hv7, c9, lv7, uv7, wv70, wv71, wv72, wv73, wv74, wv75, wv76, wv77⟩ := sp_123 (ν := ν) hZ5I 0 (zbh (c := 0) (k := 0) hM9 (Nat.le_of_ble_eq_true rfl))
        replace hP := zl_e hP hv7
        refine wz_cI_of (zas (zcons rfl (zcons rfl rfl)) c9) ?_
        clear c9
        have r8 := zH_f hZ5I 68 0 0 0
        have r9 := zH_f hZ5I 68 0 0 1
        have r10 := zH_f hZ5I 68 0 0 2
        have r11 := zH_k hZ5I 48 0 (Z5 68 0 0 1) 5 (lo := 0) (hi := 12) (by decide) rfl
        have r12 := zH_f hZ5I 68 0 0 4
        have r13 := zH_f hZ5I 68 0 0 3
        have w14 : v7 ≠ 0 ∨ Z5 68 0 0 0 = 8 ∨ Z5 68 0 0 0 = 9 ∨ Z5 68 0 0 0 = 12 ∨ Z5 68 0 0 0 = 15 ∨ Z5 68 0 0 0 = 16 ∨ Z5 68 0 0 0 = 20 ∨ Z5 68 0 0 0 = 21 := wv70
        have w15 : v7 ≠ 0 ∨ Z5 68 0 0 0 ≠ 8 ∨ (0 ≤ Z5 68 0 0 1 ∧ Z5 68 0 0 1 ≤ 47 ∧ -1 ≤ Z5 68 0 0 2 ∧ Z5 68 0 0 2 ≤ 5) := wv71
        have w16 : v7 ≠ 0 ∨ Z5 68 0 0 0 ≠ 9 ∨ (0 ≤ Z5 68 0 0 1 ∧ Z5 68 0 0 1 ≤ 47) := wv72
        have w17 : v7 ≠ 0 ∨ Z5 68 0 0 0 ≠ 12 ∨ (0 ≤ Z5 68 0 0 1 ∧ Z5 68 0 0 1 ≤ 23) := wv73
        have w18 : v7 ≠ 0 ∨ Z5 68 0 0 0 ≠ 15 ∨ (0 ≤ Z5 68 0 0 1 ∧ Z5 68 0 0 1 ≤ 1 ∧ Z5 48 0 (Z5 68 0 0 1) 5 ≤ 11 ∧ 0 ≤ Z5 68 0 0 2 ∧ Z5 68 0 0 2 ≤ 47 ∧ 1 ≤ Z5 68 0 0 4 ∧ Z5 68 0 0 4 ≤ Z5 68 0 0 3 ∧ Z5 68 0 0 3 ≤ 9999) := wv74
        have w19 : v7 ≠ 0 ∨ Z5 68 0 0 0 ≠ 16 ∨ (0 ≤ Z5 68 0 0 1 ∧ Z5 68 0 0 1 ≤ 47) := wv75
        have w20 : v7 ≠ 0 ∨ Z5 68 0 0 0 ≠ 20 ∨ (0 ≤ Z5 68 0 0 1 ∧ Z5 68 0 0 1 ≤ 59 ∧ 0 ≤ Z5 68 0 0 2 ∧ Z5 68 0 0 2 ≤ 3) := wv76
        have w21 : v7 ≠ 0 ∨ Z5 68 0 0 0 ≠ 21 ∨ (0 ≤ Z5 68 0 0 1 ∧ Z5 68 0 0 1 ≤ 3 ∧ -1 ≤ Z5 68 0 0 2 ∧ Z5 68 0 0 2 ≤ 671) := wv77
        have hWf : zBox ((v7 ≠ 0 ∨ Z5 68 0 0 0 = 8 ∨ Z5 68 0 0 0 = 9 ∨ Z5 68 0 0 0 = 12 ∨ Z5 68 0 0 0 = 15 ∨ Z5 68 0 0 0 = 16 ∨ Z5 68 0 0 0 = 20 ∨ Z5 68 0 0 0 = 21) ∧ (v7 ≠ 0 ∨ Z5 68 0 0 0 ≠ 8 ∨ (0 ≤ Z5 68 0 0 1 ∧ Z5 68 0 0 1 ≤ 47 ∧ -1 ≤ Z5 68 0 0 2 ∧ Z5 68 0 0 2 ≤ 5)) ∧ (v7 ≠ 0 ∨ Z5 68 0 0 0 ≠ 9 ∨ (0 ≤ Z5 68 0 0 1 ∧ Z5 68 0 0 1 ≤ 47)) ∧ (v7 ≠ 0 ∨ Z5 68 0 0 0 ≠ 12 ∨ (0 ≤ Z5 68 0 0 1 ∧ Z5 68 0 0 1 ≤ 23)) ∧ (v7 ≠ 0 ∨ Z5 68 0 0 0 ≠ 15 ∨ (0 ≤ Z5 68 0 0 1 ∧ Z5 68 0 0 1 ≤ 1 ∧ Z5 48 0 (Z5 68 0 0 1) 5 ≤ 11 ∧ 0 ≤ Z5 68 0 0 2 ∧ Z5 68 0 0 2 ≤ 47 ∧ 1 ≤ Z5 68 0 0 4 ∧ Z5 68 0 0 4 ≤ Z5 68 0 0 3 ∧ Z5 68 0 0 3 ≤ 9999)) ∧ (v7 ≠ 0 ∨ Z5 68 0 0 0 ≠ 16 ∨ (0 ≤ Z5 68 0 0 1 ∧ Z5 68 0 0 1 ≤ 47)) ∧ (v7 ≠ 0 ∨ Z5 68 0 0 0 ≠ 20 ∨ (0 ≤ Z5 68 0 0 1 ∧ Z5 68 0 0 1 ≤ 59 ∧ 0 ≤ Z5 68 0 0 2 ∧ Z5 68 0 0 2 ≤ 3)) ∧ (v7 ≠ 0 ∨ Z5 68 0 0 0 ≠ 21 ∨ (0 ≤ Z5 68 0 0 1 ∧ Z5 68 0 0 1 ≤ 3 ∧ -1 ≤ Z5 68 0 0 2 ∧ Z5 68 0 0 2 ≤ 671))) := ⟨w14, w15, w16, w17, w18, w19, w20, w21⟩
        clear w14 w15 w16 w17 w18 w19 w20 w21 wv70 wv71 wv72 wv73 wv74 wv75 wv76 wv77
        refine wz_br (i3E (rfl : i3 v7 = i3 v7) (show (0 : Int32) = i3 0 from rfl) (by omega) (by omega) (by omega) (by omega)) (fun h22 => ?_) (fun h22 => ?_)
        · replace hP := zE_p hP h22
          refine wz_br (i3NE (rfl : i3 x1 = i3 x1) (show (0 : Int32) = i3 0 from rfl) (by omega) (by omega) (by omega) (by omega)) (fun h23 => ?_) (fun h23 => ?_)
          · replace hP := zE_p hP h23
            have r24 := zH_k hZ5I 3 0 0 6 (lo := 0) (hi := 520) (by decide) rfl
            refine wz_br (i3L (zm_rd (Z := Z5) (ν := ν) (k := 3) (show ((0 : Nat) : Int) = 0 from rfl) (show ((0 : Nat) : Int) = 0 from rfl) (show ((6 : Nat) : Int) = 6 from rfl)) (show (520 : Int32) = i3 520 from rfl) (by omega) (by omega) (by omega) (by omega)) (fun h25 => ?_) (fun h25 => ?_)
            · replace hP := zE_p hP h25
              refine wz_i0 (i3O (n := 520) (zm_rd (Z := Z5) (ν := ν) (k := 3) (show ((0 : Nat) : Int) = 0 from rfl) (show ((0 : Nat) : Int) = 0 from rfl) (show ((6 : Nat) : Int) = 6 from rfl)) (by omega) (by omega) (by omega)) ?_
              obtain ⟨Z26, hZ26⟩ := zx (zpy Z5 68 0 0 61 0 (Z5 3 0 0 6) 0 7)
              replace hP := zl_e hP hZ26
              refine ⟨zpy_c (d := 0) (l1 := 7) (l2 := 8) (show (7 : Int32) = i3 7 from rfl) rfl rfl (by omega) (by omega) (by omega), ?_⟩
              intro μ9 e9
              replace e9 := e9.trans (zm_py (ν := ν) (d := 0) hZ26 (show ((0 : Nat) : Int) = 0 from rfl) (show ((0 : Nat) : Int) = 0 from rfl) (show ((0 : Nat) : Int) = 0 from rfl) (i3I (y := (Z5 3 0 0 6)) (zm_rd (Z := Z5) (ν := ν) (k := 3) (show ((0 : Nat) : Int) = 0 from rfl) (show ((0 : Nat) : Int) = 0 from rfl) (show ((6 : Nat) : Int) = 6 from rfl)) (by omega) (by omega) (by omega)) (show (7 : Int32) = i3 7 from rfl) (by omega) (by omega))
              subst e9
              have hZ26I := zH_pk61 hZ5I hZ26
              have hZ26K : zC [3, 12, 13, 14, 40, 41, 42, 43, 44, 45, 46, 47, 48, 49, 50, 51, 52, 53, 54, 61, 68, 1099, 1100, 1101, 1102, 1103, 1104, 1105, 1106, 1107, 1108, 1109, 1110, 1111, 1112, 1113, 1114, 1115, 1116] Zs Z26 := zC_pk hZ5K hZ26 (by decide)
              have hZ26U : zU [0, 2, 3, 4, 5, 6, 7, 8, 9] Zs Z26 := zU_p hZ5U hZ26 (Or.inl rfl)
              have r27 := zH_k hZ26I 3 0 0 6 (lo := 0) (hi := 520) (by decide) rfl
              have q28 := zpy_o hZ26 (k' := 3) (b' := 0) (i' := 0) (j' := 6) (by decide)
              refine wz_i0 (i3O (n := 520) (zm_rd (Z := Z26) (ν := ν) (k := 3) (show ((0 : Nat) : Int) = 0 from rfl) (show ((0 : Nat) : Int) = 0 from rfl) (show ((6 : Nat) : Int) = 6 from rfl)) (by omega) (by omega) (by omega)) ?_
              have r29 := zH_k hZ26I 11 0 0 16 (lo := -1) (hi := 519) (by decide) rfl
              obtain ⟨Z30, hZ30⟩ := zx (zu Z26 61 0 (Z26 3 0 0 6) 7 (Z26 11 0 0 16))
              replace hP := zl_e hP hZ30
              have hZ30I := zH_u hZ26I hZ30 (lo := -2147483648) (hi := 2147483647) (by decide) rfl (by omega) ⟨by decide, by decide⟩ (Or.inl (by decide)) rfl
              have hZ30U : zU [0, 2, 3, 4, 5, 6, 7, 8, 9] Zs Z30 := zU_u hZ26U hZ30 (Or.inl rfl)
              have hZ30K : zC [3, 12, 13, 14, 40, 41, 42, 43, 44, 45, 46, 47, 48, 49, 50, 51, 52, 53, 54, 61, 68, 1099, 1100, 1101, 1102, 1103, 1104, 1105, 1106, 1107, 1108, 1109, 1110, 1111, 1112, 1113, 1114, 1115, 1116] Zs Z30 := zC_u hZ26K hZ30 (by decide)
              intro μ9 e9
              replace e9 := e9.trans (zm_wI (Z := Z26) (ν := ν) hZ30 (show ((0 : Nat) : Int) = 0 from rfl) (i3I (y := (Z26 3 0 0 6)) (zm_rd (Z := Z26) (ν := ν) (k := 3) (show ((0 : Nat) : Int) = 0 from rfl) (show ((0 : Nat) : Int) = 0 from rfl) (show ((6 : Nat) : Int) = 6 from rfl)) (by omega) (by omega) (by omega)) (show ((7 : Nat) : Int) = 7 from rfl) (zm_rd (Z := Z26) (ν := ν) (k := 11) (show ((0 : Nat) : Int) = 0 from rfl) (show ((0 : Nat) : Int) = 0 from rfl) (show ((16 : Nat) : Int) = 16 from rfl)))
              subst e9
              have r31 := zH_k hZ30I 3 0 0 6 (lo := 0) (hi := 520) (by decide) rfl
              have q32 := zu_ne (k' := 3) (b' := 0) (i' := 0) (j' := 6) hZ30 (fun q => absurd q.1 (by decide))
              obtain ⟨Z33, hZ33⟩ := zx (zu Z30 11 0 0 16 (Z30 3 0 0 6))
              replace hP := zl_e hP hZ33
              have hZ33I := zH_u hZ30I hZ33 (lo := -1) (hi := 519) (by decide) rfl (by omega) ⟨by decide, by decide⟩ (Or.inl (by decide)) rfl
              have hZ33U : zU [0, 2, 3, 4, 5, 6, 7, 8, 9] Zs Z33 := zU_u hZ30U hZ33 (Or.inr (List.Mem.head _))
              have hZ33K : zC [3, 12, 13, 14, 40, 41, 42, 43, 44, 45, 46, 47, 48, 49, 50, 51, 52, 53, 54, 61, 68, 1099, 1100, 1101, 1102, 1103, 1104, 1105, 1106, 1107, 1108, 1109, 1110, 1111, 1112, 1113, 1114, 1115, 1116] Zs Z33 := zC_u hZ30K hZ33 (by decide)
              intro μ9 e9
              replace e9 := e9.trans (zm_wI (Z := Z30) (ν := ν) hZ33 (show ((0 : Nat) : Int) = 0 from rfl) (show ((0 : Nat) : Int) = 0 from rfl) (show ((16 : Nat) : Int) = 16 from rfl) (zm_rd (Z := Z30) (ν := ν) (k := 3) (show ((0 : Nat) : Int) = 0 from rfl) (show ((0 : Nat) : Int) = 0 from rfl) (show ((6 : Nat) : Int) = 6 from rfl)))
              subst e9
              have r34 := zH_k hZ33I 3 0 0 6 (lo := 0) (hi := 520) (by decide) rfl
              have q35 := zu_ne (k' := 3) (b' := 0) (i' := 0) (j' := 6) hZ33 (fun q => absurd q.1 (by decide))
              obtain ⟨Z36, hZ36⟩ := zx (zu Z33 3 0 0 6 ((Z33 3 0 0 6) + 1))
              replace hP := zl_e hP hZ36
              have hZ36I := zH_u hZ33I hZ36 (lo := 0) (hi := 520) (by decide) rfl (by omega) ⟨by decide, by decide⟩ (Or.inl (by decide)) rfl
              have hZ36U : zU [0, 2, 3, 4, 5, 6, 7, 8, 9] Zs Z36 := zU_u hZ33U hZ36 (Or.inl rfl)
              have hZ36K : zC [3, 12, 13, 14, 40, 41, 42, 43, 44, 45, 46, 47, 48, 49, 50, 51, 52, 53, 54, 61, 68, 1099, 1100, 1101, 1102, 1103, 1104, 1105, 1106, 1107, 1108, 1109, 1110, 1111, 1112, 1113, 1114, 1115, 1116] Zs Z36 := zC_u hZ33K hZ36 (by decide)
              intro μ9 e9
              replace e9 := e9.trans (zm_wI (Z := Z33) (ν := ν) hZ36 (show ((0 : Nat) : Int) = 0 from rfl) (show ((0 : Nat) : Int) = 0 from rfl) (show ((6 : Nat) : Int) = 6 from rfl) (i3A (zm_rd (Z := Z33) (ν := ν) (k := 3) (show ((0 : Nat) : Int) = 0 from rfl) (show ((0 : Nat) : Int) = 0 from rfl) (show ((6 : Nat) : Int) = 6 from rfl)) (show (1 : Int32) = i3 1 from rfl)))
              subst e9
              have r37 := zH_k hZ36I 48 0 (Z5 68 0 0 1) 5 (lo := 0) (hi := 12) (by decide) rfl
              have q38 := (zu_ne (k' := 48) (b' := 0) (i' := (Z5 68 0 0 1)) (j' := 5) hZ36 (fun q => absurd q.1 (by decide))).trans ((zu_ne (k' := 48) (b' := 0) (i' := (Z5 68 0 0 1)) (j' := 5) hZ33 (fun q => absurd q.1 (by decide))).trans ((zu_ne (k' := 48) (b' := 0) (i' := (Z5 68 0 0 1)) (j' := 5) hZ30 (fun q => absurd q.1 (by decide))).trans (zpy_o hZ26 (k' := 48) (b' := 0) (i' := (Z5 68 0 0 1)) (j' := 5) (by decide))))
              have r39 := zH_f hZ36I 68 0 0 0
              have q40 := (zu_ne (k' := 68) (b' := 0) (i' := 0) (j' := 0) hZ36 (fun q => absurd q.1 (by decide))).trans ((zu_ne (k' := 68) (b' := 0) (i' := 0) (j' := 0) hZ33 (fun q => absurd q.1 (by decide))).trans ((zu_ne (k' := 68) (b' := 0) (i' := 0) (j' := 0) hZ30 (fun q => absurd q.1 (by decide))).trans (zpy_o hZ26 (k' := 68) (b' := 0) (i' := 0) (j' := 0) (by decide))))
              have r41 := zH_f hZ36I 68 0 0 1
              have q42 := (zu_ne (k' := 68) (b' := 0) (i' := 0) (j' := 1) hZ36 (fun q => absurd q.1 (by decide))).trans ((zu_ne (k' := 68) (b' := 0) (i' := 0) (j' := 1) hZ33 (fun q => absurd q.1 (by decide))).trans ((zu_ne (k' := 68) (b' := 0) (i' := 0) (j' := 1) hZ30 (fun q => absurd q.1 (by decide))).trans (zpy_o hZ26 (k' := 68) (b' := 0) (i' := 0) (j' := 1) (by decide))))
              have r43 := zH_f hZ36I 68 0 0 2
              have q44 := (zu_ne (k' := 68) (b' := 0) (i' := 0) (j' := 2) hZ36 (fun q => absurd q.1 (by decide))).trans ((zu_ne (k' := 68) (b' := 0) (i' := 0) (j' := 2) hZ33 (fun q => absurd q.1 (by decide))).trans ((zu_ne (k' := 68) (b' := 0) (i' := 0) (j' := 2) hZ30 (fun q => absurd q.1 (by decide))).trans (zpy_o hZ26 (k' := 68) (b' := 0) (i' := 0) (j' := 2) (by decide))))
              have r45 := zH_f hZ36I 68 0 0 3
              have q46 := (zu_ne (k' := 68) (b' := 0) (i' := 0) (j' := 3) hZ36 (fun q => absurd q.1 (by decide))).trans ((zu_ne (k' := 68) (b' := 0) (i' := 0) (j' := 3) hZ33 (fun q => absurd q.1 (by decide))).trans ((zu_ne (k' := 68) (b' := 0) (i' := 0) (j' := 3) hZ30 (fun q => absurd q.1 (by decide))).trans (zpy_o hZ26 (k' := 68) (b' := 0) (i' := 0) (j' := 3) (by decide))))
              have r47 := zH_f hZ36I 68 0 0 4
              have q48 := (zu_ne (k' := 68) (b' := 0) (i' := 0) (j' := 4) hZ36 (fun q => absurd q.1 (by decide))).trans ((zu_ne (k' := 68) (b' := 0) (i' := 0) (j' := 4) hZ33 (fun q => absurd q.1 (by decide))).trans ((zu_ne (k' := 68) (b' := 0) (i' := 0) (j' := 4) hZ30 (fun q => absurd q.1 (by decide))).trans (zpy_o hZ26 (k' := 68) (b' := 0) (i' := 0) (j' := 4) (by decide))))
              have xv : v7 = 0 := by omega
              have xa0 : Z36 68 0 0 0 = Z5 68 0 0 0 := by omega
              have xa1 : Z36 68 0 0 1 = Z5 68 0 0 1 := by omega
              have xa2 : Z36 68 0 0 2 = Z5 68 0 0 2 := by omega
              have xa3 : Z36 68 0 0 3 = Z5 68 0 0 3 := by omega
              have xa4 : Z36 68 0 0 4 = Z5 68 0 0 4 := by omega
              have xa5 : Z36 48 0 (Z5 68 0 0 1) 5 = Z5 48 0 (Z5 68 0 0 1) 5 := by omega
              obtain ⟨w14, w15, w16, w17, w18, w19, w20, w21⟩ := hWf
              have r49 := zH_k hZ36I 48 0 (Z36 68 0 0 1) 5 (lo := 0) (hi := 12) (by decide) rfl
              obtain ⟨Z50, v51, hv51, c9, hZ50I, kZ50, jZ50, lv51, uv51, tZ50_hb⟩ := sp_121 (ν := ν) hZ36I 0 (show Z36 68 0 0 0 = 8 ∨ Z36 68 0 0 0 = 9 ∨ Z36 68 0 0 0 = 12 ∨ Z36 68 0 0 0 = 15 ∨ Z36 68 0 0 0 = 16 ∨ Z36 68 0 0 0 = 20 ∨ Z36 68 0 0 0 = 21 from by simp only [xa0, xa1, xa2, xa3, xa4, xa5]; exact (w14.resolve_left (fun x => x xv))) (show Z36 68 0 0 0 = 8 → (0 ≤ Z36 68 0 0 1 ∧ Z36 68 0 0 1 ≤ 47 ∧ -1 ≤ Z36 68 0 0 2 ∧ Z36 68 0 0 2 ≤ 5) from by simp only [xa0, xa1, xa2, xa3, xa4, xa5]; exact fun h => (w15.resolve_left (fun x => x xv)).resolve_left (fun x => x h)) (show Z36 68 0 0 0 = 9 → (0 ≤ Z36 68 0 0 1 ∧ Z36 68 0 0 1 ≤ 47) from by simp only [xa0, xa1, xa2, xa3, xa4, xa5]; exact fun h => (w16.resolve_left (fun x => x xv)).resolve_left (fun x => x h)) (show Z36 68 0 0 0 = 12 → (0 ≤ Z36 68 0 0 1 ∧ Z36 68 0 0 1 ≤ 23) from by simp only [xa0, xa1, xa2, xa3, xa4, xa5]; exact fun h => (w17.resolve_left (fun x => x xv)).resolve_left (fun x => x h)) (show Z36 68 0 0 0 = 15 → (0 ≤ Z36 68 0 0 1 ∧ Z36 68 0 0 1 ≤ 1 ∧ Z36 48 0 (Z36 68 0 0 1) 5 ≤ 11 ∧ 0 ≤ Z36 68 0 0 2 ∧ Z36 68 0 0 2 ≤ 47 ∧ 1 ≤ Z36 68 0 0 4 ∧ Z36 68 0 0 4 ≤ Z36 68 0 0 3 ∧ Z36 68 0 0 3 ≤ 9999) from by simp only [xa0, xa1, xa2, xa3, xa4, xa5]; exact fun h => (w18.resolve_left (fun x => x xv)).resolve_left (fun x => x h)) (show Z36 68 0 0 0 = 16 → (0 ≤ Z36 68 0 0 1 ∧ Z36 68 0 0 1 ≤ 47) from by simp only [xa0, xa1, xa2, xa3, xa4, xa5]; exact fun h => (w19.resolve_left (fun x => x xv)).resolve_left (fun x => x h)) (show Z36 68 0 0 0 = 20 → (0 ≤ Z36 68 0 0 1 ∧ Z36 68 0 0 1 ≤ 59 ∧ 0 ≤ Z36 68 0 0 2 ∧ Z36 68 0 0 2 ≤ 3) from by simp only [xa0, xa1, xa2, xa3, xa4, xa5]; exact fun h => (w20.resolve_left (fun x => x xv)).resolve_left (fun x => x h)) (show Z36 68 0 0 0 = 21 → (0 ≤ Z36 68 0 0 1 ∧ Z36 68 0 0 1 ≤ 3 ∧ -1 ≤ Z36 68 0 0 2 ∧ Z36 68 0 0 2 ≤ 671) from by simp only [xa0, xa1, xa2, xa3, xa4, xa5]; exact fun h => (w21.resolve_left (fun x => x xv)).resolve_left (fun x => x h)) (zLt_o (zLt_o (zLt_o (zLt_p (zLt_c hLt0 kZ5 rfl) hZ26 ⟨by decide, by decide⟩) hZ30 ⟨by decide, .inl (by decide)⟩) hZ33 ⟨by decide, .inl (by decide)⟩) hZ36 ⟨by decide, .inl (by decide)⟩) (zbh (c := 0) (k := 63) hM9 (Nat.le_of_ble_eq_true rfl))
              have hZ50U : zU [0, 2, 3, 4, 5, 6, 7, 8, 9] Zs Z50 := zU_t hZ36U jZ50 (zU_b1 (List.Mem.head _) zU_b0)
              have hZ50K : zC [3, 12, 13, 14, 40, 41, 42, 43, 44, 45, 46, 47, 48, 49, 50, 51, 52, 53, 54, 61, 68, 1099, 1100, 1101, 1102, 1103, 1104, 1105, 1106, 1107, 1108, 1109, 1110, 1111, 1112, 1113, 1114, 1115, 1116] Zs Z50 := zC_t hZ36K kZ50 (by decide)
              replace hP := zl_e2 hP hv51
              refine wz_cI_of (zas (zcons rfl (zcons rfl rfl)) c9) ?_
              clear c9 hv51
              clear w14 w15 w16 w17 w18 w19 w20 w21
              obtain ⟨m2, rfl⟩ : ∃ m2, m = m2 + 1 := ⟨m - 1, by omega⟩
              exact wz_k1 ⟨m2, by omega, xM9 + 63, Z50, (x1 + 1), v6, (zconso rfl (zconso (zvo (i3A (rfl : i3 x1 = i3 x1) (show (1 : Int32) = i3 1 from rfl))) (zconso (zvo (rfl : i3 v6 = i3 v6)) rfl))), rfl, by omega, (zbt hZ50I rfl), hZ50K, hZ50U, tZ50_hb, by omega, by omega, by omega,  hP⟩
            · replace hP := zE_n hP h25
              have xv : v7 = 0 := by omega
              obtain ⟨w14, w15, w16, w17, w18, w19, w20, w21⟩ := hWf
              obtain ⟨Z52, v53, hv53, c9, hZ52I, kZ52, jZ52, lv53, uv53, tZ52_hb⟩ := sp_121 (ν := ν) hZ5I 0 (show Z5 68 0 0 0 = 8 ∨ Z5 68 0 0 0 = 9 ∨ Z5 68 0 0 0 = 12 ∨ Z5 68 0 0 0 = 15 ∨ Z5 68 0 0 0 = 16 ∨ Z5 68 0 0 0 = 20 ∨ Z5 68 0 0 0 = 21 from by exact (w14.resolve_left (fun x => x xv))) (show Z5 68 0 0 0 = 8 → (0 ≤ Z5 68 0 0 1 ∧ Z5 68 0 0 1 ≤ 47 ∧ -1 ≤ Z5 68 0 0 2 ∧ Z5 68 0 0 2 ≤ 5) from by exact fun h => (w15.resolve_left (fun x => x xv)).resolve_left (fun x => x h)) (show Z5 68 0 0 0 = 9 → (0 ≤ Z5 68 0 0 1 ∧ Z5 68 0 0 1 ≤ 47) from by exact fun h => (w16.resolve_left (fun x => x xv)).resolve_left (fun x => x h)) (show Z5 68 0 0 0 = 12 → (0 ≤ Z5 68 0 0 1 ∧ Z5 68 0 0 1 ≤ 23) from by exact fun h => (w17.resolve_left (fun x => x xv)).resolve_left (fun x => x h)) (show Z5 68 0 0 0 = 15 → (0 ≤ Z5 68 0 0 1 ∧ Z5 68 0 0 1 ≤ 1 ∧ Z5 48 0 (Z5 68 0 0 1) 5 ≤ 11 ∧ 0 ≤ Z5 68 0 0 2 ∧ Z5 68 0 0 2 ≤ 47 ∧ 1 ≤ Z5 68 0 0 4 ∧ Z5 68 0 0 4 ≤ Z5 68 0 0 3 ∧ Z5 68 0 0 3 ≤ 9999) from by exact fun h => (w18.resolve_left (fun x => x xv)).resolve_left (fun x => x h)) (show Z5 68 0 0 0 = 16 → (0 ≤ Z5 68 0 0 1 ∧ Z5 68 0 0 1 ≤ 47) from by exact fun h => (w19.resolve_left (fun x => x xv)).resolve_left (fun x => x h)) (show Z5 68 0 0 0 = 20 → (0 ≤ Z5 68 0 0 1 ∧ Z5 68 0 0 1 ≤ 59 ∧ 0 ≤ Z5 68 0 0 2 ∧ Z5 68 0 0 2 ≤ 3) from by exact fun h => (w20.resolve_left (fun x => x xv)).resolve_left (fun x => x h)) (show Z5 68 0 0 0 = 21 → (0 ≤ Z5 68 0 0 1 ∧ Z5 68 0 0 1 ≤ 3 ∧ -1 ≤ Z5 68 0 0 2 ∧ Z5 68 0 0 2 ≤ 671) from by exact fun h => (w21.resolve_left (fun x => x xv)).resolve_left (fun x => x h)) (zLt_c hLt0 kZ5 rfl) (zbh (c := 0) (k := 63) hM9 (Nat.le_of_ble_eq_true rfl))
              have hZ52U : zU [0, 2, 3, 4, 5, 6, 7, 8, 9] Zs Z52 := zU_t hZ5U jZ52 (zU_b1 (List.Mem.head _) zU_b0)
              have hZ52K : zC [3, 12, 13, 14, 40, 41, 42, 43, 44, 45, 46, 47, 48, 49, 50, 51, 52, 53, 54, 61, 68, 1099, 1100, 1101, 1102, 1103, 1104, 1105, 1106, 1107, 1108, 1109, 1110, 1111, 1112, 1113, 1114, 1115, 1116] Zs Z52 := zC_t hZ5K kZ52 (by decide)
              replace hP := zl_e2 hP hv53
              refine wz_cI_of (zas (zcons rfl (zcons rfl rfl)) c9) ?_
              clear c9 hv53
              clear w14 w15 w16 w17 w18 w19 w20 w21
              obtain ⟨m2, rfl⟩ : ∃ m2, m = m2 + 1 := ⟨m - 1, by omega⟩
              exact wz_k1 ⟨m2, by omega, xM9 + 63, Z52, (x1 + 1), v6, (zconso rfl (zconso (zvo (i3A (rfl : i3 x1 = i3 x1) (show (1 : Int32) = i3 1 from rfl))) (zconso (zvo (rfl : i3 v6 = i3 v6)) rfl))), rfl, by omega, (zbt hZ52I rfl), hZ52K, hZ52U, tZ52_hb, by omega, by omega, by omega,  hP⟩
          · replace hP := zE_n hP h23
            have r54 := zH_k hZ5I 3 0 0 7 (lo := 0) (hi := 7) (by decide) rfl
            obtain ⟨Z55, hZ55⟩ := zx (zu Z5 3 0 0 7 (((Z5 3 0 0 7) + 1) % 8))
            replace hP := zl_e hP hZ55
            have hZ55I := zH_u hZ5I hZ55 (lo := 0) (hi := 7) (by decide) rfl (by omega) ⟨by decide, by decide⟩ (Or.inl (by decide)) rfl
            have hZ55U : zU [0, 2, 3, 4, 5, 6, 7, 8, 9] Zs Z55 := zU_u hZ5U hZ55 (Or.inl rfl)
            have hZ55K : zC [3, 12, 13, 14, 40, 41, 42, 43, 44, 45, 46, 47, 48, 49, 50, 51, 52, 53, 54, 61, 68, 1099, 1100, 1101, 1102, 1103, 1104, 1105, 1106, 1107, 1108, 1109, 1110, 1111, 1112, 1113, 1114, 1115, 1116] Zs Z55 := zC_u hZ5K hZ55 (by decide)
            intro μ9 e9
            replace e9 := e9.trans (zm_wI (Z := Z5) (ν := ν) hZ55 (show ((0 : Nat) : Int) = 0 from rfl) (show ((0 : Nat) : Int) = 0 from rfl) (show ((7 : Nat) : Int) = 7 from rfl) (i3R (i3A (zm_rd (Z := Z5) (ν := ν) (k := 3) (show ((0 : Nat) : Int) = 0 from rfl) (show ((0 : Nat) : Int) = 0 from rfl) (show ((7 : Nat) : Int) = 7 from rfl)) (show (1 : Int32) = i3 1 from rfl)) (show (8 : Int32) = i3 8 from rfl) (by omega) (by omega) (by omega) (by omega)))
            subst e9
            have r56 := zH_k hZ55I 3 0 0 7 (lo := 0) (hi := 7) (by decide) rfl
            have q57 := zu_at hZ55
            refine wz_i0 (i3O (n := 8) (zm_rd (Z := Z55) (ν := ν) (k := 3) (show ((0 : Nat) : Int) = 0 from rfl) (show ((0 : Nat) : Int) = 0 from rfl) (show ((7 : Nat) : Int) = 7 from rfl)) (by omega) (by omega) (by omega)) ?_
            obtain ⟨Z58, hZ58, c9, hZ58I, kZ58, gZ58⟩ := zH_cpe (ν := ν) hZ55I (show ((0 : Nat) : Int) = 0 from rfl) (zn_add (n := 2) (i3I (y := (Z55 3 0 0 7)) (zm_rd (Z := Z55) (ν := ν) (k := 3) (show ((0 : Nat) : Int) = 0 from rfl) (show ((0 : Nat) : Int) = 0 from rfl) (show ((7 : Nat) : Int) = 7 from rfl)) (by omega) (by omega) (by omega))) (by omega)
            have fZ58 : zC [12, 13, 14, 40, 41, 42, 43, 44, 45, 46, 47, 48, 49, 50, 51, 52, 53, 54, 1099, 1100, 1101, 1102, 1103, 1104, 1105, 1106, 1107, 1108, 1109, 1110, 1111, 1112, 1113, 1114, 1115, 1116] Z55 Z58 := zC_k kZ58 (by decide) (by decide)
            have aZ58 : ∀ {k : Nat} {i j : Int}, zhk k i j = true → Z58 k (2 + (Z55 3 0 0 7)) i j = Z55 k 0 i j := fun hk => zcp_at hZ58 hk
            have hZ58K : zC [3, 12, 13, 14, 40, 41, 42, 43, 44, 45, 46, 47, 48, 49, 50, 51, 52, 53, 54, 61, 68, 1099, 1100, 1101, 1102, 1103, 1104, 1105, 1106, 1107, 1108, 1109, 1110, 1111, 1112, 1113, 1114, 1115, 1116] Zs Z58 := zC_t hZ55K fZ58 (by decide)
            have jZ58 : zU [(2 + (Z55 3 0 0 7))] Z55 Z58 := zU_cp hZ58
            have hZ58U : zU [0, 2, 3, 4, 5, 6, 7, 8, 9] Zs Z58 := zU_t hZ55U jZ58 (zU_b1 (zU_29 (by omega) (zU_b1 (List.Mem.tail _ (List.Mem.head _)) (zU_b1 (List.Mem.tail _ (List.Mem.tail _ (List.Mem.head _))) (zU_b1 (List.Mem.tail _ (List.Mem.tail _ (List.Mem.tail _ (List.Mem.head _)))) (zU_b1 (List.Mem.tail _ (List.Mem.tail _ (List.Mem.tail _ (List.Mem.tail _ (List.Mem.head _))))) (zU_b1 (List.Mem.tail _ (List.Mem.tail _ (List.Mem.tail _ (List.Mem.tail _ (List.Mem.tail _ (List.Mem.head _)))))) (zU_b1 (List.Mem.tail _ (List.Mem.tail _ (List.Mem.tail _ (List.Mem.tail _ (List.Mem.tail _ (List.Mem.tail _ (List.Mem.head _))))))) (zU_b1 (List.Mem.tail _ (List.Mem.tail _ (List.Mem.tail _ (List.Mem.tail _ (List.Mem.tail _ (List.Mem.tail _ (List.Mem.tail _ (List.Mem.head _)))))))) (zU_b1 (List.Mem.tail _ (List.Mem.tail _ (List.Mem.tail _ (List.Mem.tail _ (List.Mem.tail _ (List.Mem.tail _ (List.Mem.tail _ (List.Mem.tail _ (List.Mem.head _))))))))) zU_b0))))))))) zU_b0)
            replace hP := zl_e hP hZ58
            refine wz_cV_of c9 ?_
            clear c9
            have r59 := zH_k hZ58I 3 0 0 8 (lo := 0) (hi := 8) (by decide) rfl
            obtain ⟨Z60, hZ60⟩ := zx (zu Z58 3 0 0 8 (min ((Z58 3 0 0 8) + 1) 8))
            replace hP := zl_e hP hZ60
            have hZ60I := zH_u hZ58I hZ60 (lo := 0) (hi := 8) (by decide) rfl (by omega) ⟨by decide, by decide⟩ (Or.inl (by decide)) rfl
            have hZ60U : zU [0, 2, 3, 4, 5, 6, 7, 8, 9] Zs Z60 := zU_u hZ58U hZ60 (Or.inl rfl)
            have hZ60K : zC [3, 12, 13, 14, 40, 41, 42, 43, 44, 45, 46, 47, 48, 49, 50, 51, 52, 53, 54, 61, 68, 1099, 1100, 1101, 1102, 1103, 1104, 1105, 1106, 1107, 1108, 1109, 1110, 1111, 1112, 1113, 1114, 1115, 1116] Zs Z60 := zC_u hZ58K hZ60 (by decide)
            intro μ9 e9
            replace e9 := e9.trans (zm_wI (Z := Z58) (ν := ν) hZ60 (show ((0 : Nat) : Int) = 0 from rfl) (show ((0 : Nat) : Int) = 0 from rfl) (show ((8 : Nat) : Int) = 8 from rfl) (i3Mn (i3A (zm_rd (Z := Z58) (ν := ν) (k := 3) (show ((0 : Nat) : Int) = 0 from rfl) (show ((0 : Nat) : Int) = 0 from rfl) (show ((8 : Nat) : Int) = 8 from rfl)) (show (1 : Int32) = i3 1 from rfl)) (show (8 : Int32) = i3 8 from rfl) (by omega) (by omega) (by omega) (by omega)))
            subst e9
            have r61 := zH_f hZ60I 11 0 0 15
            have r62 := w3_r ((Z60 11 0 0 15) + 1)
            obtain ⟨Z63, hZ63⟩ := zx (zu Z60 11 0 0 15 (w3 ((Z60 11 0 0 15) + 1)))
            replace hP := zl_e hP hZ63
            have hZ63I := zH_u hZ60I hZ63 (lo := -2147483648) (hi := 2147483647) (by decide) rfl (by omega) ⟨by decide, by decide⟩ (Or.inl (by decide)) rfl
            have hZ63U : zU [0, 2, 3, 4, 5, 6, 7, 8, 9] Zs Z63 := zU_u hZ60U hZ63 (Or.inr (List.Mem.head _))
            have hZ63K : zC [3, 12, 13, 14, 40, 41, 42, 43, 44, 45, 46, 47, 48, 49, 50, 51, 52, 53, 54, 61, 68, 1099, 1100, 1101, 1102, 1103, 1104, 1105, 1106, 1107, 1108, 1109, 1110, 1111, 1112, 1113, 1114, 1115, 1116] Zs Z63 := zC_u hZ60K hZ63 (by decide)
            intro μ9 e9
            replace e9 := e9.trans (zm_wI (Z := Z60) (ν := ν) hZ63 (show ((0 : Nat) : Int) = 0 from rfl) (show ((0 : Nat) : Int) = 0 from rfl) (show ((15 : Nat) : Int) = 15 from rfl) (i3W (i3A (zm_rd (Z := Z60) (ν := ν) (k := 11) (show ((0 : Nat) : Int) = 0 from rfl) (show ((0 : Nat) : Int) = 0 from rfl) (show ((15 : Nat) : Int) = 15 from rfl)) (show (1 : Int32) = i3 1 from rfl))))
            subst e9
            have r64 := zH_k hZ63I 3 0 0 6 (lo := 0) (hi := 520) (by decide) rfl
            refine wz_br (i3L (zm_rd (Z := Z63) (ν := ν) (k := 3) (show ((0 : Nat) : Int) = 0 from rfl) (show ((0 : Nat) : Int) = 0 from rfl) (show ((6 : Nat) : Int) = 6 from rfl)) (show (520 : Int32) = i3 520 from rfl) (by omega) (by omega) (by omega) (by omega)) (fun h65 => ?_) (fun h65 => ?_)
            · replace hP := zE_p hP h65
              refine wz_i0 (i3O (n := 520) (zm_rd (Z := Z63) (ν := ν) (k := 3) (show ((0 : Nat) : Int) = 0 from rfl) (show ((0 : Nat) : Int) = 0 from rfl) (show ((6 : Nat) : Int) = 6 from rfl)) (by omega) (by omega) (by omega)) ?_
              obtain ⟨Z66, hZ66⟩ := zx (zpy Z63 68 0 0 61 0 (Z63 3 0 0 6) 0 7)
              replace hP := zl_e hP hZ66
              refine ⟨zpy_c (d := 0) (l1 := 7) (l2 := 8) (show (7 : Int32) = i3 7 from rfl) rfl rfl (by omega) (by omega) (by omega), ?_⟩
              intro μ9 e9
              replace e9 := e9.trans (zm_py (ν := ν) (d := 0) hZ66 (show ((0 : Nat) : Int) = 0 from rfl) (show ((0 : Nat) : Int) = 0 from rfl) (show ((0 : Nat) : Int) = 0 from rfl) (i3I (y := (Z63 3 0 0 6)) (zm_rd (Z := Z63) (ν := ν) (k := 3) (show ((0 : Nat) : Int) = 0 from rfl) (show ((0 : Nat) : Int) = 0 from rfl) (show ((6 : Nat) : Int) = 6 from rfl)) (by omega) (by omega) (by omega)) (show (7 : Int32) = i3 7 from rfl) (by omega) (by omega))
              subst e9
              have hZ66I := zH_pk61 hZ63I hZ66
              have hZ66K : zC [3, 12, 13, 14, 40, 41, 42, 43, 44, 45, 46, 47, 48, 49, 50, 51, 52, 53, 54, 61, 68, 1099, 1100, 1101, 1102, 1103, 1104, 1105, 1106, 1107, 1108, 1109, 1110, 1111, 1112, 1113, 1114, 1115, 1116] Zs Z66 := zC_pk hZ63K hZ66 (by decide)
              have hZ66U : zU [0, 2, 3, 4, 5, 6, 7, 8, 9] Zs Z66 := zU_p hZ63U hZ66 (Or.inl rfl)
              have r67 := zH_k hZ66I 3 0 0 6 (lo := 0) (hi := 520) (by decide) rfl
              have q68 := zpy_o hZ66 (k' := 3) (b' := 0) (i' := 0) (j' := 6) (by decide)
              refine wz_i0 (i3O (n := 520) (zm_rd (Z := Z66) (ν := ν) (k := 3) (show ((0 : Nat) : Int) = 0 from rfl) (show ((0 : Nat) : Int) = 0 from rfl) (show ((6 : Nat) : Int) = 6 from rfl)) (by omega) (by omega) (by omega)) ?_
              have r69 := zH_k hZ66I 11 0 0 16 (lo := -1) (hi := 519) (by decide) rfl
              obtain ⟨Z70, hZ70⟩ := zx (zu Z66 61 0 (Z66 3 0 0 6) 7 (Z66 11 0 0 16))
              replace hP := zl_e hP hZ70
              have hZ70I := zH_u hZ66I hZ70 (lo := -2147483648) (hi := 2147483647) (by decide) rfl (by omega) ⟨by decide, by decide⟩ (Or.inl (by decide)) rfl
              have hZ70U : zU [0, 2, 3, 4, 5, 6, 7, 8, 9] Zs Z70 := zU_u hZ66U hZ70 (Or.inl rfl)
              have hZ70K : zC [3, 12, 13, 14, 40, 41, 42, 43, 44, 45, 46, 47, 48, 49, 50, 51, 52, 53, 54, 61, 68, 1099, 1100, 1101, 1102, 1103, 1104, 1105, 1106, 1107, 1108, 1109, 1110, 1111, 1112, 1113, 1114, 1115, 1116] Zs Z70 := zC_u hZ66K hZ70 (by decide)
              intro μ9 e9
              replace e9 := e9.trans (zm_wI (Z := Z66) (ν := ν) hZ70 (show ((0 : Nat) : Int) = 0 from rfl) (i3I (y := (Z66 3 0 0 6)) (zm_rd (Z := Z66) (ν := ν) (k := 3) (show ((0 : Nat) : Int) = 0 from rfl) (show ((0 : Nat) : Int) = 0 from rfl) (show ((6 : Nat) : Int) = 6 from rfl)) (by omega) (by omega) (by omega)) (show ((7 : Nat) : Int) = 7 from rfl) (zm_rd (Z := Z66) (ν := ν) (k := 11) (show ((0 : Nat) : Int) = 0 from rfl) (show ((0 : Nat) : Int) = 0 from rfl) (show ((16 : Nat) : Int) = 16 from rfl)))
              subst e9
              have r71 := zH_k hZ70I 3 0 0 6 (lo := 0) (hi := 520) (by decide) rfl
              have q72 := zu_ne (k' := 3) (b' := 0) (i' := 0) (j' := 6) hZ70 (fun q => absurd q.1 (by decide))
              obtain ⟨Z73, hZ73⟩ := zx (zu Z70 11 0 0 16 (Z70 3 0 0 6))
              replace hP := zl_e hP hZ73
              have hZ73I := zH_u hZ70I hZ73 (lo := -1) (hi := 519) (by decide) rfl (by omega) ⟨by decide, by decide⟩ (Or.inl (by decide)) rfl
              have hZ73U : zU [0, 2, 3, 4, 5, 6, 7, 8, 9] Zs Z73 := zU_u hZ70U hZ73 (Or.inr (List.Mem.head _))
              have hZ73K : zC [3, 12, 13, 14, 40, 41, 42, 43, 44, 45, 46, 47, 48, 49, 50, 51, 52, 53, 54, 61, 68, 1099, 1100, 1101, 1102, 1103, 1104, 1105, 1106, 1107, 1108, 1109, 1110, 1111, 1112, 1113, 1114, 1115, 1116] Zs Z73 := zC_u hZ70K hZ73 (by decide)
              intro μ9 e9
              replace e9 := e9.trans (zm_wI (Z := Z70) (ν := ν) hZ73 (show ((0 : Nat) : Int) = 0 from rfl) (show ((0 : Nat) : Int) = 0 from rfl) (show ((16 : Nat) : Int) = 16 from rfl) (zm_rd (Z := Z70) (ν := ν) (k := 3) (show ((0 : Nat) : Int) = 0 from rfl) (show ((0 : Nat) : Int) = 0 from rfl) (show ((6 : Nat) : Int) = 6 from rfl)))
              subst e9
              have r74 := zH_k hZ73I 3 0 0 6 (lo := 0) (hi := 520) (by decide) rfl
              have q75 := zu_ne (k' := 3) (b' := 0) (i' := 0) (j' := 6) hZ73 (fun q => absurd q.1 (by decide))
              obtain ⟨Z76, hZ76⟩ := zx (zu Z73 3 0 0 6 ((Z73 3 0 0 6) + 1))
              replace hP := zl_e hP hZ76
              have hZ76I := zH_u hZ73I hZ76 (lo := 0) (hi := 520) (by decide) rfl (by omega) ⟨by decide, by decide⟩ (Or.inl (by decide)) rfl
              have hZ76U : zU [0, 2, 3, 4, 5, 6, 7, 8, 9] Zs Z76 := zU_u hZ73U hZ76 (Or.inl rfl)
              have hZ76K : zC [3, 12, 13, 14, 40, 41, 42, 43, 44, 45, 46, 47, 48, 49, 50, 51, 52, 53, 54, 61, 68, 1099, 1100, 1101, 1102, 1103, 1104, 1105, 1106, 1107, 1108, 1109, 1110, 1111, 1112, 1113, 1114, 1115, 1116] Zs Z76 := zC_u hZ73K hZ76 (by decide)
              intro μ9 e9
              replace e9 := e9.trans (zm_wI (Z := Z73) (ν := ν) hZ76 (show ((0 : Nat) : Int) = 0 from rfl) (show ((0 : Nat) : Int) = 0 from rfl) (show ((6 : Nat) : Int) = 6 from rfl) (i3A (zm_rd (Z := Z73) (ν := ν) (k := 3) (show ((0 : Nat) : Int) = 0 from rfl) (show ((0 : Nat) : Int) = 0 from rfl) (show ((6 : Nat) : Int) = 6 from rfl)) (show (1 : Int32) = i3 1 from rfl)))
              subst e9
              have r77 := zH_k hZ76I 48 0 (Z5 68 0 0 1) 5 (lo := 0) (hi := 12) (by decide) rfl
              have q78 := (zu_ne (k' := 48) (b' := 0) (i' := (Z5 68 0 0 1)) (j' := 5) hZ76 (fun q => absurd q.1 (by decide))).trans ((zu_ne (k' := 48) (b' := 0) (i' := (Z5 68 0 0 1)) (j' := 5) hZ73 (fun q => absurd q.1 (by decide))).trans ((zu_ne (k' := 48) (b' := 0) (i' := (Z5 68 0 0 1)) (j' := 5) hZ70 (fun q => absurd q.1 (by decide))).trans ((zpy_o hZ66 (k' := 48) (b' := 0) (i' := (Z5 68 0 0 1)) (j' := 5) (by decide)).trans ((zu_ne (k' := 48) (b' := 0) (i' := (Z5 68 0 0 1)) (j' := 5) hZ63 (fun q => absurd q.1 (by decide))).trans ((zu_ne (k' := 48) (b' := 0) (i' := (Z5 68 0 0 1)) (j' := 5) hZ60 (fun q => absurd q.1 (by decide))).trans ((gZ58 48 0 (Z5 68 0 0 1) 5 (by omega)).trans (zu_ne (k' := 48) (b' := 0) (i' := (Z5 68 0 0 1)) (j' := 5) hZ55 (fun q => absurd q.1 (by decide)))))))))
              have r79 := zH_f hZ76I 68 0 0 0
              have q80 := (zu_ne (k' := 68) (b' := 0) (i' := 0) (j' := 0) hZ76 (fun q => absurd q.1 (by decide))).trans ((zu_ne (k' := 68) (b' := 0) (i' := 0) (j' := 0) hZ73 (fun q => absurd q.1 (by decide))).trans ((zu_ne (k' := 68) (b' := 0) (i' := 0) (j' := 0) hZ70 (fun q => absurd q.1 (by decide))).trans ((zpy_o hZ66 (k' := 68) (b' := 0) (i' := 0) (j' := 0) (by decide)).trans ((zu_ne (k' := 68) (b' := 0) (i' := 0) (j' := 0) hZ63 (fun q => absurd q.1 (by decide))).trans ((zu_ne (k' := 68) (b' := 0) (i' := 0) (j' := 0) hZ60 (fun q => absurd q.1 (by decide))).trans ((gZ58 68 0 0 0 (by omega)).trans (zu_ne (k' := 68) (b' := 0) (i' := 0) (j' := 0) hZ55 (fun q => absurd q.1 (by decide)))))))))
              have r81 := zH_f hZ76I 68 0 0 1
              have q82 := (zu_ne (k' := 68) (b' := 0) (i' := 0) (j' := 1) hZ76 (fun q => absurd q.1 (by decide))).trans ((zu_ne (k' := 68) (b' := 0) (i' := 0) (j' := 1) hZ73 (fun q => absurd q.1 (by decide))).trans ((zu_ne (k' := 68) (b' := 0) (i' := 0) (j' := 1) hZ70 (fun q => absurd q.1 (by decide))).trans ((zpy_o hZ66 (k' := 68) (b' := 0) (i' := 0) (j' := 1) (by decide)).trans ((zu_ne (k' := 68) (b' := 0) (i' := 0) (j' := 1) hZ63 (fun q => absurd q.1 (by decide))).trans ((zu_ne (k' := 68) (b' := 0) (i' := 0) (j' := 1) hZ60 (fun q => absurd q.1 (by decide))).trans ((gZ58 68 0 0 1 (by omega)).trans (zu_ne (k' := 68) (b' := 0) (i' := 0) (j' := 1) hZ55 (fun q => absurd q.1 (by decide)))))))))
              have r83 := zH_f hZ76I 68 0 0 2
              have q84 := (zu_ne (k' := 68) (b' := 0) (i' := 0) (j' := 2) hZ76 (fun q => absurd q.1 (by decide))).trans ((zu_ne (k' := 68) (b' := 0) (i' := 0) (j' := 2) hZ73 (fun q => absurd q.1 (by decide))).trans ((zu_ne (k' := 68) (b' := 0) (i' := 0) (j' := 2) hZ70 (fun q => absurd q.1 (by decide))).trans ((zpy_o hZ66 (k' := 68) (b' := 0) (i' := 0) (j' := 2) (by decide)).trans ((zu_ne (k' := 68) (b' := 0) (i' := 0) (j' := 2) hZ63 (fun q => absurd q.1 (by decide))).trans ((zu_ne (k' := 68) (b' := 0) (i' := 0) (j' := 2) hZ60 (fun q => absurd q.1 (by decide))).trans ((gZ58 68 0 0 2 (by omega)).trans (zu_ne (k' := 68) (b' := 0) (i' := 0) (j' := 2) hZ55 (fun q => absurd q.1 (by decide)))))))))
              have r85 := zH_f hZ76I 68 0 0 3
              have q86 := (zu_ne (k' := 68) (b' := 0) (i' := 0) (j' := 3) hZ76 (fun q => absurd q.1 (by decide))).trans ((zu_ne (k' := 68) (b' := 0) (i' := 0) (j' := 3) hZ73 (fun q => absurd q.1 (by decide))).trans ((zu_ne (k' := 68) (b' := 0) (i' := 0) (j' := 3) hZ70 (fun q => absurd q.1 (by decide))).trans ((zpy_o hZ66 (k' := 68) (b' := 0) (i' := 0) (j' := 3) (by decide)).trans ((zu_ne (k' := 68) (b' := 0) (i' := 0) (j' := 3) hZ63 (fun q => absurd q.1 (by decide))).trans ((zu_ne (k' := 68) (b' := 0) (i' := 0) (j' := 3) hZ60 (fun q => absurd q.1 (by decide))).trans ((gZ58 68 0 0 3 (by omega)).trans (zu_ne (k' := 68) (b' := 0) (i' := 0) (j' := 3) hZ55 (fun q => absurd q.1 (by decide)))))))))
              have r87 := zH_f hZ76I 68 0 0 4
              have q88 := (zu_ne (k' := 68) (b' := 0) (i' := 0) (j' := 4) hZ76 (fun q => absurd q.1 (by decide))).trans ((zu_ne (k' := 68) (b' := 0) (i' := 0) (j' := 4) hZ73 (fun q => absurd q.1 (by decide))).trans ((zu_ne (k' := 68) (b' := 0) (i' := 0) (j' := 4) hZ70 (fun q => absurd q.1 (by decide))).trans ((zpy_o hZ66 (k' := 68) (b' := 0) (i' := 0) (j' := 4) (by decide)).trans ((zu_ne (k' := 68) (b' := 0) (i' := 0) (j' := 4) hZ63 (fun q => absurd q.1 (by decide))).trans ((zu_ne (k' := 68) (b' := 0) (i' := 0) (j' := 4) hZ60 (fun q => absurd q.1 (by decide))).trans ((gZ58 68 0 0 4 (by omega)).trans (zu_ne (k' := 68) (b' := 0) (i' := 0) (j' := 4) hZ55 (fun q => absurd q.1 (by decide)))))))))
              have xv : v7 = 0 := by omega
              have xa0 : Z76 68 0 0 0 = Z5 68 0 0 0 := by omega
              have xa1 : Z76 68 0 0 1 = Z5 68 0 0 1 := by omega
              have xa2 : Z76 68 0 0 2 = Z5 68 0 0 2 := by omega
              have xa3 : Z76 68 0 0 3 = Z5 68 0 0 3 := by omega
              have xa4 : Z76 68 0 0 4 = Z5 68 0 0 4 := by omega
              have xa5 : Z76 48 0 (Z5 68 0 0 1) 5 = Z5 48 0 (Z5 68 0 0 1) 5 := by omega
              obtain ⟨w14, w15, w16, w17, w18, w19, w20, w21⟩ := hWf
              have r89 := zH_k hZ76I 48 0 (Z76 68 0 0 1) 5 (lo := 0) (hi := 12) (by decide) rfl
              obtain ⟨Z90, v91, hv91, c9, hZ90I, kZ90, jZ90, lv91, uv91, tZ90_hb⟩ := sp_121 (ν := ν) hZ76I 0 (show Z76 68 0 0 0 = 8 ∨ Z76 68 0 0 0 = 9 ∨ Z76 68 0 0 0 = 12 ∨ Z76 68 0 0 0 = 15 ∨ Z76 68 0 0 0 = 16 ∨ Z76 68 0 0 0 = 20 ∨ Z76 68 0 0 0 = 21 from by simp only [xa0, xa1, xa2, xa3, xa4, xa5]; exact (w14.resolve_left (fun x => x xv))) (show Z76 68 0 0 0 = 8 → (0 ≤ Z76 68 0 0 1 ∧ Z76 68 0 0 1 ≤ 47 ∧ -1 ≤ Z76 68 0 0 2 ∧ Z76 68 0 0 2 ≤ 5) from by simp only [xa0, xa1, xa2, xa3, xa4, xa5]; exact fun h => (w15.resolve_left (fun x => x xv)).resolve_left (fun x => x h)) (show Z76 68 0 0 0 = 9 → (0 ≤ Z76 68 0 0 1 ∧ Z76 68 0 0 1 ≤ 47) from by simp only [xa0, xa1, xa2, xa3, xa4, xa5]; exact fun h => (w16.resolve_left (fun x => x xv)).resolve_left (fun x => x h)) (show Z76 68 0 0 0 = 12 → (0 ≤ Z76 68 0 0 1 ∧ Z76 68 0 0 1 ≤ 23) from by simp only [xa0, xa1, xa2, xa3, xa4, xa5]; exact fun h => (w17.resolve_left (fun x => x xv)).resolve_left (fun x => x h)) (show Z76 68 0 0 0 = 15 → (0 ≤ Z76 68 0 0 1 ∧ Z76 68 0 0 1 ≤ 1 ∧ Z76 48 0 (Z76 68 0 0 1) 5 ≤ 11 ∧ 0 ≤ Z76 68 0 0 2 ∧ Z76 68 0 0 2 ≤ 47 ∧ 1 ≤ Z76 68 0 0 4 ∧ Z76 68 0 0 4 ≤ Z76 68 0 0 3 ∧ Z76 68 0 0 3 ≤ 9999) from by simp only [xa0, xa1, xa2, xa3, xa4, xa5]; exact fun h => (w18.resolve_left (fun x => x xv)).resolve_left (fun x => x h)) (show Z76 68 0 0 0 = 16 → (0 ≤ Z76 68 0 0 1 ∧ Z76 68 0 0 1 ≤ 47) from by simp only [xa0, xa1, xa2, xa3, xa4, xa5]; exact fun h => (w19.resolve_left (fun x => x xv)).resolve_left (fun x => x h)) (show Z76 68 0 0 0 = 20 → (0 ≤ Z76 68 0 0 1 ∧ Z76 68 0 0 1 ≤ 59 ∧ 0 ≤ Z76 68 0 0 2 ∧ Z76 68 0 0 2 ≤ 3) from by simp only [xa0, xa1, xa2, xa3, xa4, xa5]; exact fun h => (w20.resolve_left (fun x => x xv)).resolve_left (fun x => x h)) (show Z76 68 0 0 0 = 21 → (0 ≤ Z76 68 0 0 1 ∧ Z76 68 0 0 1 ≤ 3 ∧ -1 ≤ Z76 68 0 0 2 ∧ Z76 68 0 0 2 ≤ 671) from by simp only [xa0, xa1, xa2, xa3, xa4, xa5]; exact fun h => (w21.resolve_left (fun x => x xv)).resolve_left (fun x => x h)) (zLt_o (zLt_o (zLt_o (zLt_p (zLt_o (zLt_o (zLt_n (zLt_o (zLt_c hLt0 kZ5 rfl) hZ55 ⟨by decide, .inl (by decide)⟩) jZ58 (by simp <;> omega)) hZ60 ⟨by decide, .inl (by decide)⟩) hZ63 ⟨by decide, .inl (by decide)⟩) hZ66 ⟨by decide, by decide⟩) hZ70 ⟨by decide, .inl (by decide)⟩) hZ73 ⟨by decide, .inl (by decide)⟩) hZ76 ⟨by decide, .inl (by decide)⟩) (zbh (c := 0) (k := 63) hM9 (Nat.le_of_ble_eq_true rfl))
              have hZ90U : zU [0, 2, 3, 4, 5, 6, 7, 8, 9] Zs Z90 := zU_t hZ76U jZ90 (zU_b1 (List.Mem.head _) zU_b0)
              have hZ90K : zC [3, 12, 13, 14, 40, 41, 42, 43, 44, 45, 46, 47, 48, 49, 50, 51, 52, 53, 54, 61, 68, 1099, 1100, 1101, 1102, 1103, 1104, 1105, 1106, 1107, 1108, 1109, 1110, 1111, 1112, 1113, 1114, 1115, 1116] Zs Z90 := zC_t hZ76K kZ90 (by decide)
              replace hP := zl_e2 hP hv91
              refine wz_cI_of (zas (zcons rfl (zcons rfl rfl)) c9) ?_
              clear c9 hv91
              clear w14 w15 w16 w17 w18 w19 w20 w21
              obtain ⟨m2, rfl⟩ : ∃ m2, m = m2 + 1 := ⟨m - 1, by omega⟩
              exact wz_k1 ⟨m2, by omega, xM9 + 63, Z90, (x1 + 1), v6, (zconso rfl (zconso (zvo (i3A (rfl : i3 x1 = i3 x1) (show (1 : Int32) = i3 1 from rfl))) (zconso (zvo (rfl : i3 v6 = i3 v6)) rfl))), rfl, by omega, (zbt hZ90I rfl), hZ90K, hZ90U, tZ90_hb, by omega, by omega, by omega,  hP⟩
            · replace hP := zE_n hP h65
              have r92 := zH_k hZ63I 48 0 (Z5 68 0 0 1) 5 (lo := 0) (hi := 12) (by decide) rfl
              have q93 := (zu_ne (k' := 48) (b' := 0) (i' := (Z5 68 0 0 1)) (j' := 5) hZ63 (fun q => absurd q.1 (by decide))).trans ((zu_ne (k' := 48) (b' := 0) (i' := (Z5 68 0 0 1)) (j' := 5) hZ60 (fun q => absurd q.1 (by decide))).trans ((gZ58 48 0 (Z5 68 0 0 1) 5 (by omega)).trans (zu_ne (k' := 48) (b' := 0) (i' := (Z5 68 0 0 1)) (j' := 5) hZ55 (fun q => absurd q.1 (by decide)))))
              have r94 := zH_f hZ63I 68 0 0 0
              have q95 := (zu_ne (k' := 68) (b' := 0) (i' := 0) (j' := 0) hZ63 (fun q => absurd q.1 (by decide))).trans ((zu_ne (k' := 68) (b' := 0) (i' := 0) (j' := 0) hZ60 (fun q => absurd q.1 (by decide))).trans ((gZ58 68 0 0 0 (by omega)).trans (zu_ne (k' := 68) (b' := 0) (i' := 0) (j' := 0) hZ55 (fun q => absurd q.1 (by decide)))))
              have r96 := zH_f hZ63I 68 0 0 1
              have q97 := (zu_ne (k' := 68) (b' := 0) (i' := 0) (j' := 1) hZ63 (fun q => absurd q.1 (by decide))).trans ((zu_ne (k' := 68) (b' := 0) (i' := 0) (j' := 1) hZ60 (fun q => absurd q.1 (by decide))).trans ((gZ58 68 0 0 1 (by omega)).trans (zu_ne (k' := 68) (b' := 0) (i' := 0) (j' := 1) hZ55 (fun q => absurd q.1 (by decide)))))
              have r98 := zH_f hZ63I 68 0 0 2
              have q99 := (zu_ne (k' := 68) (b' := 0) (i' := 0) (j' := 2) hZ63 (fun q => absurd q.1 (by decide))).trans ((zu_ne (k' := 68) (b' := 0) (i' := 0) (j' := 2) hZ60 (fun q => absurd q.1 (by decide))).trans ((gZ58 68 0 0 2 (by omega)).trans (zu_ne (k' := 68) (b' := 0) (i' := 0) (j' := 2) hZ55 (fun q => absurd q.1 (by decide)))))
              have r100 := zH_f hZ63I 68 0 0 3
              have q101 := (zu_ne (k' := 68) (b' := 0) (i' := 0) (j' := 3) hZ63 (fun q => absurd q.1 (by decide))).trans ((zu_ne (k' := 68) (b' := 0) (i' := 0) (j' := 3) hZ60 (fun q => absurd q.1 (by decide))).trans ((gZ58 68 0 0 3 (by omega)).trans (zu_ne (k' := 68) (b' := 0) (i' := 0) (j' := 3) hZ55 (fun q => absurd q.1 (by decide)))))
              have r102 := zH_f hZ63I 68 0 0 4
              have q103 := (zu_ne (k' := 68) (b' := 0) (i' := 0) (j' := 4) hZ63 (fun q => absurd q.1 (by decide))).trans ((zu_ne (k' := 68) (b' := 0) (i' := 0) (j' := 4) hZ60 (fun q => absurd q.1 (by decide))).trans ((gZ58 68 0 0 4 (by omega)).trans (zu_ne (k' := 68) (b' := 0) (i' := 0) (j' := 4) hZ55 (fun q => absurd q.1 (by decide)))))
              have xv : v7 = 0 := by omega
              have xa0 : Z63 68 0 0 0 = Z5 68 0 0 0 := by omega
              have xa1 : Z63 68 0 0 1 = Z5 68 0 0 1 := by omega
              have xa2 : Z63 68 0 0 2 = Z5 68 0 0 2 := by omega
              have xa3 : Z63 68 0 0 3 = Z5 68 0 0 3 := by omega
              have xa4 : Z63 68 0 0 4 = Z5 68 0 0 4 := by omega
              have xa5 : Z63 48 0 (Z5 68 0 0 1) 5 = Z5 48 0 (Z5 68 0 0 1) 5 := by omega
              obtain ⟨w14, w15, w16, w17, w18, w19, w20, w21⟩ := hWf
              have r104 := zH_k hZ63I 48 0 (Z63 68 0 0 1) 5 (lo := 0) (hi := 12) (by decide) rfl
              obtain ⟨Z105, v106, hv106, c9, hZ105I, kZ105, jZ105, lv106, uv106, tZ105_hb⟩ := sp_121 (ν := ν) hZ63I 0 (show Z63 68 0 0 0 = 8 ∨ Z63 68 0 0 0 = 9 ∨ Z63 68 0 0 0 = 12 ∨ Z63 68 0 0 0 = 15 ∨ Z63 68 0 0 0 = 16 ∨ Z63 68 0 0 0 = 20 ∨ Z63 68 0 0 0 = 21 from by simp only [xa0, xa1, xa2, xa3, xa4, xa5]; exact (w14.resolve_left (fun x => x xv))) (show Z63 68 0 0 0 = 8 → (0 ≤ Z63 68 0 0 1 ∧ Z63 68 0 0 1 ≤ 47 ∧ -1 ≤ Z63 68 0 0 2 ∧ Z63 68 0 0 2 ≤ 5) from by simp only [xa0, xa1, xa2, xa3, xa4, xa5]; exact fun h => (w15.resolve_left (fun x => x xv)).resolve_left (fun x => x h)) (show Z63 68 0 0 0 = 9 → (0 ≤ Z63 68 0 0 1 ∧ Z63 68 0 0 1 ≤ 47) from by simp only [xa0, xa1, xa2, xa3, xa4, xa5]; exact fun h => (w16.resolve_left (fun x => x xv)).resolve_left (fun x => x h)) (show Z63 68 0 0 0 = 12 → (0 ≤ Z63 68 0 0 1 ∧ Z63 68 0 0 1 ≤ 23) from by simp only [xa0, xa1, xa2, xa3, xa4, xa5]; exact fun h => (w17.resolve_left (fun x => x xv)).resolve_left (fun x => x h)) (show Z63 68 0 0 0 = 15 → (0 ≤ Z63 68 0 0 1 ∧ Z63 68 0 0 1 ≤ 1 ∧ Z63 48 0 (Z63 68 0 0 1) 5 ≤ 11 ∧ 0 ≤ Z63 68 0 0 2 ∧ Z63 68 0 0 2 ≤ 47 ∧ 1 ≤ Z63 68 0 0 4 ∧ Z63 68 0 0 4 ≤ Z63 68 0 0 3 ∧ Z63 68 0 0 3 ≤ 9999) from by simp only [xa0, xa1, xa2, xa3, xa4, xa5]; exact fun h => (w18.resolve_left (fun x => x xv)).resolve_left (fun x => x h)) (show Z63 68 0 0 0 = 16 → (0 ≤ Z63 68 0 0 1 ∧ Z63 68 0 0 1 ≤ 47) from by simp only [xa0, xa1, xa2, xa3, xa4, xa5]; exact fun h => (w19.resolve_left (fun x => x xv)).resolve_left (fun x => x h)) (show Z63 68 0 0 0 = 20 → (0 ≤ Z63 68 0 0 1 ∧ Z63 68 0 0 1 ≤ 59 ∧ 0 ≤ Z63 68 0 0 2 ∧ Z63 68 0 0 2 ≤ 3) from by simp only [xa0, xa1, xa2, xa3, xa4, xa5]; exact fun h => (w20.resolve_left (fun x => x xv)).resolve_left (fun x => x h)) (show Z63 68 0 0 0 = 21 → (0 ≤ Z63 68 0 0 1 ∧ Z63 68 0 0 1 ≤ 3 ∧ -1 ≤ Z63 68 0 0 2 ∧ Z63 68 0 0 2 ≤ 671) from by simp only [xa0, xa1, xa2, xa3, xa4, xa5]; exact fun h => (w21.resolve_left (fun x => x xv)).resolve_left (fun x => x h)) (zLt_o (zLt_o (zLt_n (zLt_o (zLt_c hLt0 kZ5 rfl) hZ55 ⟨by decide, .inl (by decide)⟩) jZ58 (by simp <;> omega)) hZ60 ⟨by decide, .inl (by decide)⟩) hZ63 ⟨by decide, .inl (by decide)⟩) (zbh (c := 0) (k := 63) hM9 (Nat.le_of_ble_eq_true rfl))
              have hZ105U : zU [0, 2, 3, 4, 5, 6, 7, 8, 9] Zs Z105 := zU_t hZ63U jZ105 (zU_b1 (List.Mem.head _) zU_b0)
              have hZ105K : zC [3, 12, 13, 14, 40, 41, 42, 43, 44, 45, 46, 47, 48, 49, 50, 51, 52, 53, 54, 61, 68, 1099, 1100, 1101, 1102, 1103, 1104, 1105, 1106, 1107, 1108, 1109, 1110, 1111, 1112, 1113, 1114, 1115, 1116] Zs Z105 := zC_t hZ63K kZ105 (by decide)
              replace hP := zl_e2 hP hv106
              refine wz_cI_of (zas (zcons rfl (zcons rfl rfl)) c9) ?_
              clear c9 hv106
              clear w14 w15 w16 w17 w18 w19 w20 w21
              obtain ⟨m2, rfl⟩ : ∃ m2, m = m2 + 1 := ⟨m - 1, by omega⟩
              exact wz_k1 ⟨m2, by omega, xM9 + 63, Z105, (x1 + 1), v6, (zconso rfl (zconso (zvo (i3A (rfl : i3 x1 = i3 x1) (show (1 : Int32) = i3 1 from rfl))) (zconso (zvo (rfl : i3 v6 = i3 v6)) rfl))), rfl, by omega, (zbt hZ105I rfl), hZ105K, hZ105U, tZ105_hb, by omega, by omega, by omega,  hP⟩
        · replace hP := zE_n hP h22
          rw [(rfl : i3 x1 = i3 x1)]
          exact hr _ _ (zbx0 hZ5I (by omega)) hZ5K hZ5U (zLt_c hLt0 kZ5 rfl) (by omega) (by omega) hP
/- yX11_doTasks -/
def zf_196 (Z : qz_Z) : qz_Z × Int := (zsum (zl_196_1 121 Z 0 0) (fun q => zlet3 q (fun Z3 y1 y2 => (Z3, y1))) (fun r => r))
theorem sp_196 {s : zSM} {Z : qz_Z} {ν : qz_N} (hZ : zH s Z) (hLt0 : zLt 0 Z) (hM : s.2 + 7623 ≤ 1000000000) : ∃ (Z1 : qz_Z) (P : Int), (Z1, P) = zf_196 Z ∧ (qf_196 [.inr (.inr (some (0, 0, 0)))] (zm Z ν) = some (zm Z1 ν, .inl (some (.inl (i3 P)))) ∧ zH (zb s 7623) Z1 ∧ zC [3, 12, 13, 14, 40, 41, 42, 43, 44, 45, 46, 47, 48, 49, 50, 51, 52, 53, 54, 61, 68, 1099, 1100, 1101, 1102, 1103, 1104, 1105, 1106, 1107, 1108, 1109, 1110, 1111, 1112, 1113, 1114, 1115, 1116] Z Z1 ∧ zU [0, 2, 3, 4, 5, 6, 7, 8, 9] Z Z1 ∧ 0 ≤ P ∧ P ≤ 120 ∧ zLt 0 Z1) := by
  obtain ⟨P, hP⟩ := zx (zf_196 Z)
  refine zc_W (Q := fun Z1 P => zH (zb s 7623) Z1 ∧ zC [3, 12, 13, 14, 40, 41, 42, 43, 44, 45, 46, 47, 48, 49, 50, 51, 52, 53, 54, 61, 68, 1099, 1100, 1101, 1102, 1103, 1104, 1105, 1106, 1107, 1108, 1109, 1110, 1111, 1112, 1113, 1114, 1115, 1116] Z Z1 ∧ zU [0, 2, 3, 4, 5, 6, 7, 8, 9] Z Z1 ∧ 0 ≤ P ∧ P ≤ 120 ∧ zLt 0 Z1) hP (fw_196  _ _ ?_)
  replace hP : zE P (zf_196 Z) := hP
  unfold zf_196 at hP
  refine sl_196_1 (ν := ν) (zb0 hZ) (zbh (c := 0) (k := 7623) hM (Nat.le_of_ble_eq_true rfl)) (xM9 := 0) zC_r (x1 := 0) (by omega) (x2 := 0) (by omega) zU_r hLt0 (Nat.le_of_ble_eq_true rfl)  (zconso rfl (zconso (zvo (show (0 : Int32) = i3 0 from rfl)) (zconso (zvo (show (0 : Int32) = i3 0 from rfl)) rfl))) rfl ?_ ?_
  · intro L4 Z3 y1 y2 hL4 hZ3I kZ3 jZ3 tZ3_0 gy1 gy2 q9
    replace hP := zl_sl3 hP (Eq.symm q9)
    clear q9
    have hZ3U : zU [0, 2, 3, 4, 5, 6, 7, 8, 9] Z Z3 := zU_t zU_r jZ3 (zU_b1 (List.Mem.head _) (zU_b1 (List.Mem.tail _ (List.Mem.head _)) (zU_b1 (List.Mem.tail _ (List.Mem.tail _ (List.Mem.head _))) (zU_b1 (List.Mem.tail _ (List.Mem.tail _ (List.Mem.tail _ (List.Mem.head _)))) (zU_b1 (List.Mem.tail _ (List.Mem.tail _ (List.Mem.tail _ (List.Mem.tail _ (List.Mem.head _))))) (zU_b1 (List.Mem.tail _ (List.Mem.tail _ (List.Mem.tail _ (List.Mem.tail _ (List.Mem.tail _ (List.Mem.head _)))))) (zU_b1 (List.Mem.tail _ (List.Mem.tail _ (List.Mem.tail _ (List.Mem.tail _ (List.Mem.tail _ (List.Mem.tail _ (List.Mem.head _))))))) (zU_b1 (List.Mem.tail _ (List.Mem.tail _ (List.Mem.tail _ (List.Mem.tail _ (List.Mem.tail _ (List.Mem.tail _ (List.Mem.tail _ (List.Mem.head _)))))))) (zU_b1 (List.Mem.tail _ (List.Mem.tail _ (List.Mem.tail _ (List.Mem.tail _ (List.Mem.tail _ (List.Mem.tail _ (List.Mem.tail _ (List.Mem.tail _ (List.Mem.head _))))))))) zU_b0)))))))))
    have hZ3K : zC [3, 12, 13, 14, 40, 41, 42, 43, 44, 45, 46, 47, 48, 49, 50, 51, 52, 53, 54, 61, 68, 1099, 1100, 1101, 1102, 1103, 1104, 1105, 1106, 1107, 1108, 1109, 1110, 1111, 1112, 1113, 1114, 1115, 1116] Z Z3 := zC_t zC_r kZ3 (by decide)
    refine fc_196_2 (i3 y1) _ _ _ _ hL4 ?_
    exact zlW hP (rfl : i3 y1 = i3 y1) ⟨hZ3I, hZ3K, hZ3U, by omega, by omega, tZ3_0⟩
  · intro Z8 v8 hZ8 k8 j8 t8_0 l8 u8 q8
    replace hP := zl_sr hP (Eq.symm q8)
    have hU8 : zU [0, 2, 3, 4, 5, 6, 7, 8, 9] Z Z8 := zU_t zU_r j8 (zU_b1 (List.Mem.head _) (zU_b1 (List.Mem.tail _ (List.Mem.head _)) (zU_b1 (List.Mem.tail _ (List.Mem.tail _ (List.Mem.head _))) (zU_b1 (List.Mem.tail _ (List.Mem.tail _ (List.Mem.tail _ (List.Mem.head _)))) (zU_b1 (List.Mem.tail _ (List.Mem.tail _ (List.Mem.tail _ (List.Mem.tail _ (List.Mem.head _))))) (zU_b1 (List.Mem.tail _ (List.Mem.tail _ (List.Mem.tail _ (List.Mem.tail _ (List.Mem.tail _ (List.Mem.head _)))))) (zU_b1 (List.Mem.tail _ (List.Mem.tail _ (List.Mem.tail _ (List.Mem.tail _ (List.Mem.tail _ (List.Mem.tail _ (List.Mem.head _))))))) (zU_b1 (List.Mem.tail _ (List.Mem.tail _ (List.Mem.tail _ (List.Mem.tail _ (List.Mem.tail _ (List.Mem.tail _ (List.Mem.tail _ (List.Mem.head _)))))))) (zU_b1 (List.Mem.tail _ (List.Mem.tail _ (List.Mem.tail _ (List.Mem.tail _ (List.Mem.tail _ (List.Mem.tail _ (List.Mem.tail _ (List.Mem.tail _ (List.Mem.head _))))))))) zU_b0)))))))))
    have hK8 : zC [3, 12, 13, 14, 40, 41, 42, 43, 44, 45, 46, 47, 48, 49, 50, 51, 52, 53, 54, 61, 68, 1099, 1100, 1101, 1102, 1103, 1104, 1105, 1106, 1107, 1108, 1109, 1110, 1111, 1112, 1113, 1114, 1115, 1116] Z Z8 := zC_t zC_r k8 (by decide)
    exact zlW hP rfl ⟨hZ8, hK8, hU8, by omega, by omega, t8_0⟩
/- yX11_tasks -/
def zx_248 (Z : qz_Z) : qz_Z × Int × Int := (zlet2 (zf_151 Z) (fun Z1 v2 => (if v2 ≠ 0 then (zlet (zu Z1 4 0 0 1 0) (fun Z4 => (Z4, v2, 0))) else (zlet2 (zf_196 Z1) (fun Z5 v6 => (zlet (zu Z5 4 0 0 1 0) (fun Z7 => (Z7, v6, 0))))))))
theorem sx_248 {M : Nat} {Z : qz_Z} {ν : qz_N} (hZ : zH ((none, M) : zSM) Z) (hM : ((none, M) : zSM).2 + 7623 ≤ 1000000000) (hLt0 : zLt 0 Z) : ∃ (Z1 : qz_Z) (ν1 : qz_N) (v E : Int), (Z1, v, E) = zx_248 Z ∧ qf_248 [.inr (.inr (some (0, 0, 0)))] (zm Z ν) = some (zm Z1 ν1, zoX v E) ∧ (fun Z1 ν1 => zH (zb ((none, M) : zSM) 7623) Z1 ∧ zC [3, 4, 12, 13, 14, 40, 41, 42, 43, 44, 45, 46, 47, 48, 49, 50, 51, 52, 53, 54, 61, 68, 1099, 1100, 1101, 1102, 1103, 1104, 1105, 1106, 1107, 1108, 1109, 1110, 1111, 1112, 1113, 1114, 1115, 1116] Z Z1 ∧ zU [0, 2, 3, 4, 5, 6, 7, 8, 9] Z Z1 ∧ zG 1 6 ν ν1) Z1 ν1 := by
  obtain ⟨P, hP⟩ := zx (zx_248 Z)
  refine zc_G (Q := fun Z1 ν1 => zH (zb ((none, M) : zSM) 7623) Z1 ∧ zC [3, 4, 12, 13, 14, 40, 41, 42, 43, 44, 45, 46, 47, 48, 49, 50, 51, 52, 53, 54, 61, 68, 1099, 1100, 1101, 1102, 1103, 1104, 1105, 1106, 1107, 1108, 1109, 1110, 1111, 1112, 1113, 1114, 1115, 1116] Z Z1 ∧ zU [0, 2, 3, 4, 5, 6, 7, 8, 9] Z Z1 ∧ zG 1 6 ν ν1) hP (fw_248  _ _ ?_)
  replace hP : zE P (zx_248 Z) := hP
  unfold zx_248 at hP
  obtain ⟨Z1, v2, hv2, c9, hZ1I, kZ1, jZ1, lv2, uv2⟩ := sp_151 (ν := ν) hZ (zbh (c := 0) (k := 0) hM (Nat.le_of_ble_eq_true rfl))
  have hZ1U : zU [0, 2, 3, 4, 5, 6, 7, 8, 9] Z Z1 := zU_t zU_r jZ1 zU_b0
  have hZ1K : zC [3, 4, 12, 13, 14, 40, 41, 42, 43, 44, 45, 46, 47, 48, 49, 50, 51, 52, 53, 54, 61, 68, 1099, 1100, 1101, 1102, 1103, 1104, 1105, 1106, 1107, 1108, 1109, 1110, 1111, 1112, 1113, 1114, 1115, 1116] Z Z1 := zC_t zC_r kZ1 (by decide)
  replace hP := zl_e2 hP hv2
  refine wz_cI_of (zas (zcons rfl (zcons rfl rfl)) c9) ?_
  clear c9 hv2
  refine wz_br (i3NE (rfl : i3 v2 = i3 v2) (show (0 : Int32) = i3 0 from rfl) (by omega) (by omega) (by omega) (by omega)) (fun h3 => ?_) (fun h3 => ?_)
  · replace hP := zE_p hP h3
    obtain ⟨Z4, hZ4⟩ := zx (zu Z1 4 0 0 1 0)
    replace hP := zl_e hP hZ4
    have hZ4I := zH_0 hZ1I hZ4 (by decide) (Or.inl (by decide))
    have hZ4U : zU [0, 2, 3, 4, 5, 6, 7, 8, 9] Z Z4 := zU_u hZ1U hZ4 (Or.inl rfl)
    have hZ4K : zC [3, 4, 12, 13, 14, 40, 41, 42, 43, 44, 45, 46, 47, 48, 49, 50, 51, 52, 53, 54, 61, 68, 1099, 1100, 1101, 1102, 1103, 1104, 1105, 1106, 1107, 1108, 1109, 1110, 1111, 1112, 1113, 1114, 1115, 1116] Z Z4 := zC_u hZ1K hZ4 (by decide)
    intro μ9 e9
    replace e9 := e9.trans (zm_wI (Z := Z1) (ν := ν) hZ4 (show ((0 : Nat) : Int) = 0 from rfl) (show ((0 : Nat) : Int) = 0 from rfl) (show ((1 : Nat) : Int) = 1 from rfl) (show (0 : Int32) = i3 0 from rfl))
    subst e9
    exact zlG hP (rfl : i3 v2 = i3 v2) ⟨(zbw (a := 0) (c := 7623) hZ4I (Nat.le_of_ble_eq_true rfl)), hZ4K, hZ4U, zG_w zG_r (Nat.le_of_ble_eq_true rfl) (Nat.le_of_ble_eq_true rfl)⟩
  · replace hP := zE_n hP h3
    obtain ⟨Z5, v6, hv6, c9, hZ5I, kZ5, jZ5, lv6, uv6, tZ5_0⟩ := sp_196 (ν := ν) hZ1I (zLt_c hLt0 kZ1 rfl) (zbh (c := 0) (k := 7623) hM (Nat.le_of_ble_eq_true rfl))
    have hZ5U : zU [0, 2, 3, 4, 5, 6, 7, 8, 9] Z Z5 := zU_t hZ1U jZ5 (zU_b1 (List.Mem.head _) (zU_b1 (List.Mem.tail _ (List.Mem.head _)) (zU_b1 (List.Mem.tail _ (List.Mem.tail _ (List.Mem.head _))) (zU_b1 (List.Mem.tail _ (List.Mem.tail _ (List.Mem.tail _ (List.Mem.head _)))) (zU_b1 (List.Mem.tail _ (List.Mem.tail _ (List.Mem.tail _ (List.Mem.tail _ (List.Mem.head _))))) (zU_b1 (List.Mem.tail _ (List.Mem.tail _ (List.Mem.tail _ (List.Mem.tail _ (List.Mem.tail _ (List.Mem.head _)))))) (zU_b1 (List.Mem.tail _ (List.Mem.tail _ (List.Mem.tail _ (List.Mem.tail _ (List.Mem.tail _ (List.Mem.tail _ (List.Mem.head _))))))) (zU_b1 (List.Mem.tail _ (List.Mem.tail _ (List.Mem.tail _ (List.Mem.tail _ (List.Mem.tail _ (List.Mem.tail _ (List.Mem.tail _ (List.Mem.head _)))))))) (zU_b1 (List.Mem.tail _ (List.Mem.tail _ (List.Mem.tail _ (List.Mem.tail _ (List.Mem.tail _ (List.Mem.tail _ (List.Mem.tail _ (List.Mem.tail _ (List.Mem.head _))))))))) zU_b0)))))))))
    have hZ5K : zC [3, 4, 12, 13, 14, 40, 41, 42, 43, 44, 45, 46, 47, 48, 49, 50, 51, 52, 53, 54, 61, 68, 1099, 1100, 1101, 1102, 1103, 1104, 1105, 1106, 1107, 1108, 1109, 1110, 1111, 1112, 1113, 1114, 1115, 1116] Z Z5 := zC_t hZ1K kZ5 (by decide)
    replace hP := zl_e2 hP hv6
    refine wz_cI_of (zas (zcons rfl rfl) c9) ?_
    clear c9 hv6
    obtain ⟨Z7, hZ7⟩ := zx (zu Z5 4 0 0 1 0)
    replace hP := zl_e hP hZ7
    have hZ7I := zH_0 hZ5I hZ7 (by decide) (Or.inl (by decide))
    have hZ7U : zU [0, 2, 3, 4, 5, 6, 7, 8, 9] Z Z7 := zU_u hZ5U hZ7 (Or.inl rfl)
    have hZ7K : zC [3, 4, 12, 13, 14, 40, 41, 42, 43, 44, 45, 46, 47, 48, 49, 50, 51, 52, 53, 54, 61, 68, 1099, 1100, 1101, 1102, 1103, 1104, 1105, 1106, 1107, 1108, 1109, 1110, 1111, 1112, 1113, 1114, 1115, 1116] Z Z7 := zC_u hZ5K hZ7 (by decide)
    intro μ9 e9
    replace e9 := e9.trans (zm_wI (Z := Z5) (ν := ν) hZ7 (show ((0 : Nat) : Int) = 0 from rfl) (show ((0 : Nat) : Int) = 0 from rfl) (show ((1 : Nat) : Int) = 1 from rfl) (show (0 : Int32) = i3 0 from rfl))
    subst e9
    exact zlG hP (rfl : i3 v6 = i3 v6) ⟨hZ7I, hZ7K, hZ7U, zG_w zG_r (Nat.le_of_ble_eq_true rfl) (Nat.le_of_ble_eq_true rfl)⟩
/- yX11_trip -/
def zx_250 (Z : qz_Z) (n9 : Int) (a1 : Int) (a2 : Int) : qz_Z × Int × Int := (if 0 ≤ a1 ∧ a1 < (Z 11 0 0 8) then (if 0 ≤ a2 ∧ a2 ≤ 4 then (if (Z 50 0 a1 2) ≠ 1 then (zlet (zf_59 Z 0 a1) (fun v6 => (zlet3 (zf_56 Z n9 0 v6) (fun Z7 n10 v8 => (Z7, (Z7 69 0 0 a2), 0))))) else (Z, (Z 50 0 a1 (12 + a2)), 0)) else (Z, 0, 13)) else (Z, 0, 24))
theorem sx_250 {M : Nat} {Z : qz_Z} {ν : qz_N} (hZ : zH ((none, M) : zSM) Z) (hM : ((none, M) : zSM).2 + 0 ≤ 1000000000) {n9 : Nat} (hn : ν.2.2.2.1 = n9) {a1 : Int} (ga1 : -2147483648 ≤ a1 ∧ a1 ≤ 2147483647) {a2 : Int} (ga2 : -2147483648 ≤ a2 ∧ a2 ≤ 2147483647) : ∃ (Z1 : qz_Z) (ν1 : qz_N) (v E : Int), (Z1, v, E) = zx_250 Z n9 a1 a2 ∧ qf_250 [.inr (.inr (some (0, 0, 0))), .inl (i3 a1), .inl (i3 a2)] (zm Z ν) = some (zm Z1 ν1, zoX v E) ∧ (fun Z1 ν1 => zH ((none, M) : zSM) Z1 ∧ zL [69] [] n9 Z Z1 ∧ zU [] Z Z1 ∧ zG 1 6 ν ν1) Z1 ν1 := by
  obtain ⟨P, hP⟩ := zx (zx_250 Z n9 a1 a2)
  refine zc_G (Q := fun Z1 ν1 => zH ((none, M) : zSM) Z1 ∧ zL [69] [] n9 Z Z1 ∧ zU [] Z Z1 ∧ zG 1 6 ν ν1) hP (fw_250 (i3 a1) (i3 a2) _ _ ?_)
  replace hP : zE P (zx_250 Z n9 a1 a2) := hP
  unfold zx_250 at hP
  have hs : ((none, M) : zSM).1 = none := rfl
  have r1 := zH_k hZ 11 0 0 8 (lo := 0) (hi := 4) (by decide) rfl
  refine wz_thing (rfl : i3 a1 = i3 a1) (zm_rd (Z := Z) (ν := ν) (k := 11) (show ((0 : Nat) : Int) = 0 from rfl) (show ((0 : Nat) : Int) = 0 from rfl) (show ((8 : Nat) : Int) = 8 from rfl)) (by omega) (by omega) (by omega) (by omega) (fun h2 => ?_) (fun h2 => ?_)
  · replace hP := zE_p hP h2
    refine wz_inR (rfl : i3 a2 = i3 a2) (show (0 : Int32) = i3 0 from rfl) (show (4 : Int32) = i3 4 from rfl) (by omega) (by omega) (by omega) (by omega) (by omega) (by omega) (fun h3 => ?_) (fun h3 => ?_)
    · replace hP := zE_p hP h3
      refine wz_i0 (i3O (n := 4) (rfl : i3 a1 = i3 a1) (by omega) (by omega) (by omega)) ?_
      have r4 := zH_k hZ 50 0 a1 2 (lo := 0) (hi := 1) (by decide) rfl
      refine wz_br (i3NE (zm_rd (Z := Z) (ν := ν) (k := 50) (show ((0 : Nat) : Int) = 0 from rfl) (i3I (y := a1) (rfl : i3 a1 = i3 a1) (by omega) (by omega) (by omega)) (show ((2 : Nat) : Int) = 2 from rfl)) (show (1 : Int32) = i3 1 from rfl) (by omega) (by omega) (by omega) (by omega)) (fun h5 => ?_) (fun h5 => ?_)
      · replace hP := zE_p hP h5
        obtain ⟨v6, hv6, c9, lv6, uv6⟩ := sp_59 (ν := ν) hZ 0 (a1 := a1) (by omega) (zbh (c := 0) (k := 0) hM (Nat.le_of_ble_eq_true rfl))
        replace hP := zl_e hP hv6
        refine wz_cI_of (zas (zcons rfl (zcons (zvi (rfl : i3 a1 = i3 a1)) rfl)) c9) ?_
        clear c9
        obtain ⟨Z7, ν9, n10, v8, hv8, c9, hZ7I, kZ7, jZ7, hnν9, gν9, b1ν9, b2ν9, lv8, uv8⟩ := sp_56 (ν := ν) hZ hs hn 0 (a1 := v6) (by omega) (zbh (c := 0) (k := 0) hM (Nat.le_of_ble_eq_true rfl))
        have hZ7U : zU [] Z Z7 := zU_t zU_r jZ7 zU_b0
        have hZ7K : zL [69] [] n9 Z Z7 := zL_t zL_r kZ7 (by decide) zL_b0 (by omega)
        replace hP := zl_e3 hP hv8
        refine wz_cI_of (zas (zcons rfl (zcons (zvi (rfl : i3 v6 = i3 v6)) (zcons rfl rfl))) c9) ?_
        clear c9 hv8
        have hGν9 := zGl_t (K := 5) zGl_r gν9
        refine wz_i0 (i3O (n := 24) (rfl : i3 a2 = i3 a2) (by omega) (by omega) (by omega)) ?_
        have r11 := zH_f hZ7I 69 0 0 a2
        exact zlG hP (zm_rd (Z := Z7) (ν := ν9) (k := 69) (show ((0 : Nat) : Int) = 0 from rfl) (show ((0 : Nat) : Int) = 0 from rfl) (i3I (y := a2) (rfl : i3 a2 = i3 a2) (by omega) (by omega) (by omega))) ⟨hZ7I, hZ7K, hZ7U, zGl_c (c := 1) hGν9 hn hnν9 (by omega) (Nat.le_of_ble_eq_true rfl) (Nat.le_of_ble_eq_true rfl)⟩
      · replace hP := zE_n hP h5
        refine wz_i0 (i3O (n := 4) (rfl : i3 a1 = i3 a1) (by omega) (by omega) (by omega)) ?_
        refine wz_i0 (i3O (n := 22) (i3A (show (12 : Int32) = i3 12 from rfl) (rfl : i3 a2 = i3 a2)) (by omega) (by omega) (by omega)) ?_
        have r12 := zH_k hZ 50 0 a1 (12 + a2) (lo := -1) (hi := 4) (by decide) (zrn_of (lo := 12) (n := 5) (by decide) (by decide +kernel) (by omega) (by omega))
        exact zlG hP (zm_rd (Z := Z) (ν := ν) (k := 50) (show ((0 : Nat) : Int) = 0 from rfl) (i3I (y := a1) (rfl : i3 a1 = i3 a1) (by omega) (by omega) (by omega)) (i3I (y := (12 + a2)) (i3A (show (12 : Int32) = i3 12 from rfl) (rfl : i3 a2 = i3 a2)) (by omega) (by omega) (by omega))) ⟨hZ, zL_r, zU_r, zG_w zG_r (Nat.le_of_ble_eq_true rfl) (Nat.le_of_ble_eq_true rfl)⟩
    · replace hP := zE_n hP h3
      exact zlGe (E := 12) hP ⟨hZ, zL_r, zU_r, zG_w (zG_k rfl) (Nat.le_of_ble_eq_true rfl) (Nat.le_of_ble_eq_true rfl)⟩
  · replace hP := zE_n hP h2
    exact zlGe (E := 23) hP ⟨hZ, zL_r, zU_r, zG_w (zG_k rfl) (Nat.le_of_ble_eq_true rfl) (Nat.le_of_ble_eq_true rfl)⟩
/- yX11_truck -/
def zx_251 (Z : qz_Z) (a1 : Int) (a2 : Int) : qz_Z × Int × Int := (if 10 ≤ a1 ∧ a1 ≤ 99 then (if 0 ≤ a2 ∧ a2 ≤ 40 then (if 4 ≤ (Z 11 0 0 8) then (Z, 0, 15) else (zlet (zdd Z 19 a1 a2 0 0 0 0) (fun Z7 => (zlet (zu Z7 50 0 (Z7 11 0 0 8) 0 a1) (fun Z10 => (zlet (zu Z10 50 0 (Z7 11 0 0 8) 1 a2) (fun Z11 => (zlet (zu Z11 50 0 (Z7 11 0 0 8) 3 (-1)) (fun Z12 => (zlet (zu Z12 50 0 (Z7 11 0 0 8) 7 (-1)) (fun Z13 => (zlet (zu Z13 50 0 (Z7 11 0 0 8) 8 (-1)) (fun Z14 => (zlet (zu Z14 11 0 0 8 ((Z14 11 0 0 8) + 1)) (fun Z17 => (Z17, (Z14 11 0 0 8), 0)))))))))))))))) else (Z, 0, 13)) else (Z, 0, 13))
theorem sx_251 {M : Nat} {Z : qz_Z} {ν : qz_N} (hZ : zH ((none, M) : zSM) Z) (hM : ((none, M) : zSM).2 + 0 ≤ 1000000000) {a1 : Int} (ga1 : -2147483648 ≤ a1 ∧ a1 ≤ 2147483647) {a2 : Int} (ga2 : -2147483648 ≤ a2 ∧ a2 ≤ 2147483647) : ∃ (Z1 : qz_Z) (ν1 : qz_N) (v E : Int), (Z1, v, E) = zx_251 Z a1 a2 ∧ qf_251 [.inr (.inr (some (0, 0, 0))), .inl (i3 a1), .inl (i3 a2)] (zm Z ν) = some (zm Z1 ν1, zoX v E) ∧ (fun Z1 ν1 => zH ((none, M) : zSM) Z1 ∧ zC [3, 12, 13, 14, 40, 41, 42, 43, 44, 45, 46, 47, 48, 49, 50, 51, 52, 53, 54, 61, 68, 1099, 1100, 1101, 1102, 1103, 1104, 1105, 1106, 1107, 1108, 1109, 1110, 1111, 1112, 1113, 1114, 1115, 1116] Z Z1 ∧ zU [0, 2, 3, 4, 5, 6, 7, 8, 9] Z Z1 ∧ zG 1 6 ν ν1) Z1 ν1 := by
  obtain ⟨P, hP⟩ := zx (zx_251 Z a1 a2)
  refine zc_G (Q := fun Z1 ν1 => zH ((none, M) : zSM) Z1 ∧ zC [3, 12, 13, 14, 40, 41, 42, 43, 44, 45, 46, 47, 48, 49, 50, 51, 52, 53, 54, 61, 68, 1099, 1100, 1101, 1102, 1103, 1104, 1105, 1106, 1107, 1108, 1109, 1110, 1111, 1112, 1113, 1114, 1115, 1116] Z Z1 ∧ zU [0, 2, 3, 4, 5, 6, 7, 8, 9] Z Z1 ∧ zG 1 6 ν ν1) hP (fw_251 (i3 a1) (i3 a2) _ _ ?_)
  replace hP : zE P (zx_251 Z a1 a2) := hP
  unfold zx_251 at hP
  refine wz_inR (rfl : i3 a1 = i3 a1) (show (10 : Int32) = i3 10 from rfl) (show (99 : Int32) = i3 99 from rfl) (by omega) (by omega) (by omega) (by omega) (by omega) (by omega) (fun h1 => ?_) (fun h1 => ?_)
  · replace hP := zE_p hP h1
    refine wz_inR (rfl : i3 a2 = i3 a2) (show (0 : Int32) = i3 0 from rfl) (show (40 : Int32) = i3 40 from rfl) (by omega) (by omega) (by omega) (by omega) (by omega) (by omega) (fun h2 => ?_) (fun h2 => ?_)
    · replace hP := zE_p hP h2
      have r3 := zH_k hZ 11 0 0 8 (lo := 0) (hi := 4) (by decide) rfl
      refine wz_br (i3Le (show (4 : Int32) = i3 4 from rfl) (zm_rd (Z := Z) (ν := ν) (k := 11) (show ((0 : Nat) : Int) = 0 from rfl) (show ((0 : Nat) : Int) = 0 from rfl) (show ((8 : Nat) : Int) = 8 from rfl)) (by omega) (by omega) (by omega) (by omega)) (fun h4 => ?_) (fun h4 => ?_)
      · replace hP := zE_p hP h4
        refine wz_inT_n (show (0 : Int32) = i3 0 from rfl) (by omega) (by omega) (by omega) ?_
        exact zlGe (E := 14) hP ⟨hZ, zC_r, zU_r, zG_w (zG_k rfl) (Nat.le_of_ble_eq_true rfl) (Nat.le_of_ble_eq_true rfl)⟩
      · replace hP := zE_n hP h4
        refine wz_inT_y (show (1 : Int32) = i3 1 from rfl) (by omega) (by omega) (by omega) ?_
        refine dc_J (zcons rfl (zcons (zvi (show (19 : Int32) = i3 19 from rfl)) (zcons (zvi (rfl : i3 a1 = i3 a1)) (zcons (zvi (rfl : i3 a2 = i3 a2)) (zcons (zvi (show (0 : Int32) = i3 0 from rfl)) (zcons (zvi (show (0 : Int32) = i3 0 from rfl)) (zcons (zvi (show (0 : Int32) = i3 0 from rfl)) (zcons (zvi (show (0 : Int32) = i3 0 from rfl)) rfl)))))))) (dg (hZ).1 (by omega) (by omega) (by omega) (by omega) (by omega) (by omega) (by omega) ?_)
        have hZ7I := zH_dd hZ (a1 := 19) (a2 := a1) (a3 := a2) (a4 := 0) (a5 := 0) (a6 := 0) (a7 := 0) (by omega) (by omega) (by omega) (by omega) (by omega) (by omega) (by omega)
        have kZ7 : zC [3, 12, 13, 14, 40, 41, 42, 43, 44, 45, 46, 47, 48, 49, 50, 51, 52, 53, 54, 61, 68, 1099, 1100, 1101, 1102, 1103, 1104, 1105, 1106, 1107, 1108, 1109, 1110, 1111, 1112, 1113, 1114, 1115, 1116] Z (zdd Z 19 a1 a2 0 0 0 0) := zC_k zdd_K (by decide) (by decide)
        have hZ7A : (zdd Z 19 a1 a2 0 0 0 0) 68 0 0 0 = 19 ∧ (zdd Z 19 a1 a2 0 0 0 0) 68 0 0 1 = a1 ∧ (zdd Z 19 a1 a2 0 0 0 0) 68 0 0 2 = a2 ∧ (zdd Z 19 a1 a2 0 0 0 0) 68 0 0 3 = 0 ∧ (zdd Z 19 a1 a2 0 0 0 0) 68 0 0 4 = 0 ∧ (zdd Z 19 a1 a2 0 0 0 0) 68 0 0 5 = 0 ∧ (zdd Z 19 a1 a2 0 0 0 0) 68 0 0 6 = 0 := ⟨zdd_68, zdd_68, zdd_68, zdd_68, zdd_68, zdd_68, zdd_68⟩
        obtain ⟨Z7, hZ7⟩ := zx (zdd Z 19 a1 a2 0 0 0 0)
        have dZ7 : ∀ {k : Nat} {i j : Int}, zhall k = true → ¬ (k = 11 ∧ (j = 15 ∨ j = 16)) → Z7 k 0 i j = Z k 0 i j := fun hk hj => by rw [hZ7]; exact zdd_h (hZ).1 hk hj
        have jZ7 : zU [0, 2, 3, 4, 5, 6, 7, 8, 9] Z (zdd Z 19 a1 a2 0 0 0 0) := zU_dd (hZ).1
        rw [← hZ7] at hZ7I kZ7 jZ7 hZ7A ⊢
        have hZ7U : zU [0, 2, 3, 4, 5, 6, 7, 8, 9] Z Z7 := zU_t zU_r jZ7 (zU_b1 (List.Mem.head _) (zU_b1 (List.Mem.tail _ (List.Mem.head _)) (zU_b1 (List.Mem.tail _ (List.Mem.tail _ (List.Mem.head _))) (zU_b1 (List.Mem.tail _ (List.Mem.tail _ (List.Mem.tail _ (List.Mem.head _)))) (zU_b1 (List.Mem.tail _ (List.Mem.tail _ (List.Mem.tail _ (List.Mem.tail _ (List.Mem.head _))))) (zU_b1 (List.Mem.tail _ (List.Mem.tail _ (List.Mem.tail _ (List.Mem.tail _ (List.Mem.tail _ (List.Mem.head _)))))) (zU_b1 (List.Mem.tail _ (List.Mem.tail _ (List.Mem.tail _ (List.Mem.tail _ (List.Mem.tail _ (List.Mem.tail _ (List.Mem.head _))))))) (zU_b1 (List.Mem.tail _ (List.Mem.tail _ (List.Mem.tail _ (List.Mem.tail _ (List.Mem.tail _ (List.Mem.tail _ (List.Mem.tail _ (List.Mem.head _)))))))) (zU_b1 (List.Mem.tail _ (List.Mem.tail _ (List.Mem.tail _ (List.Mem.tail _ (List.Mem.tail _ (List.Mem.tail _ (List.Mem.tail _ (List.Mem.tail _ (List.Mem.head _))))))))) zU_b0)))))))))
        replace hP := zl_e hP hZ7
        have hZ7K : zC [3, 12, 13, 14, 40, 41, 42, 43, 44, 45, 46, 47, 48, 49, 50, 51, 52, 53, 54, 61, 68, 1099, 1100, 1101, 1102, 1103, 1104, 1105, 1106, 1107, 1108, 1109, 1110, 1111, 1112, 1113, 1114, 1115, 1116] Z Z7 := zC_t zC_r kZ7 (by decide)
        clear kZ7 hZ7
        refine fw_121 _ _ _ _ ?_
        refine wz_i1 rfl ?_
        refine wz_i0 (i3O (n := 7) (show (0 : Int32) = i3 0 from rfl) (by omega) (by omega) (by omega)) ?_
        refine wz_i0 (Eq.trans (i3To (Eq.trans (zm_rd (Z := Z7) (ν := ν) (k := 68) (show ((0 : Nat) : Int) = 0 from rfl) (show ((0 : Nat) : Int) = 0 from rfl) (show ((0 : Nat) : Int) = 0 from rfl)) (congrArg i3 ((hZ7A.1)))) (by omega) (by omega)) (decide_eq_false (by omega))) ?_
        refine wz_i0 (Eq.trans (i3T (Eq.trans (zm_rd (Z := Z7) (ν := ν) (k := 68) (show ((0 : Nat) : Int) = 0 from rfl) (show ((0 : Nat) : Int) = 0 from rfl) (show ((0 : Nat) : Int) = 0 from rfl)) (congrArg i3 ((hZ7A.1)))) (by omega) (by omega)) (decide_eq_false (by omega))) ?_
        refine wz_i0 (Eq.trans (i3T (Eq.trans (zm_rd (Z := Z7) (ν := ν) (k := 68) (show ((0 : Nat) : Int) = 0 from rfl) (show ((0 : Nat) : Int) = 0 from rfl) (show ((0 : Nat) : Int) = 0 from rfl)) (congrArg i3 ((hZ7A.1)))) (by omega) (by omega)) (decide_eq_false (by omega))) ?_
        refine wz_i0 (Eq.trans (i3T (Eq.trans (zm_rd (Z := Z7) (ν := ν) (k := 68) (show ((0 : Nat) : Int) = 0 from rfl) (show ((0 : Nat) : Int) = 0 from rfl) (show ((0 : Nat) : Int) = 0 from rfl)) (congrArg i3 ((hZ7A.1)))) (by omega) (by omega)) (decide_eq_false (by omega))) ?_
        refine wz_i0 (Eq.trans (i3T (Eq.trans (zm_rd (Z := Z7) (ν := ν) (k := 68) (show ((0 : Nat) : Int) = 0 from rfl) (show ((0 : Nat) : Int) = 0 from rfl) (show ((0 : Nat) : Int) = 0 from rfl)) (congrArg i3 ((hZ7A.1)))) (by omega) (by omega)) (decide_eq_false (by omega))) ?_
        refine wz_i0 (Eq.trans (i3T (Eq.trans (zm_rd (Z := Z7) (ν := ν) (k := 68) (show ((0 : Nat) : Int) = 0 from rfl) (show ((0 : Nat) : Int) = 0 from rfl) (show ((0 : Nat) : Int) = 0 from rfl)) (congrArg i3 ((hZ7A.1)))) (by omega) (by omega)) (decide_eq_false (by omega))) ?_
        refine wz_i0 (Eq.trans (i3T (Eq.trans (zm_rd (Z := Z7) (ν := ν) (k := 68) (show ((0 : Nat) : Int) = 0 from rfl) (show ((0 : Nat) : Int) = 0 from rfl) (show ((0 : Nat) : Int) = 0 from rfl)) (congrArg i3 ((hZ7A.1)))) (by omega) (by omega)) (decide_eq_false (by omega))) ?_
        refine wz_i0 (Eq.trans (i3T (Eq.trans (zm_rd (Z := Z7) (ν := ν) (k := 68) (show ((0 : Nat) : Int) = 0 from rfl) (show ((0 : Nat) : Int) = 0 from rfl) (show ((0 : Nat) : Int) = 0 from rfl)) (congrArg i3 ((hZ7A.1)))) (by omega) (by omega)) (decide_eq_false (by omega))) ?_
        refine wz_i0 (Eq.trans (i3T (Eq.trans (zm_rd (Z := Z7) (ν := ν) (k := 68) (show ((0 : Nat) : Int) = 0 from rfl) (show ((0 : Nat) : Int) = 0 from rfl) (show ((0 : Nat) : Int) = 0 from rfl)) (congrArg i3 ((hZ7A.1)))) (by omega) (by omega)) (decide_eq_false (by omega))) ?_
        refine wz_i0 (Eq.trans (i3T (Eq.trans (zm_rd (Z := Z7) (ν := ν) (k := 68) (show ((0 : Nat) : Int) = 0 from rfl) (show ((0 : Nat) : Int) = 0 from rfl) (show ((0 : Nat) : Int) = 0 from rfl)) (congrArg i3 ((hZ7A.1)))) (by omega) (by omega)) (decide_eq_false (by omega))) ?_
        refine wz_i0 (Eq.trans (i3T (Eq.trans (zm_rd (Z := Z7) (ν := ν) (k := 68) (show ((0 : Nat) : Int) = 0 from rfl) (show ((0 : Nat) : Int) = 0 from rfl) (show ((0 : Nat) : Int) = 0 from rfl)) (congrArg i3 ((hZ7A.1)))) (by omega) (by omega)) (decide_eq_false (by omega))) ?_
        refine wz_i0 (Eq.trans (i3T (Eq.trans (zm_rd (Z := Z7) (ν := ν) (k := 68) (show ((0 : Nat) : Int) = 0 from rfl) (show ((0 : Nat) : Int) = 0 from rfl) (show ((0 : Nat) : Int) = 0 from rfl)) (congrArg i3 ((hZ7A.1)))) (by omega) (by omega)) (decide_eq_false (by omega))) ?_
        refine wz_i0 (Eq.trans (i3T (Eq.trans (zm_rd (Z := Z7) (ν := ν) (k := 68) (show ((0 : Nat) : Int) = 0 from rfl) (show ((0 : Nat) : Int) = 0 from rfl) (show ((0 : Nat) : Int) = 0 from rfl)) (congrArg i3 ((hZ7A.1)))) (by omega) (by omega)) (decide_eq_false (by omega))) ?_
        refine wz_i0 (Eq.trans (i3T (Eq.trans (zm_rd (Z := Z7) (ν := ν) (k := 68) (show ((0 : Nat) : Int) = 0 from rfl) (show ((0 : Nat) : Int) = 0 from rfl) (show ((0 : Nat) : Int) = 0 from rfl)) (congrArg i3 ((hZ7A.1)))) (by omega) (by omega)) (decide_eq_false (by omega))) ?_
        refine wz_i0 (Eq.trans (i3T (Eq.trans (zm_rd (Z := Z7) (ν := ν) (k := 68) (show ((0 : Nat) : Int) = 0 from rfl) (show ((0 : Nat) : Int) = 0 from rfl) (show ((0 : Nat) : Int) = 0 from rfl)) (congrArg i3 ((hZ7A.1)))) (by omega) (by omega)) (decide_eq_false (by omega))) ?_
        refine wz_i0 (Eq.trans (i3T (Eq.trans (zm_rd (Z := Z7) (ν := ν) (k := 68) (show ((0 : Nat) : Int) = 0 from rfl) (show ((0 : Nat) : Int) = 0 from rfl) (show ((0 : Nat) : Int) = 0 from rfl)) (congrArg i3 ((hZ7A.1)))) (by omega) (by omega)) (decide_eq_false (by omega))) ?_
        refine wz_i0 (Eq.trans (i3T (Eq.trans (zm_rd (Z := Z7) (ν := ν) (k := 68) (show ((0 : Nat) : Int) = 0 from rfl) (show ((0 : Nat) : Int) = 0 from rfl) (show ((0 : Nat) : Int) = 0 from rfl)) (congrArg i3 ((hZ7A.1)))) (by omega) (by omega)) (decide_eq_false (by omega))) ?_
        refine wz_i0 (Eq.trans (i3T (Eq.trans (zm_rd (Z := Z7) (ν := ν) (k := 68) (show ((0 : Nat) : Int) = 0 from rfl) (show ((0 : Nat) : Int) = 0 from rfl) (show ((0 : Nat) : Int) = 0 from rfl)) (congrArg i3 ((hZ7A.1)))) (by omega) (by omega)) (decide_eq_false (by omega))) ?_
        refine wz_i0 (Eq.trans (i3T (Eq.trans (zm_rd (Z := Z7) (ν := ν) (k := 68) (show ((0 : Nat) : Int) = 0 from rfl) (show ((0 : Nat) : Int) = 0 from rfl) (show ((0 : Nat) : Int) = 0 from rfl)) (congrArg i3 ((hZ7A.1)))) (by omega) (by omega)) (decide_eq_false (by omega))) ?_
        refine wz_i0 (Eq.trans (i3T (Eq.trans (zm_rd (Z := Z7) (ν := ν) (k := 68) (show ((0 : Nat) : Int) = 0 from rfl) (show ((0 : Nat) : Int) = 0 from rfl) (show ((0 : Nat) : Int) = 0 from rfl)) (congrArg i3 ((hZ7A.1)))) (by omega) (by omega)) (decide_eq_false (by omega))) ?_
        refine wz_i1 (Eq.trans (i3T (Eq.trans (zm_rd (Z := Z7) (ν := ν) (k := 68) (show ((0 : Nat) : Int) = 0 from rfl) (show ((0 : Nat) : Int) = 0 from rfl) (show ((0 : Nat) : Int) = 0 from rfl)) (congrArg i3 ((hZ7A.1)))) (by omega) (by omega)) (decide_eq_true (by omega))) ?_
        refine wz_i1 rfl ?_
        refine wz_i0 (i3O (n := 7) (show (1 : Int32) = i3 1 from rfl) (by omega) (by omega) (by omega)) ?_
        refine wz_i1 rfl ?_
        refine wz_i0 (i3O (n := 7) (show (2 : Int32) = i3 2 from rfl) (by omega) (by omega) (by omega)) ?_
        have r8 := zH_k hZ7I 11 0 0 8 (lo := 0) (hi := 4) (by decide) rfl
        have q9 := dZ7 (k := 11) (i := 0) (j := 8) (by decide) (by omega)
        refine wz_i0 (i3O (n := 4) (zm_rd (Z := Z7) (ν := ν) (k := 11) (show ((0 : Nat) : Int) = 0 from rfl) (show ((0 : Nat) : Int) = 0 from rfl) (show ((8 : Nat) : Int) = 8 from rfl)) (by omega) (by omega) (by omega)) ?_
        obtain ⟨Z10, hZ10⟩ := zx (zu Z7 50 0 (Z7 11 0 0 8) 0 a1)
        replace hP := zl_e hP hZ10
        have hZ10I := zH_u hZ7I hZ10 (lo := 0) (hi := 99) (by decide) rfl (by omega) ⟨by decide, by decide⟩ (Or.inl (by decide)) rfl
        have hZ10U : zU [0, 2, 3, 4, 5, 6, 7, 8, 9] Z Z10 := zU_u hZ7U hZ10 (Or.inr (List.Mem.head _))
        have hZ10K : zC [3, 12, 13, 14, 40, 41, 42, 43, 44, 45, 46, 47, 48, 49, 50, 51, 52, 53, 54, 61, 68, 1099, 1100, 1101, 1102, 1103, 1104, 1105, 1106, 1107, 1108, 1109, 1110, 1111, 1112, 1113, 1114, 1115, 1116] Z Z10 := zC_u hZ7K hZ10 (by decide)
        intro μ9 e9
        replace e9 := e9.trans (zm_wI (Z := Z7) (ν := ν) hZ10 (show ((0 : Nat) : Int) = 0 from rfl) (i3I (y := (Z7 11 0 0 8)) (zm_rd (Z := Z7) (ν := ν) (k := 11) (show ((0 : Nat) : Int) = 0 from rfl) (show ((0 : Nat) : Int) = 0 from rfl) (show ((8 : Nat) : Int) = 8 from rfl)) (by omega) (by omega) (by omega)) (show ((0 : Nat) : Int) = 0 from rfl) (Eq.trans (zm_rd (Z := Z7) (ν := ν) (k := 68) (show ((0 : Nat) : Int) = 0 from rfl) (show ((0 : Nat) : Int) = 0 from rfl) (show ((1 : Nat) : Int) = 1 from rfl)) (congrArg i3 ((hZ7A.2.1)))))
        subst e9
        obtain ⟨Z11, hZ11⟩ := zx (zu Z10 50 0 (Z7 11 0 0 8) 1 a2)
        replace hP := zl_e hP hZ11
        have hZ11I := zH_u hZ10I hZ11 (lo := 0) (hi := 40) (by decide) rfl (by omega) ⟨by decide, by decide⟩ (Or.inl (by decide)) rfl
        have hZ11U : zU [0, 2, 3, 4, 5, 6, 7, 8, 9] Z Z11 := zU_u hZ10U hZ11 (Or.inr (List.Mem.head _))
        have hZ11K : zC [3, 12, 13, 14, 40, 41, 42, 43, 44, 45, 46, 47, 48, 49, 50, 51, 52, 53, 54, 61, 68, 1099, 1100, 1101, 1102, 1103, 1104, 1105, 1106, 1107, 1108, 1109, 1110, 1111, 1112, 1113, 1114, 1115, 1116] Z Z11 := zC_u hZ10K hZ11 (by decide)
        intro μ9 e9
        replace e9 := e9.trans (zm_wI (Z := Z10) (ν := ν) hZ11 (show ((0 : Nat) : Int) = 0 from rfl) (i3I (y := (Z7 11 0 0 8)) (zm_rd (Z := Z7) (ν := ν) (k := 11) (show ((0 : Nat) : Int) = 0 from rfl) (show ((0 : Nat) : Int) = 0 from rfl) (show ((8 : Nat) : Int) = 8 from rfl)) (by omega) (by omega) (by omega)) (show ((1 : Nat) : Int) = 1 from rfl) (Eq.trans (zm_rd (Z := Z7) (ν := ν) (k := 68) (show ((0 : Nat) : Int) = 0 from rfl) (show ((0 : Nat) : Int) = 0 from rfl) (show ((2 : Nat) : Int) = 2 from rfl)) (congrArg i3 ((hZ7A.2.2.1)))))
        subst e9
        obtain ⟨Z12, hZ12⟩ := zx (zu Z11 50 0 (Z7 11 0 0 8) 3 (-1))
        replace hP := zl_e hP hZ12
        have hZ12I := zH_u hZ11I hZ12 (lo := -1) (hi := 671) (by decide) rfl (by omega) ⟨by decide, by decide⟩ (Or.inl (by decide)) rfl
        have hZ12U : zU [0, 2, 3, 4, 5, 6, 7, 8, 9] Z Z12 := zU_u hZ11U hZ12 (Or.inr (List.Mem.head _))
        have hZ12K : zC [3, 12, 13, 14, 40, 41, 42, 43, 44, 45, 46, 47, 48, 49, 50, 51, 52, 53, 54, 61, 68, 1099, 1100, 1101, 1102, 1103, 1104, 1105, 1106, 1107, 1108, 1109, 1110, 1111, 1112, 1113, 1114, 1115, 1116] Z Z12 := zC_u hZ11K hZ12 (by decide)
        intro μ9 e9
        replace e9 := e9.trans (zm_wI (Z := Z11) (ν := ν) hZ12 (show ((0 : Nat) : Int) = 0 from rfl) (i3I (y := (Z7 11 0 0 8)) (zm_rd (Z := Z7) (ν := ν) (k := 11) (show ((0 : Nat) : Int) = 0 from rfl) (show ((0 : Nat) : Int) = 0 from rfl) (show ((8 : Nat) : Int) = 8 from rfl)) (by omega) (by omega) (by omega)) (show ((3 : Nat) : Int) = 3 from rfl) (show (-1 : Int32) = i3 (-1) from rfl))
        subst e9
        obtain ⟨Z13, hZ13⟩ := zx (zu Z12 50 0 (Z7 11 0 0 8) 7 (-1))
        replace hP := zl_e hP hZ13
        have hZ13I := zH_u hZ12I hZ13 (lo := -1) (hi := 671) (by decide) rfl (by omega) ⟨by decide, by decide⟩ (Or.inl (by decide)) rfl
        have hZ13U : zU [0, 2, 3, 4, 5, 6, 7, 8, 9] Z Z13 := zU_u hZ12U hZ13 (Or.inr (List.Mem.head _))
        have hZ13K : zC [3, 12, 13, 14, 40, 41, 42, 43, 44, 45, 46, 47, 48, 49, 50, 51, 52, 53, 54, 61, 68, 1099, 1100, 1101, 1102, 1103, 1104, 1105, 1106, 1107, 1108, 1109, 1110, 1111, 1112, 1113, 1114, 1115, 1116] Z Z13 := zC_u hZ12K hZ13 (by decide)
        intro μ9 e9
        replace e9 := e9.trans (zm_wI (Z := Z12) (ν := ν) hZ13 (show ((0 : Nat) : Int) = 0 from rfl) (i3I (y := (Z7 11 0 0 8)) (zm_rd (Z := Z7) (ν := ν) (k := 11) (show ((0 : Nat) : Int) = 0 from rfl) (show ((0 : Nat) : Int) = 0 from rfl) (show ((8 : Nat) : Int) = 8 from rfl)) (by omega) (by omega) (by omega)) (show ((7 : Nat) : Int) = 7 from rfl) (show (-1 : Int32) = i3 (-1) from rfl))
        subst e9
        obtain ⟨Z14, hZ14⟩ := zx (zu Z13 50 0 (Z7 11 0 0 8) 8 (-1))
        replace hP := zl_e hP hZ14
        have hZ14I := zH_u hZ13I hZ14 (lo := -1) (hi := 743) (by decide) rfl (by omega) ⟨by decide, by decide⟩ (Or.inl (by decide)) rfl
        have hZ14U : zU [0, 2, 3, 4, 5, 6, 7, 8, 9] Z Z14 := zU_u hZ13U hZ14 (Or.inr (List.Mem.head _))
        have hZ14K : zC [3, 12, 13, 14, 40, 41, 42, 43, 44, 45, 46, 47, 48, 49, 50, 51, 52, 53, 54, 61, 68, 1099, 1100, 1101, 1102, 1103, 1104, 1105, 1106, 1107, 1108, 1109, 1110, 1111, 1112, 1113, 1114, 1115, 1116] Z Z14 := zC_u hZ13K hZ14 (by decide)
        intro μ9 e9
        replace e9 := e9.trans (zm_wI (Z := Z13) (ν := ν) hZ14 (show ((0 : Nat) : Int) = 0 from rfl) (i3I (y := (Z7 11 0 0 8)) (zm_rd (Z := Z7) (ν := ν) (k := 11) (show ((0 : Nat) : Int) = 0 from rfl) (show ((0 : Nat) : Int) = 0 from rfl) (show ((8 : Nat) : Int) = 8 from rfl)) (by omega) (by omega) (by omega)) (show ((8 : Nat) : Int) = 8 from rfl) (show (-1 : Int32) = i3 (-1) from rfl))
        subst e9
        have r15 := zH_k hZ14I 11 0 0 8 (lo := 0) (hi := 4) (by decide) rfl
        have q16 := (zu_ne (k' := 11) (b' := 0) (i' := 0) (j' := 8) hZ14 (fun q => absurd q.1 (by decide))).trans ((zu_ne (k' := 11) (b' := 0) (i' := 0) (j' := 8) hZ13 (fun q => absurd q.1 (by decide))).trans ((zu_ne (k' := 11) (b' := 0) (i' := 0) (j' := 8) hZ12 (fun q => absurd q.1 (by decide))).trans ((zu_ne (k' := 11) (b' := 0) (i' := 0) (j' := 8) hZ11 (fun q => absurd q.1 (by decide))).trans (zu_ne (k' := 11) (b' := 0) (i' := 0) (j' := 8) hZ10 (fun q => absurd q.1 (by decide))))))
        obtain ⟨Z17, hZ17⟩ := zx (zu Z14 11 0 0 8 ((Z14 11 0 0 8) + 1))
        replace hP := zl_e hP hZ17
        have hZ17I := zH_u hZ14I hZ17 (lo := 0) (hi := 4) (by decide) rfl (by omega) ⟨by decide, by decide⟩ (Or.inl (by decide)) rfl
        have hZ17U : zU [0, 2, 3, 4, 5, 6, 7, 8, 9] Z Z17 := zU_u hZ14U hZ17 (Or.inr (List.Mem.head _))
        have hZ17K : zC [3, 12, 13, 14, 40, 41, 42, 43, 44, 45, 46, 47, 48, 49, 50, 51, 52, 53, 54, 61, 68, 1099, 1100, 1101, 1102, 1103, 1104, 1105, 1106, 1107, 1108, 1109, 1110, 1111, 1112, 1113, 1114, 1115, 1116] Z Z17 := zC_u hZ14K hZ17 (by decide)
        intro μ9 e9
        replace e9 := e9.trans (zm_wI (Z := Z14) (ν := ν) hZ17 (show ((0 : Nat) : Int) = 0 from rfl) (show ((0 : Nat) : Int) = 0 from rfl) (show ((8 : Nat) : Int) = 8 from rfl) (i3A (zm_rd (Z := Z14) (ν := ν) (k := 11) (show ((0 : Nat) : Int) = 0 from rfl) (show ((0 : Nat) : Int) = 0 from rfl) (show ((8 : Nat) : Int) = 8 from rfl)) (show (1 : Int32) = i3 1 from rfl)))
        subst e9
        exact zlG hP (zm_rd (Z := Z14) (ν := ν) (k := 11) (show ((0 : Nat) : Int) = 0 from rfl) (show ((0 : Nat) : Int) = 0 from rfl) (show ((8 : Nat) : Int) = 8 from rfl)) ⟨hZ17I, hZ17K, hZ17U, zG_w zG_r (Nat.le_of_ble_eq_true rfl) (Nat.le_of_ble_eq_true rfl)⟩
    · replace hP := zE_n hP h2
      exact zlGe (E := 12) hP ⟨hZ, zC_r, zU_r, zG_w (zG_k rfl) (Nat.le_of_ble_eq_true rfl) (Nat.le_of_ble_eq_true rfl)⟩
  · replace hP := zE_n hP h1
    exact zlGe (E := 12) hP ⟨hZ, zC_r, zU_r, zG_w (zG_k rfl) (Nat.le_of_ble_eq_true rfl) (Nat.le_of_ble_eq_true rfl)⟩
/- yX11_undo -/
def zx_252 (Z : qz_Z) : qz_Z × Int × Int := (if (Z 3 0 0 8) ≤ 0 then (Z, 0, 15) else (zlet (zcp Z (2 + (Z 3 0 0 7)) 0) (fun Z6 => (zlet (zu Z6 3 0 0 7 ((((Z6 3 0 0 7) + 8) - 1) % 8)) (fun Z9 => (zlet (zu Z9 3 0 0 8 ((Z9 3 0 0 8) - 1)) (fun Z12 => (Z12, (Z12 3 0 0 8), 0))))))))
theorem sx_252 {M : Nat} {Z : qz_Z} {ν : qz_N} (hZ : zH ((none, M) : zSM) Z) (hM : ((none, M) : zSM).2 + 0 ≤ 1000000000) : ∃ (Z1 : qz_Z) (ν1 : qz_N) (v E : Int), (Z1, v, E) = zx_252 Z ∧ qf_252 [.inr (.inr (some (0, 0, 0)))] (zm Z ν) = some (zm Z1 ν1, zoX v E) ∧ (fun Z1 ν1 => zH ((none, M) : zSM) Z1 ∧ zC [3, 12, 13, 14, 40, 41, 42, 43, 44, 45, 46, 47, 48, 49, 50, 51, 52, 53, 54, 1099, 1100, 1101, 1102, 1103, 1104, 1105, 1106, 1107, 1108, 1109, 1110, 1111, 1112, 1113, 1114, 1115, 1116] Z Z1 ∧ zU [0] Z Z1 ∧ zG 1 6 ν ν1) Z1 ν1 := by
  obtain ⟨P, hP⟩ := zx (zx_252 Z)
  refine zc_G (Q := fun Z1 ν1 => zH ((none, M) : zSM) Z1 ∧ zC [3, 12, 13, 14, 40, 41, 42, 43, 44, 45, 46, 47, 48, 49, 50, 51, 52, 53, 54, 1099, 1100, 1101, 1102, 1103, 1104, 1105, 1106, 1107, 1108, 1109, 1110, 1111, 1112, 1113, 1114, 1115, 1116] Z Z1 ∧ zU [0] Z Z1 ∧ zG 1 6 ν ν1) hP (fw_252  _ _ ?_)
  replace hP : zE P (zx_252 Z) := hP
  unfold zx_252 at hP
  have r1 := zH_k hZ 3 0 0 8 (lo := 0) (hi := 8) (by decide) rfl
  refine wz_br (i3Le (zm_rd (Z := Z) (ν := ν) (k := 3) (show ((0 : Nat) : Int) = 0 from rfl) (show ((0 : Nat) : Int) = 0 from rfl) (show ((8 : Nat) : Int) = 8 from rfl)) (show (0 : Int32) = i3 0 from rfl) (by omega) (by omega) (by omega) (by omega)) (fun h2 => ?_) (fun h2 => ?_)
  · replace hP := zE_p hP h2
    refine wz_inT_n (show (0 : Int32) = i3 0 from rfl) (by omega) (by omega) (by omega) ?_
    exact zlGe (E := 14) hP ⟨hZ, zC_r, zU_r, zG_w (zG_k rfl) (Nat.le_of_ble_eq_true rfl) (Nat.le_of_ble_eq_true rfl)⟩
  · replace hP := zE_n hP h2
    refine wz_inT_y (show (1 : Int32) = i3 1 from rfl) (by omega) (by omega) (by omega) ?_
    have r5 := zH_k hZ 3 0 0 7 (lo := 0) (hi := 7) (by decide) rfl
    refine wz_i0 (i3O (n := 8) (zm_rd (Z := Z) (ν := ν) (k := 3) (show ((0 : Nat) : Int) = 0 from rfl) (show ((0 : Nat) : Int) = 0 from rfl) (show ((7 : Nat) : Int) = 7 from rfl)) (by omega) (by omega) (by omega)) ?_
    obtain ⟨Z6, hZ6, c9, hZ6I, kZ6, gZ6⟩ := zH_cpe (ν := ν) hZ (zn_add (n := 2) (i3I (y := (Z 3 0 0 7)) (zm_rd (Z := Z) (ν := ν) (k := 3) (show ((0 : Nat) : Int) = 0 from rfl) (show ((0 : Nat) : Int) = 0 from rfl) (show ((7 : Nat) : Int) = 7 from rfl)) (by omega) (by omega) (by omega))) (show ((0 : Nat) : Int) = 0 from rfl) (by omega)
    have fZ6 : zC [12, 13, 14, 40, 41, 42, 43, 44, 45, 46, 47, 48, 49, 50, 51, 52, 53, 54, 1099, 1100, 1101, 1102, 1103, 1104, 1105, 1106, 1107, 1108, 1109, 1110, 1111, 1112, 1113, 1114, 1115, 1116] Z Z6 := zC_k kZ6 (by decide) (by decide)
    have aZ6 : ∀ {k : Nat} {i j : Int}, zhk k i j = true → Z6 k 0 i j = Z k (2 + (Z 3 0 0 7)) i j := fun hk => zcp_at hZ6 hk
    have hZ6K : zC [3, 12, 13, 14, 40, 41, 42, 43, 44, 45, 46, 47, 48, 49, 50, 51, 52, 53, 54, 1099, 1100, 1101, 1102, 1103, 1104, 1105, 1106, 1107, 1108, 1109, 1110, 1111, 1112, 1113, 1114, 1115, 1116] Z Z6 := zC_t zC_r fZ6 (by decide)
    have jZ6 : zU [0] Z Z6 := zU_cp hZ6
    have hZ6U : zU [0] Z Z6 := zU_t zU_r jZ6 (zU_b1 (List.Mem.head _) zU_b0)
    replace hP := zl_e hP hZ6
    refine wz_cV_of c9 ?_
    clear c9
    have r7 := zH_k hZ6I 3 0 0 7 (lo := 0) (hi := 7) (by decide) rfl
    have q8 := fZ6 3 0 0 7 (by decide)
    obtain ⟨Z9, hZ9⟩ := zx (zu Z6 3 0 0 7 ((((Z6 3 0 0 7) + 8) - 1) % 8))
    replace hP := zl_e hP hZ9
    have hZ9I := zH_u hZ6I hZ9 (lo := 0) (hi := 7) (by decide) rfl (by omega) ⟨by decide, by decide⟩ (Or.inl (by decide)) rfl
    have hZ9U : zU [0] Z Z9 := zU_u hZ6U hZ9 (Or.inl rfl)
    have hZ9K : zC [3, 12, 13, 14, 40, 41, 42, 43, 44, 45, 46, 47, 48, 49, 50, 51, 52, 53, 54, 1099, 1100, 1101, 1102, 1103, 1104, 1105, 1106, 1107, 1108, 1109, 1110, 1111, 1112, 1113, 1114, 1115, 1116] Z Z9 := zC_u hZ6K hZ9 (by decide)
    intro μ9 e9
    replace e9 := e9.trans (zm_wI (Z := Z6) (ν := ν) hZ9 (show ((0 : Nat) : Int) = 0 from rfl) (show ((0 : Nat) : Int) = 0 from rfl) (show ((7 : Nat) : Int) = 7 from rfl) (i3R (i3S (i3A (zm_rd (Z := Z6) (ν := ν) (k := 3) (show ((0 : Nat) : Int) = 0 from rfl) (show ((0 : Nat) : Int) = 0 from rfl) (show ((7 : Nat) : Int) = 7 from rfl)) (show (8 : Int32) = i3 8 from rfl)) (show (1 : Int32) = i3 1 from rfl)) (show (8 : Int32) = i3 8 from rfl) (by omega) (by omega) (by omega) (by omega)))
    subst e9
    have r10 := zH_k hZ9I 3 0 0 8 (lo := 0) (hi := 8) (by decide) rfl
    have q11 := (zu_ne (k' := 3) (b' := 0) (i' := 0) (j' := 8) hZ9 (fun q => absurd q.2.2.2 (by decide))).trans (fZ6 3 0 0 8 (by decide))
    obtain ⟨Z12, hZ12⟩ := zx (zu Z9 3 0 0 8 ((Z9 3 0 0 8) - 1))
    replace hP := zl_e hP hZ12
    have hZ12I := zH_u hZ9I hZ12 (lo := 0) (hi := 8) (by decide) rfl (by omega) ⟨by decide, by decide⟩ (Or.inl (by decide)) rfl
    have hZ12U : zU [0] Z Z12 := zU_u hZ9U hZ12 (Or.inl rfl)
    have hZ12K : zC [3, 12, 13, 14, 40, 41, 42, 43, 44, 45, 46, 47, 48, 49, 50, 51, 52, 53, 54, 1099, 1100, 1101, 1102, 1103, 1104, 1105, 1106, 1107, 1108, 1109, 1110, 1111, 1112, 1113, 1114, 1115, 1116] Z Z12 := zC_u hZ9K hZ12 (by decide)
    intro μ9 e9
    replace e9 := e9.trans (zm_wI (Z := Z9) (ν := ν) hZ12 (show ((0 : Nat) : Int) = 0 from rfl) (show ((0 : Nat) : Int) = 0 from rfl) (show ((8 : Nat) : Int) = 8 from rfl) (i3S (zm_rd (Z := Z9) (ν := ν) (k := 3) (show ((0 : Nat) : Int) = 0 from rfl) (show ((0 : Nat) : Int) = 0 from rfl) (show ((8 : Nat) : Int) = 8 from rfl)) (show (1 : Int32) = i3 1 from rfl)))
    subst e9
    have r13 := zH_k hZ12I 3 0 0 8 (lo := 0) (hi := 8) (by decide) rfl
    have q14 := zu_at hZ12
    exact zlG hP (zm_rd (Z := Z12) (ν := ν) (k := 3) (show ((0 : Nat) : Int) = 0 from rfl) (show ((0 : Nat) : Int) = 0 from rfl) (show ((8 : Nat) : Int) = 8 from rfl)) ⟨hZ12I, hZ12K, hZ12U, zG_w zG_r (Nat.le_of_ble_eq_true rfl) (Nat.le_of_ble_eq_true rfl)⟩
/- yX11_way -/
def zx_253 (Z : qz_Z) (a1 : Int) (a2 : Int) (a3 : Int) : qz_Z × Int × Int := (if 0 ≤ a1 ∧ a1 < 6 then (if 0 ≤ a2 ∧ a2 < 6 then (if a1 ≠ a2 then (if 1 ≤ a3 ∧ a3 ≤ 12 then (zlet (zdd Z 17 a1 a2 a3 0 0 0) (fun Z5 => (zlet (zu Z5 40 0 a1 a2 a3) (fun Z6 => (zlet (zu Z6 40 0 a2 a1 a3) (fun Z7 => (Z7, (Z5 40 0 a1 a2), 0))))))) else (Z, 0, 13)) else (Z, 0, 13)) else (Z, 0, 24)) else (Z, 0, 24))
theorem sx_253 {M : Nat} {Z : qz_Z} {ν : qz_N} (hZ : zH ((none, M) : zSM) Z) (hM : ((none, M) : zSM).2 + 0 ≤ 1000000000) {a1 : Int} (ga1 : -2147483648 ≤ a1 ∧ a1 ≤ 2147483647) {a2 : Int} (ga2 : -2147483648 ≤ a2 ∧ a2 ≤ 2147483647) {a3 : Int} (ga3 : -2147483648 ≤ a3 ∧ a3 ≤ 2147483647) : ∃ (Z1 : qz_Z) (ν1 : qz_N) (v E : Int), (Z1, v, E) = zx_253 Z a1 a2 a3 ∧ qf_253 [.inr (.inr (some (0, 0, 0))), .inl (i3 a1), .inl (i3 a2), .inl (i3 a3)] (zm Z ν) = some (zm Z1 ν1, zoX v E) ∧ (fun Z1 ν1 => zH ((none, M) : zSM) Z1 ∧ zC [3, 12, 13, 14, 40, 41, 42, 43, 44, 45, 46, 47, 48, 49, 50, 51, 52, 53, 54, 61, 68, 1099, 1100, 1101, 1102, 1103, 1104, 1105, 1106, 1107, 1108, 1109, 1110, 1111, 1112, 1113, 1114, 1115, 1116] Z Z1 ∧ zU [0, 2, 3, 4, 5, 6, 7, 8, 9] Z Z1 ∧ zG 1 6 ν ν1) Z1 ν1 := by
  obtain ⟨P, hP⟩ := zx (zx_253 Z a1 a2 a3)
  refine zc_G (Q := fun Z1 ν1 => zH ((none, M) : zSM) Z1 ∧ zC [3, 12, 13, 14, 40, 41, 42, 43, 44, 45, 46, 47, 48, 49, 50, 51, 52, 53, 54, 61, 68, 1099, 1100, 1101, 1102, 1103, 1104, 1105, 1106, 1107, 1108, 1109, 1110, 1111, 1112, 1113, 1114, 1115, 1116] Z Z1 ∧ zU [0, 2, 3, 4, 5, 6, 7, 8, 9] Z Z1 ∧ zG 1 6 ν ν1) hP (fw_253 (i3 a1) (i3 a2) (i3 a3) _ _ ?_)
  replace hP : zE P (zx_253 Z a1 a2 a3) := hP
  unfold zx_253 at hP
  refine wz_thing (rfl : i3 a1 = i3 a1) (show (6 : Int32) = i3 6 from rfl) (by omega) (by omega) (by omega) (by omega) (fun h1 => ?_) (fun h1 => ?_)
  · replace hP := zE_p hP h1
    refine wz_thing (rfl : i3 a2 = i3 a2) (show (6 : Int32) = i3 6 from rfl) (by omega) (by omega) (by omega) (by omega) (fun h2 => ?_) (fun h2 => ?_)
    · replace hP := zE_p hP h2
      refine wz_br (i3NE (rfl : i3 a1 = i3 a1) (rfl : i3 a2 = i3 a2) (by omega) (by omega) (by omega) (by omega)) (fun h3 => ?_) (fun h3 => ?_)
      · replace hP := zE_p hP h3
        refine wz_inR (rfl : i3 a3 = i3 a3) (show (1 : Int32) = i3 1 from rfl) (show (12 : Int32) = i3 12 from rfl) (by omega) (by omega) (by omega) (by omega) (by omega) (by omega) (fun h4 => ?_) (fun h4 => ?_)
        · replace hP := zE_p hP h4
          refine dc_J (zcons rfl (zcons (zvi (show (17 : Int32) = i3 17 from rfl)) (zcons (zvi (rfl : i3 a1 = i3 a1)) (zcons (zvi (rfl : i3 a2 = i3 a2)) (zcons (zvi (rfl : i3 a3 = i3 a3)) (zcons (zvi (show (0 : Int32) = i3 0 from rfl)) (zcons (zvi (show (0 : Int32) = i3 0 from rfl)) (zcons (zvi (show (0 : Int32) = i3 0 from rfl)) rfl)))))))) (dg (hZ).1 (by omega) (by omega) (by omega) (by omega) (by omega) (by omega) (by omega) ?_)
          have hZ5I := zH_dd hZ (a1 := 17) (a2 := a1) (a3 := a2) (a4 := a3) (a5 := 0) (a6 := 0) (a7 := 0) (by omega) (by omega) (by omega) (by omega) (by omega) (by omega) (by omega)
          have kZ5 : zC [3, 12, 13, 14, 40, 41, 42, 43, 44, 45, 46, 47, 48, 49, 50, 51, 52, 53, 54, 61, 68, 1099, 1100, 1101, 1102, 1103, 1104, 1105, 1106, 1107, 1108, 1109, 1110, 1111, 1112, 1113, 1114, 1115, 1116] Z (zdd Z 17 a1 a2 a3 0 0 0) := zC_k zdd_K (by decide) (by decide)
          have hZ5A : (zdd Z 17 a1 a2 a3 0 0 0) 68 0 0 0 = 17 ∧ (zdd Z 17 a1 a2 a3 0 0 0) 68 0 0 1 = a1 ∧ (zdd Z 17 a1 a2 a3 0 0 0) 68 0 0 2 = a2 ∧ (zdd Z 17 a1 a2 a3 0 0 0) 68 0 0 3 = a3 ∧ (zdd Z 17 a1 a2 a3 0 0 0) 68 0 0 4 = 0 ∧ (zdd Z 17 a1 a2 a3 0 0 0) 68 0 0 5 = 0 ∧ (zdd Z 17 a1 a2 a3 0 0 0) 68 0 0 6 = 0 := ⟨zdd_68, zdd_68, zdd_68, zdd_68, zdd_68, zdd_68, zdd_68⟩
          obtain ⟨Z5, hZ5⟩ := zx (zdd Z 17 a1 a2 a3 0 0 0)
          have dZ5 : ∀ {k : Nat} {i j : Int}, zhall k = true → ¬ (k = 11 ∧ (j = 15 ∨ j = 16)) → Z5 k 0 i j = Z k 0 i j := fun hk hj => by rw [hZ5]; exact zdd_h (hZ).1 hk hj
          have jZ5 : zU [0, 2, 3, 4, 5, 6, 7, 8, 9] Z (zdd Z 17 a1 a2 a3 0 0 0) := zU_dd (hZ).1
          rw [← hZ5] at hZ5I kZ5 jZ5 hZ5A ⊢
          have hZ5U : zU [0, 2, 3, 4, 5, 6, 7, 8, 9] Z Z5 := zU_t zU_r jZ5 (zU_b1 (List.Mem.head _) (zU_b1 (List.Mem.tail _ (List.Mem.head _)) (zU_b1 (List.Mem.tail _ (List.Mem.tail _ (List.Mem.head _))) (zU_b1 (List.Mem.tail _ (List.Mem.tail _ (List.Mem.tail _ (List.Mem.head _)))) (zU_b1 (List.Mem.tail _ (List.Mem.tail _ (List.Mem.tail _ (List.Mem.tail _ (List.Mem.head _))))) (zU_b1 (List.Mem.tail _ (List.Mem.tail _ (List.Mem.tail _ (List.Mem.tail _ (List.Mem.tail _ (List.Mem.head _)))))) (zU_b1 (List.Mem.tail _ (List.Mem.tail _ (List.Mem.tail _ (List.Mem.tail _ (List.Mem.tail _ (List.Mem.tail _ (List.Mem.head _))))))) (zU_b1 (List.Mem.tail _ (List.Mem.tail _ (List.Mem.tail _ (List.Mem.tail _ (List.Mem.tail _ (List.Mem.tail _ (List.Mem.tail _ (List.Mem.head _)))))))) (zU_b1 (List.Mem.tail _ (List.Mem.tail _ (List.Mem.tail _ (List.Mem.tail _ (List.Mem.tail _ (List.Mem.tail _ (List.Mem.tail _ (List.Mem.tail _ (List.Mem.head _))))))))) zU_b0)))))))))
          replace hP := zl_e hP hZ5
          have hZ5K : zC [3, 12, 13, 14, 40, 41, 42, 43, 44, 45, 46, 47, 48, 49, 50, 51, 52, 53, 54, 61, 68, 1099, 1100, 1101, 1102, 1103, 1104, 1105, 1106, 1107, 1108, 1109, 1110, 1111, 1112, 1113, 1114, 1115, 1116] Z Z5 := zC_t zC_r kZ5 (by decide)
          clear kZ5 hZ5
          refine fw_121 _ _ _ _ ?_
          refine wz_i1 rfl ?_
          refine wz_i0 (i3O (n := 7) (show (0 : Int32) = i3 0 from rfl) (by omega) (by omega) (by omega)) ?_
          refine wz_i0 (Eq.trans (i3To (Eq.trans (zm_rd (Z := Z5) (ν := ν) (k := 68) (show ((0 : Nat) : Int) = 0 from rfl) (show ((0 : Nat) : Int) = 0 from rfl) (show ((0 : Nat) : Int) = 0 from rfl)) (congrArg i3 ((hZ5A.1)))) (by omega) (by omega)) (decide_eq_false (by omega))) ?_
          refine wz_i0 (Eq.trans (i3T (Eq.trans (zm_rd (Z := Z5) (ν := ν) (k := 68) (show ((0 : Nat) : Int) = 0 from rfl) (show ((0 : Nat) : Int) = 0 from rfl) (show ((0 : Nat) : Int) = 0 from rfl)) (congrArg i3 ((hZ5A.1)))) (by omega) (by omega)) (decide_eq_false (by omega))) ?_
          refine wz_i0 (Eq.trans (i3T (Eq.trans (zm_rd (Z := Z5) (ν := ν) (k := 68) (show ((0 : Nat) : Int) = 0 from rfl) (show ((0 : Nat) : Int) = 0 from rfl) (show ((0 : Nat) : Int) = 0 from rfl)) (congrArg i3 ((hZ5A.1)))) (by omega) (by omega)) (decide_eq_false (by omega))) ?_
          refine wz_i0 (Eq.trans (i3T (Eq.trans (zm_rd (Z := Z5) (ν := ν) (k := 68) (show ((0 : Nat) : Int) = 0 from rfl) (show ((0 : Nat) : Int) = 0 from rfl) (show ((0 : Nat) : Int) = 0 from rfl)) (congrArg i3 ((hZ5A.1)))) (by omega) (by omega)) (decide_eq_false (by omega))) ?_
          refine wz_i0 (Eq.trans (i3T (Eq.trans (zm_rd (Z := Z5) (ν := ν) (k := 68) (show ((0 : Nat) : Int) = 0 from rfl) (show ((0 : Nat) : Int) = 0 from rfl) (show ((0 : Nat) : Int) = 0 from rfl)) (congrArg i3 ((hZ5A.1)))) (by omega) (by omega)) (decide_eq_false (by omega))) ?_
          refine wz_i0 (Eq.trans (i3T (Eq.trans (zm_rd (Z := Z5) (ν := ν) (k := 68) (show ((0 : Nat) : Int) = 0 from rfl) (show ((0 : Nat) : Int) = 0 from rfl) (show ((0 : Nat) : Int) = 0 from rfl)) (congrArg i3 ((hZ5A.1)))) (by omega) (by omega)) (decide_eq_false (by omega))) ?_
          refine wz_i0 (Eq.trans (i3T (Eq.trans (zm_rd (Z := Z5) (ν := ν) (k := 68) (show ((0 : Nat) : Int) = 0 from rfl) (show ((0 : Nat) : Int) = 0 from rfl) (show ((0 : Nat) : Int) = 0 from rfl)) (congrArg i3 ((hZ5A.1)))) (by omega) (by omega)) (decide_eq_false (by omega))) ?_
          refine wz_i0 (Eq.trans (i3T (Eq.trans (zm_rd (Z := Z5) (ν := ν) (k := 68) (show ((0 : Nat) : Int) = 0 from rfl) (show ((0 : Nat) : Int) = 0 from rfl) (show ((0 : Nat) : Int) = 0 from rfl)) (congrArg i3 ((hZ5A.1)))) (by omega) (by omega)) (decide_eq_false (by omega))) ?_
          refine wz_i0 (Eq.trans (i3T (Eq.trans (zm_rd (Z := Z5) (ν := ν) (k := 68) (show ((0 : Nat) : Int) = 0 from rfl) (show ((0 : Nat) : Int) = 0 from rfl) (show ((0 : Nat) : Int) = 0 from rfl)) (congrArg i3 ((hZ5A.1)))) (by omega) (by omega)) (decide_eq_false (by omega))) ?_
          refine wz_i0 (Eq.trans (i3T (Eq.trans (zm_rd (Z := Z5) (ν := ν) (k := 68) (show ((0 : Nat) : Int) = 0 from rfl) (show ((0 : Nat) : Int) = 0 from rfl) (show ((0 : Nat) : Int) = 0 from rfl)) (congrArg i3 ((hZ5A.1)))) (by omega) (by omega)) (decide_eq_false (by omega))) ?_
          refine wz_i0 (Eq.trans (i3T (Eq.trans (zm_rd (Z := Z5) (ν := ν) (k := 68) (show ((0 : Nat) : Int) = 0 from rfl) (show ((0 : Nat) : Int) = 0 from rfl) (show ((0 : Nat) : Int) = 0 from rfl)) (congrArg i3 ((hZ5A.1)))) (by omega) (by omega)) (decide_eq_false (by omega))) ?_
          refine wz_i0 (Eq.trans (i3T (Eq.trans (zm_rd (Z := Z5) (ν := ν) (k := 68) (show ((0 : Nat) : Int) = 0 from rfl) (show ((0 : Nat) : Int) = 0 from rfl) (show ((0 : Nat) : Int) = 0 from rfl)) (congrArg i3 ((hZ5A.1)))) (by omega) (by omega)) (decide_eq_false (by omega))) ?_
          refine wz_i0 (Eq.trans (i3T (Eq.trans (zm_rd (Z := Z5) (ν := ν) (k := 68) (show ((0 : Nat) : Int) = 0 from rfl) (show ((0 : Nat) : Int) = 0 from rfl) (show ((0 : Nat) : Int) = 0 from rfl)) (congrArg i3 ((hZ5A.1)))) (by omega) (by omega)) (decide_eq_false (by omega))) ?_
          refine wz_i0 (Eq.trans (i3T (Eq.trans (zm_rd (Z := Z5) (ν := ν) (k := 68) (show ((0 : Nat) : Int) = 0 from rfl) (show ((0 : Nat) : Int) = 0 from rfl) (show ((0 : Nat) : Int) = 0 from rfl)) (congrArg i3 ((hZ5A.1)))) (by omega) (by omega)) (decide_eq_false (by omega))) ?_
          refine wz_i0 (Eq.trans (i3T (Eq.trans (zm_rd (Z := Z5) (ν := ν) (k := 68) (show ((0 : Nat) : Int) = 0 from rfl) (show ((0 : Nat) : Int) = 0 from rfl) (show ((0 : Nat) : Int) = 0 from rfl)) (congrArg i3 ((hZ5A.1)))) (by omega) (by omega)) (decide_eq_false (by omega))) ?_
          refine wz_i0 (Eq.trans (i3T (Eq.trans (zm_rd (Z := Z5) (ν := ν) (k := 68) (show ((0 : Nat) : Int) = 0 from rfl) (show ((0 : Nat) : Int) = 0 from rfl) (show ((0 : Nat) : Int) = 0 from rfl)) (congrArg i3 ((hZ5A.1)))) (by omega) (by omega)) (decide_eq_false (by omega))) ?_
          refine wz_i0 (Eq.trans (i3T (Eq.trans (zm_rd (Z := Z5) (ν := ν) (k := 68) (show ((0 : Nat) : Int) = 0 from rfl) (show ((0 : Nat) : Int) = 0 from rfl) (show ((0 : Nat) : Int) = 0 from rfl)) (congrArg i3 ((hZ5A.1)))) (by omega) (by omega)) (decide_eq_false (by omega))) ?_
          refine wz_i0 (Eq.trans (i3T (Eq.trans (zm_rd (Z := Z5) (ν := ν) (k := 68) (show ((0 : Nat) : Int) = 0 from rfl) (show ((0 : Nat) : Int) = 0 from rfl) (show ((0 : Nat) : Int) = 0 from rfl)) (congrArg i3 ((hZ5A.1)))) (by omega) (by omega)) (decide_eq_false (by omega))) ?_
          refine wz_i1 (Eq.trans (i3T (Eq.trans (zm_rd (Z := Z5) (ν := ν) (k := 68) (show ((0 : Nat) : Int) = 0 from rfl) (show ((0 : Nat) : Int) = 0 from rfl) (show ((0 : Nat) : Int) = 0 from rfl)) (congrArg i3 ((hZ5A.1)))) (by omega) (by omega)) (decide_eq_true (by omega))) ?_
          refine wz_i1 rfl ?_
          refine wz_i0 (i3O (n := 7) (show (1 : Int32) = i3 1 from rfl) (by omega) (by omega) (by omega)) ?_
          refine wz_i1 rfl ?_
          refine wz_i0 (i3O (n := 7) (show (2 : Int32) = i3 2 from rfl) (by omega) (by omega) (by omega)) ?_
          refine wz_i1 rfl ?_
          refine wz_i0 (i3O (n := 7) (show (3 : Int32) = i3 3 from rfl) (by omega) (by omega) (by omega)) ?_
          refine wz_i0 (i3O (n := 6) (Eq.trans (zm_rd (Z := Z5) (ν := ν) (k := 68) (show ((0 : Nat) : Int) = 0 from rfl) (show ((0 : Nat) : Int) = 0 from rfl) (show ((1 : Nat) : Int) = 1 from rfl)) (congrArg i3 ((hZ5A.2.1)))) (by omega) (by omega) (by omega)) ?_
          refine wz_i0 (i3O (n := 6) (Eq.trans (zm_rd (Z := Z5) (ν := ν) (k := 68) (show ((0 : Nat) : Int) = 0 from rfl) (show ((0 : Nat) : Int) = 0 from rfl) (show ((2 : Nat) : Int) = 2 from rfl)) (congrArg i3 ((hZ5A.2.2.1)))) (by omega) (by omega) (by omega)) ?_
          refine wz_i0 (i3O (n := 6) (Eq.trans (zm_rd (Z := Z5) (ν := ν) (k := 68) (show ((0 : Nat) : Int) = 0 from rfl) (show ((0 : Nat) : Int) = 0 from rfl) (show ((1 : Nat) : Int) = 1 from rfl)) (congrArg i3 ((hZ5A.2.1)))) (by omega) (by omega) (by omega)) ?_
          refine wz_i0 (i3O (n := 6) (Eq.trans (zm_rd (Z := Z5) (ν := ν) (k := 68) (show ((0 : Nat) : Int) = 0 from rfl) (show ((0 : Nat) : Int) = 0 from rfl) (show ((2 : Nat) : Int) = 2 from rfl)) (congrArg i3 ((hZ5A.2.2.1)))) (by omega) (by omega) (by omega)) ?_
          obtain ⟨Z6, hZ6⟩ := zx (zu Z5 40 0 a1 a2 a3)
          replace hP := zl_e hP hZ6
          have hZ6I := zH_u hZ5I hZ6 (lo := 0) (hi := 12) (by decide) (zrc_40 (by omega) (by omega)) (by omega) ⟨by decide, by decide⟩ (Or.inl (by decide)) rfl
          have hZ6U : zU [0, 2, 3, 4, 5, 6, 7, 8, 9] Z Z6 := zU_u hZ5U hZ6 (Or.inr (List.Mem.head _))
          have hZ6K : zC [3, 12, 13, 14, 40, 41, 42, 43, 44, 45, 46, 47, 48, 49, 50, 51, 52, 53, 54, 61, 68, 1099, 1100, 1101, 1102, 1103, 1104, 1105, 1106, 1107, 1108, 1109, 1110, 1111, 1112, 1113, 1114, 1115, 1116] Z Z6 := zC_u hZ5K hZ6 rfl
          intro μ9 e9
          replace e9 := e9.trans (zm_wI (Z := Z5) (ν := ν) hZ6 (show ((0 : Nat) : Int) = 0 from rfl) (i3I (y := a1) (Eq.trans (zm_rd (Z := Z5) (ν := ν) (k := 68) (show ((0 : Nat) : Int) = 0 from rfl) (show ((0 : Nat) : Int) = 0 from rfl) (show ((1 : Nat) : Int) = 1 from rfl)) (congrArg i3 ((hZ5A.2.1)))) (by omega) (by omega) (by omega)) (i3I (y := a2) (Eq.trans (zm_rd (Z := Z5) (ν := ν) (k := 68) (show ((0 : Nat) : Int) = 0 from rfl) (show ((0 : Nat) : Int) = 0 from rfl) (show ((2 : Nat) : Int) = 2 from rfl)) (congrArg i3 ((hZ5A.2.2.1)))) (by omega) (by omega) (by omega)) (Eq.trans (zm_rd (Z := Z5) (ν := ν) (k := 68) (show ((0 : Nat) : Int) = 0 from rfl) (show ((0 : Nat) : Int) = 0 from rfl) (show ((3 : Nat) : Int) = 3 from rfl)) (congrArg i3 ((hZ5A.2.2.2.1)))))
          subst e9
          refine wz_i0 (i3O (n := 6) (Eq.trans (zm_rd (Z := Z5) (ν := ν) (k := 68) (show ((0 : Nat) : Int) = 0 from rfl) (show ((0 : Nat) : Int) = 0 from rfl) (show ((2 : Nat) : Int) = 2 from rfl)) (congrArg i3 ((hZ5A.2.2.1)))) (by omega) (by omega) (by omega)) ?_
          refine wz_i0 (i3O (n := 6) (Eq.trans (zm_rd (Z := Z5) (ν := ν) (k := 68) (show ((0 : Nat) : Int) = 0 from rfl) (show ((0 : Nat) : Int) = 0 from rfl) (show ((1 : Nat) : Int) = 1 from rfl)) (congrArg i3 ((hZ5A.2.1)))) (by omega) (by omega) (by omega)) ?_
          obtain ⟨Z7, hZ7⟩ := zx (zu Z6 40 0 a2 a1 a3)
          replace hP := zl_e hP hZ7
          have hZ7I := zH_u hZ6I hZ7 (lo := 0) (hi := 12) (by decide) (zrc_40 (by omega) (by omega)) (by omega) ⟨by decide, by decide⟩ (Or.inl (by decide)) rfl
          have hZ7U : zU [0, 2, 3, 4, 5, 6, 7, 8, 9] Z Z7 := zU_u hZ6U hZ7 (Or.inr (List.Mem.head _))
          have hZ7K : zC [3, 12, 13, 14, 40, 41, 42, 43, 44, 45, 46, 47, 48, 49, 50, 51, 52, 53, 54, 61, 68, 1099, 1100, 1101, 1102, 1103, 1104, 1105, 1106, 1107, 1108, 1109, 1110, 1111, 1112, 1113, 1114, 1115, 1116] Z Z7 := zC_u hZ6K hZ7 rfl
          intro μ9 e9
          replace e9 := e9.trans (zm_wI (Z := Z6) (ν := ν) hZ7 (show ((0 : Nat) : Int) = 0 from rfl) (i3I (y := a2) (Eq.trans (zm_rd (Z := Z5) (ν := ν) (k := 68) (show ((0 : Nat) : Int) = 0 from rfl) (show ((0 : Nat) : Int) = 0 from rfl) (show ((2 : Nat) : Int) = 2 from rfl)) (congrArg i3 ((hZ5A.2.2.1)))) (by omega) (by omega) (by omega)) (i3I (y := a1) (Eq.trans (zm_rd (Z := Z5) (ν := ν) (k := 68) (show ((0 : Nat) : Int) = 0 from rfl) (show ((0 : Nat) : Int) = 0 from rfl) (show ((1 : Nat) : Int) = 1 from rfl)) (congrArg i3 ((hZ5A.2.1)))) (by omega) (by omega) (by omega)) (Eq.trans (zm_rd (Z := Z5) (ν := ν) (k := 68) (show ((0 : Nat) : Int) = 0 from rfl) (show ((0 : Nat) : Int) = 0 from rfl) (show ((3 : Nat) : Int) = 3 from rfl)) (congrArg i3 ((hZ5A.2.2.2.1)))))
          subst e9
          have r8 := zH_k hZ5I 40 0 a1 a2 (lo := 0) (hi := 12) (by decide) (zrc_40 (by omega) (by omega))
          exact zlG hP (zm_rd (Z := Z5) (ν := ν) (k := 40) (show ((0 : Nat) : Int) = 0 from rfl) (i3I (y := a1) (Eq.trans (zm_rd (Z := Z5) (ν := ν) (k := 68) (show ((0 : Nat) : Int) = 0 from rfl) (show ((0 : Nat) : Int) = 0 from rfl) (show ((1 : Nat) : Int) = 1 from rfl)) (congrArg i3 ((hZ5A.2.1)))) (by omega) (by omega) (by omega)) (i3I (y := a2) (Eq.trans (zm_rd (Z := Z5) (ν := ν) (k := 68) (show ((0 : Nat) : Int) = 0 from rfl) (show ((0 : Nat) : Int) = 0 from rfl) (show ((2 : Nat) : Int) = 2 from rfl)) (congrArg i3 ((hZ5A.2.2.1)))) (by omega) (by omega) (by omega))) ⟨hZ7I, hZ7K, hZ7U, zG_w zG_r (Nat.le_of_ble_eq_true rfl) (Nat.le_of_ble_eq_true rfl)⟩
        · replace hP := zE_n hP h4
          exact zlGe (E := 12) hP ⟨hZ, zC_r, zU_r, zG_w (zG_k rfl) (Nat.le_of_ble_eq_true rfl) (Nat.le_of_ble_eq_true rfl)⟩
      · replace hP := zE_n hP h3
        exact zlGe (E := 12) hP ⟨hZ, zC_r, zU_r, zG_w (zG_k rfl) (Nat.le_of_ble_eq_true rfl) (Nat.le_of_ble_eq_true rfl)⟩
    · replace hP := zE_n hP h2
      exact zlGe (E := 23) hP ⟨hZ, zC_r, zU_r, zG_w (zG_k rfl) (Nat.le_of_ble_eq_true rfl) (Nat.le_of_ble_eq_true rfl)⟩
  · replace hP := zE_n hP h1
    exact zlGe (E := 23) hP ⟨hZ, zC_r, zU_r, zG_w (zG_k rfl) (Nat.le_of_ble_eq_true rfl) (Nat.le_of_ble_eq_true rfl)⟩
/- yX11_withdraw -/
def zx_254 (Z : qz_Z) (a1 : Int) : qz_Z × Int × Int := (if a1 < 0 then (Z, 0, 24) else (if a1 < (Z 11 0 0 3) then (if (Z 44 0 a1 10) ≠ 1 then (Z, 0, 15) else (zlet (zdd Z 16 a1 0 0 0 0 0) (fun Z6 => (zlet2 (zf_76 Z6 0 a1) (fun Z7 v8 => (Z7, v8, 0)))))) else (Z, 0, 24)))
theorem sx_254 {M : Nat} {Z : qz_Z} {ν : qz_N} (hZ : zH ((none, M) : zSM) Z) (hM : ((none, M) : zSM).2 + 0 ≤ 1000000000) {a1 : Int} (ga1 : -2147483648 ≤ a1 ∧ a1 ≤ 2147483647) (hLt0 : zLt 0 Z) : ∃ (Z1 : qz_Z) (ν1 : qz_N) (v E : Int), (Z1, v, E) = zx_254 Z a1 ∧ qf_254 [.inr (.inr (some (0, 0, 0))), .inl (i3 a1)] (zm Z ν) = some (zm Z1 ν1, zoX v E) ∧ (fun Z1 ν1 => zH ((none, M) : zSM) Z1 ∧ zC [3, 12, 13, 14, 40, 41, 42, 43, 44, 45, 46, 47, 48, 49, 50, 51, 52, 53, 54, 61, 68, 1099, 1100, 1101, 1102, 1103, 1104, 1105, 1106, 1107, 1108, 1109, 1110, 1111, 1112, 1113, 1114, 1115, 1116] Z Z1 ∧ zU [0, 2, 3, 4, 5, 6, 7, 8, 9] Z Z1 ∧ zG 1 6 ν ν1) Z1 ν1 := by
  obtain ⟨P, hP⟩ := zx (zx_254 Z a1)
  refine zc_G (Q := fun Z1 ν1 => zH ((none, M) : zSM) Z1 ∧ zC [3, 12, 13, 14, 40, 41, 42, 43, 44, 45, 46, 47, 48, 49, 50, 51, 52, 53, 54, 61, 68, 1099, 1100, 1101, 1102, 1103, 1104, 1105, 1106, 1107, 1108, 1109, 1110, 1111, 1112, 1113, 1114, 1115, 1116] Z Z1 ∧ zU [0, 2, 3, 4, 5, 6, 7, 8, 9] Z Z1 ∧ zG 1 6 ν ν1) hP (fw_254 (i3 a1) _ _ ?_)
  replace hP : zE P (zx_254 Z a1) := hP
  unfold zx_254 at hP
  refine wz_br (i3L (rfl : i3 a1 = i3 a1) (show (0 : Int32) = i3 0 from rfl) (by omega) (by omega) (by omega) (by omega)) (fun h1 => ?_) (fun h1 => ?_)
  · replace hP := zE_p hP h1
    exact zlGe (E := 23) hP ⟨hZ, zC_r, zU_r, zG_w (zG_k rfl) (Nat.le_of_ble_eq_true rfl) (Nat.le_of_ble_eq_true rfl)⟩
  · replace hP := zE_n hP h1
    have r2 := zH_k hZ 11 0 0 3 (lo := 0) (hi := 48) (by decide) rfl
    refine wz_br (i3L (rfl : i3 a1 = i3 a1) (zm_rd (Z := Z) (ν := ν) (k := 11) (show ((0 : Nat) : Int) = 0 from rfl) (show ((0 : Nat) : Int) = 0 from rfl) (show ((3 : Nat) : Int) = 3 from rfl)) (by omega) (by omega) (by omega) (by omega)) (fun h3 => ?_) (fun h3 => ?_)
    · replace hP := zE_p hP h3
      refine wz_i0 (i3O (n := 48) (rfl : i3 a1 = i3 a1) (by omega) (by omega) (by omega)) ?_
      have r4 := zH_k hZ 44 0 a1 10 (lo := 0) (hi := 4) (by decide) rfl
      refine wz_br (i3NE (zm_rd (Z := Z) (ν := ν) (k := 44) (show ((0 : Nat) : Int) = 0 from rfl) (i3I (y := a1) (rfl : i3 a1 = i3 a1) (by omega) (by omega) (by omega)) (show ((10 : Nat) : Int) = 10 from rfl)) (show (1 : Int32) = i3 1 from rfl) (by omega) (by omega) (by omega) (by omega)) (fun h5 => ?_) (fun h5 => ?_)
      · replace hP := zE_p hP h5
        exact zlGe (E := 14) hP ⟨hZ, zC_r, zU_r, zG_w (zG_k rfl) (Nat.le_of_ble_eq_true rfl) (Nat.le_of_ble_eq_true rfl)⟩
      · replace hP := zE_n hP h5
        refine dc_J (zcons rfl (zcons (zvi (show (16 : Int32) = i3 16 from rfl)) (zcons (zvi (rfl : i3 a1 = i3 a1)) (zcons (zvi (show (0 : Int32) = i3 0 from rfl)) (zcons (zvi (show (0 : Int32) = i3 0 from rfl)) (zcons (zvi (show (0 : Int32) = i3 0 from rfl)) (zcons (zvi (show (0 : Int32) = i3 0 from rfl)) (zcons (zvi (show (0 : Int32) = i3 0 from rfl)) rfl)))))))) (dg (hZ).1 (by omega) (by omega) (by omega) (by omega) (by omega) (by omega) (by omega) ?_)
        have hZ6I := zH_dd hZ (a1 := 16) (a2 := a1) (a3 := 0) (a4 := 0) (a5 := 0) (a6 := 0) (a7 := 0) (by omega) (by omega) (by omega) (by omega) (by omega) (by omega) (by omega)
        have kZ6 : zC [3, 12, 13, 14, 40, 41, 42, 43, 44, 45, 46, 47, 48, 49, 50, 51, 52, 53, 54, 61, 68, 1099, 1100, 1101, 1102, 1103, 1104, 1105, 1106, 1107, 1108, 1109, 1110, 1111, 1112, 1113, 1114, 1115, 1116] Z (zdd Z 16 a1 0 0 0 0 0) := zC_k zdd_K (by decide) (by decide)
        have hZ6A : (zdd Z 16 a1 0 0 0 0 0) 68 0 0 0 = 16 ∧ (zdd Z 16 a1 0 0 0 0 0) 68 0 0 1 = a1 ∧ (zdd Z 16 a1 0 0 0 0 0) 68 0 0 2 = 0 ∧ (zdd Z 16 a1 0 0 0 0 0) 68 0 0 3 = 0 ∧ (zdd Z 16 a1 0 0 0 0 0) 68 0 0 4 = 0 ∧ (zdd Z 16 a1 0 0 0 0 0) 68 0 0 5 = 0 ∧ (zdd Z 16 a1 0 0 0 0 0) 68 0 0 6 = 0 := ⟨zdd_68, zdd_68, zdd_68, zdd_68, zdd_68, zdd_68, zdd_68⟩
        obtain ⟨Z6, hZ6⟩ := zx (zdd Z 16 a1 0 0 0 0 0)
        have dZ6 : ∀ {k : Nat} {i j : Int}, zhall k = true → ¬ (k = 11 ∧ (j = 15 ∨ j = 16)) → Z6 k 0 i j = Z k 0 i j := fun hk hj => by rw [hZ6]; exact zdd_h (hZ).1 hk hj
        have jZ6 : zU [0, 2, 3, 4, 5, 6, 7, 8, 9] Z (zdd Z 16 a1 0 0 0 0 0) := zU_dd (hZ).1
        rw [← hZ6] at hZ6I kZ6 jZ6 hZ6A ⊢
        have hZ6U : zU [0, 2, 3, 4, 5, 6, 7, 8, 9] Z Z6 := zU_t zU_r jZ6 (zU_b1 (List.Mem.head _) (zU_b1 (List.Mem.tail _ (List.Mem.head _)) (zU_b1 (List.Mem.tail _ (List.Mem.tail _ (List.Mem.head _))) (zU_b1 (List.Mem.tail _ (List.Mem.tail _ (List.Mem.tail _ (List.Mem.head _)))) (zU_b1 (List.Mem.tail _ (List.Mem.tail _ (List.Mem.tail _ (List.Mem.tail _ (List.Mem.head _))))) (zU_b1 (List.Mem.tail _ (List.Mem.tail _ (List.Mem.tail _ (List.Mem.tail _ (List.Mem.tail _ (List.Mem.head _)))))) (zU_b1 (List.Mem.tail _ (List.Mem.tail _ (List.Mem.tail _ (List.Mem.tail _ (List.Mem.tail _ (List.Mem.tail _ (List.Mem.head _))))))) (zU_b1 (List.Mem.tail _ (List.Mem.tail _ (List.Mem.tail _ (List.Mem.tail _ (List.Mem.tail _ (List.Mem.tail _ (List.Mem.tail _ (List.Mem.head _)))))))) (zU_b1 (List.Mem.tail _ (List.Mem.tail _ (List.Mem.tail _ (List.Mem.tail _ (List.Mem.tail _ (List.Mem.tail _ (List.Mem.tail _ (List.Mem.tail _ (List.Mem.head _))))))))) zU_b0)))))))))
        replace hP := zl_e hP hZ6
        have hZ6K : zC [3, 12, 13, 14, 40, 41, 42, 43, 44, 45, 46, 47, 48, 49, 50, 51, 52, 53, 54, 61, 68, 1099, 1100, 1101, 1102, 1103, 1104, 1105, 1106, 1107, 1108, 1109, 1110, 1111, 1112, 1113, 1114, 1115, 1116] Z Z6 := zC_t zC_r kZ6 (by decide)
        clear kZ6 hZ6
        refine fw_121 _ _ _ _ ?_
        refine wz_i1 rfl ?_
        refine wz_i0 (i3O (n := 7) (show (0 : Int32) = i3 0 from rfl) (by omega) (by omega) (by omega)) ?_
        refine wz_i0 (Eq.trans (i3To (Eq.trans (zm_rd (Z := Z6) (ν := ν) (k := 68) (show ((0 : Nat) : Int) = 0 from rfl) (show ((0 : Nat) : Int) = 0 from rfl) (show ((0 : Nat) : Int) = 0 from rfl)) (congrArg i3 ((hZ6A.1)))) (by omega) (by omega)) (decide_eq_false (by omega))) ?_
        refine wz_i0 (Eq.trans (i3T (Eq.trans (zm_rd (Z := Z6) (ν := ν) (k := 68) (show ((0 : Nat) : Int) = 0 from rfl) (show ((0 : Nat) : Int) = 0 from rfl) (show ((0 : Nat) : Int) = 0 from rfl)) (congrArg i3 ((hZ6A.1)))) (by omega) (by omega)) (decide_eq_false (by omega))) ?_
        refine wz_i0 (Eq.trans (i3T (Eq.trans (zm_rd (Z := Z6) (ν := ν) (k := 68) (show ((0 : Nat) : Int) = 0 from rfl) (show ((0 : Nat) : Int) = 0 from rfl) (show ((0 : Nat) : Int) = 0 from rfl)) (congrArg i3 ((hZ6A.1)))) (by omega) (by omega)) (decide_eq_false (by omega))) ?_
        refine wz_i0 (Eq.trans (i3T (Eq.trans (zm_rd (Z := Z6) (ν := ν) (k := 68) (show ((0 : Nat) : Int) = 0 from rfl) (show ((0 : Nat) : Int) = 0 from rfl) (show ((0 : Nat) : Int) = 0 from rfl)) (congrArg i3 ((hZ6A.1)))) (by omega) (by omega)) (decide_eq_false (by omega))) ?_
        refine wz_i0 (Eq.trans (i3T (Eq.trans (zm_rd (Z := Z6) (ν := ν) (k := 68) (show ((0 : Nat) : Int) = 0 from rfl) (show ((0 : Nat) : Int) = 0 from rfl) (show ((0 : Nat) : Int) = 0 from rfl)) (congrArg i3 ((hZ6A.1)))) (by omega) (by omega)) (decide_eq_false (by omega))) ?_
        refine wz_i0 (Eq.trans (i3T (Eq.trans (zm_rd (Z := Z6) (ν := ν) (k := 68) (show ((0 : Nat) : Int) = 0 from rfl) (show ((0 : Nat) : Int) = 0 from rfl) (show ((0 : Nat) : Int) = 0 from rfl)) (congrArg i3 ((hZ6A.1)))) (by omega) (by omega)) (decide_eq_false (by omega))) ?_
        refine wz_i0 (Eq.trans (i3T (Eq.trans (zm_rd (Z := Z6) (ν := ν) (k := 68) (show ((0 : Nat) : Int) = 0 from rfl) (show ((0 : Nat) : Int) = 0 from rfl) (show ((0 : Nat) : Int) = 0 from rfl)) (congrArg i3 ((hZ6A.1)))) (by omega) (by omega)) (decide_eq_false (by omega))) ?_
        refine wz_i0 (Eq.trans (i3T (Eq.trans (zm_rd (Z := Z6) (ν := ν) (k := 68) (show ((0 : Nat) : Int) = 0 from rfl) (show ((0 : Nat) : Int) = 0 from rfl) (show ((0 : Nat) : Int) = 0 from rfl)) (congrArg i3 ((hZ6A.1)))) (by omega) (by omega)) (decide_eq_false (by omega))) ?_
        refine wz_i0 (Eq.trans (i3T (Eq.trans (zm_rd (Z := Z6) (ν := ν) (k := 68) (show ((0 : Nat) : Int) = 0 from rfl) (show ((0 : Nat) : Int) = 0 from rfl) (show ((0 : Nat) : Int) = 0 from rfl)) (congrArg i3 ((hZ6A.1)))) (by omega) (by omega)) (decide_eq_false (by omega))) ?_
        refine wz_i0 (Eq.trans (i3T (Eq.trans (zm_rd (Z := Z6) (ν := ν) (k := 68) (show ((0 : Nat) : Int) = 0 from rfl) (show ((0 : Nat) : Int) = 0 from rfl) (show ((0 : Nat) : Int) = 0 from rfl)) (congrArg i3 ((hZ6A.1)))) (by omega) (by omega)) (decide_eq_false (by omega))) ?_
        refine wz_i0 (Eq.trans (i3T (Eq.trans (zm_rd (Z := Z6) (ν := ν) (k := 68) (show ((0 : Nat) : Int) = 0 from rfl) (show ((0 : Nat) : Int) = 0 from rfl) (show ((0 : Nat) : Int) = 0 from rfl)) (congrArg i3 ((hZ6A.1)))) (by omega) (by omega)) (decide_eq_false (by omega))) ?_
        refine wz_i0 (Eq.trans (i3T (Eq.trans (zm_rd (Z := Z6) (ν := ν) (k := 68) (show ((0 : Nat) : Int) = 0 from rfl) (show ((0 : Nat) : Int) = 0 from rfl) (show ((0 : Nat) : Int) = 0 from rfl)) (congrArg i3 ((hZ6A.1)))) (by omega) (by omega)) (decide_eq_false (by omega))) ?_
        refine wz_i0 (Eq.trans (i3T (Eq.trans (zm_rd (Z := Z6) (ν := ν) (k := 68) (show ((0 : Nat) : Int) = 0 from rfl) (show ((0 : Nat) : Int) = 0 from rfl) (show ((0 : Nat) : Int) = 0 from rfl)) (congrArg i3 ((hZ6A.1)))) (by omega) (by omega)) (decide_eq_false (by omega))) ?_
        refine wz_i0 (Eq.trans (i3T (Eq.trans (zm_rd (Z := Z6) (ν := ν) (k := 68) (show ((0 : Nat) : Int) = 0 from rfl) (show ((0 : Nat) : Int) = 0 from rfl) (show ((0 : Nat) : Int) = 0 from rfl)) (congrArg i3 ((hZ6A.1)))) (by omega) (by omega)) (decide_eq_false (by omega))) ?_
        refine wz_i0 (Eq.trans (i3T (Eq.trans (zm_rd (Z := Z6) (ν := ν) (k := 68) (show ((0 : Nat) : Int) = 0 from rfl) (show ((0 : Nat) : Int) = 0 from rfl) (show ((0 : Nat) : Int) = 0 from rfl)) (congrArg i3 ((hZ6A.1)))) (by omega) (by omega)) (decide_eq_false (by omega))) ?_
        refine wz_i0 (Eq.trans (i3T (Eq.trans (zm_rd (Z := Z6) (ν := ν) (k := 68) (show ((0 : Nat) : Int) = 0 from rfl) (show ((0 : Nat) : Int) = 0 from rfl) (show ((0 : Nat) : Int) = 0 from rfl)) (congrArg i3 ((hZ6A.1)))) (by omega) (by omega)) (decide_eq_false (by omega))) ?_
        refine wz_i0 (Eq.trans (i3T (Eq.trans (zm_rd (Z := Z6) (ν := ν) (k := 68) (show ((0 : Nat) : Int) = 0 from rfl) (show ((0 : Nat) : Int) = 0 from rfl) (show ((0 : Nat) : Int) = 0 from rfl)) (congrArg i3 ((hZ6A.1)))) (by omega) (by omega)) (decide_eq_false (by omega))) ?_
        refine wz_i1 (Eq.trans (i3T (Eq.trans (zm_rd (Z := Z6) (ν := ν) (k := 68) (show ((0 : Nat) : Int) = 0 from rfl) (show ((0 : Nat) : Int) = 0 from rfl) (show ((0 : Nat) : Int) = 0 from rfl)) (congrArg i3 ((hZ6A.1)))) (by omega) (by omega)) (decide_eq_true (by omega))) ?_
        refine wz_i1 rfl ?_
        refine wz_i0 (i3O (n := 7) (show (1 : Int32) = i3 1 from rfl) (by omega) (by omega) (by omega)) ?_
        obtain ⟨Z7, v8, hv8, c9, hZ7I, kZ7, jZ7, lv8, uv8, tZ7_a0b⟩ := sp_76 (ν := ν) hZ6I 0 (a1 := a1) (by omega) (zLt_d hLt0 dZ6) (zbh (c := 0) (k := 0) hM (Nat.le_of_ble_eq_true rfl))
        have hZ7U : zU [0, 2, 3, 4, 5, 6, 7, 8, 9] Z Z7 := zU_t hZ6U jZ7 (zU_b1 (List.Mem.head _) zU_b0)
        have hZ7K : zC [3, 12, 13, 14, 40, 41, 42, 43, 44, 45, 46, 47, 48, 49, 50, 51, 52, 53, 54, 61, 68, 1099, 1100, 1101, 1102, 1103, 1104, 1105, 1106, 1107, 1108, 1109, 1110, 1111, 1112, 1113, 1114, 1115, 1116] Z Z7 := zC_t hZ6K kZ7 (by decide)
        replace hP := zl_e2 hP hv8
        refine wz_cI_of (zas (zcons rfl (zcons (zvi (Eq.trans (zm_rd (Z := Z6) (ν := ν) (k := 68) (show ((0 : Nat) : Int) = 0 from rfl) (show ((0 : Nat) : Int) = 0 from rfl) (show ((1 : Nat) : Int) = 1 from rfl)) (congrArg i3 ((hZ6A.2.1))))) rfl)) c9) ?_
        clear c9 hv8
        exact zlG hP (rfl : i3 v8 = i3 v8) ⟨hZ7I, hZ7K, hZ7U, zG_w zG_r (Nat.le_of_ble_eq_true rfl) (Nat.le_of_ble_eq_true rfl)⟩
    · replace hP := zE_n hP h3
      exact zlGe (E := 23) hP ⟨hZ, zC_r, zU_r, zG_w (zG_k rfl) (Nat.le_of_ble_eq_true rfl) (Nat.le_of_ble_eq_true rfl)⟩
/- yX7_findingsAt -/
def zl_132_1 (x0b : Int) (x1 : Int) (x3 : Int) : Nat → qz_Z → Int → Int → Int × Int
  | 0, Z, x4, x5 => (x4, x5)
  | m + 1, Z, x4, x5 => (if (Z 11 x0b 0 3) ≤ x5 then (x4, x5) else (if (Z 44 x0b x5 12) ≠ x3 then zl_132_1 x0b x1 x3 m Z x4 (x5 + 1) else (zlet (zf_135 Z x0b x0b x1 x0b x5) (fun v5 => (if v5 = (-1) then zl_132_1 x0b x1 x3 m Z x4 (x5 + 1) else zl_132_1 x0b x1 x3 m Z (x4 + 1) (x5 + 1))))))
theorem sl_132_1 {s : zSM} {Z : qz_Z} {ν : qz_N} (hZ : zH s Z) (hM : s.2 + 0 ≤ 1000000000) (x0b : Nat) {x1 : Int} (gx1 : 0 ≤ x1 ∧ x1 ≤ 1) {x3 : Int} (gx3 : 0 ≤ x3 ∧ x3 ≤ 6) {x4 : Int} (gx4 : 0 ≤ x4 ∧ x4 ≤ 48) {x5 : Int} (gx5 : 0 ≤ x5 ∧ x5 ≤ 48) (gr0 : x4 ≤ x5) {k : wz_K} {R : wz_R} {L : qz_L} (hL : qz_fg [true, true, false, true, true, true] L = [some (.inr (.inr (some (10, x0b, 0)))), some (.inl (i3 x1)), none, some (.inl (i3 x3)), some (.inl (i3 x4)), some (.inl (i3 x5))]) {T : Int × Int} (hP : zE T (zl_132_1 x0b x1 x3 ((48 - x5).toNat + 1) Z x4 x5)) (hk : ∀ (L9 : qz_L) (yx4 yx5 : Int), qz_fg [false, false, false, false, true, false] L9 = [none, none, none, none, some (.inl (i3 yx4)), none] → (0 ≤ yx4 ∧ yx4 ≤ 48) → (0 ≤ yx5 ∧ yx5 ≤ 48) → (yx4 ≤ yx5) → zE T ((yx4, yx5)) → k 0 (L9, [], zm Z ν)) : wz_loop qb_132_1 65536 k R (L, [], zm Z ν) := by
  refine wz_lp sb_132_1 (fun m x => ∃ x4 : Int, ∃ x5 : Int, qz_fg [true, true, false, true, true, true] x.1 = [some (.inr (.inr (some (10, x0b, 0)))), some (.inl (i3 x1)), none, some (.inl (i3 x3)), some (.inl (i3 x4)), some (.inl (i3 x5))] ∧ x.2 = ([], zm Z ν) ∧ m = (48 - x5).toNat ∧ (0 ≤ x4 ∧ x4 ≤ 48) ∧ (0 ≤ x5 ∧ x5 ≤ 48) ∧ (x4 ≤ x5) ∧ zE T (zl_132_1 x0b x1 x3 (m + 1) Z x4 x5)) ?_ 65536 ((48 - x5).toNat) _ (by omega) ⟨x4, x5, hL, rfl, rfl, gx4, gx5, gr0, hP⟩
  clear hP gr0 gx4 gx5 hL
  clear x4 x5
  rintro m ⟨L, st, μ⟩ ⟨x4, x5, hL, hx, hm, gx4, gx5, gr0, hP⟩
  cases hx
  refine fb_132_1 x0b (i3 x1) (i3 x3) (i3 x4) (i3 x5) _ _ _ _ hL ?_
  have r1 := zH_k hZ 11 x0b 0 3 (lo := 0) (hi := 48) (by decide) rfl
  refine wz_br (i3Le (zm_rd (Z := Z) (ν := ν) (k := 11) (rfl : ((x0b : Nat) : Int) = x0b) (show ((0 : Nat) : Int) = 0 from rfl) (show ((3 : Nat) : Int) = 3 from rfl)) (rfl : i3 x5 = i3 x5) (by omega) (by omega) (by omega) (by omega)) (fun h2 => ?_) (fun h2 => ?_)
  · replace hP := zE_p hP h2
    exact hk _ _ _ (zconso rfl (zconso rfl (zconso rfl (zconso rfl (zconso (zvo (rfl : i3 x4 = i3 x4)) (zconso rfl rfl))))))  (by omega) (by omega) (by omega) hP
  · replace hP := zE_n hP h2
    refine wz_i0 (i3O (n := 48) (rfl : i3 x5 = i3 x5) (by omega) (by omega) (by omega)) ?_
    have r3 := zH_k hZ 44 x0b x5 12 (lo := -1) (hi := 6) (by decide) rfl
    refine wz_br (i3NE (zm_rd (Z := Z) (ν := ν) (k := 44) (rfl : ((x0b : Nat) : Int) = x0b) (i3I (y := x5) (rfl : i3 x5 = i3 x5) (by omega) (by omega) (by omega)) (show ((12 : Nat) : Int) = 12 from rfl)) (rfl : i3 x3 = i3 x3) (by omega) (by omega) (by omega) (by omega)) (fun h4 => ?_) (fun h4 => ?_)
    · replace hP := zE_p hP h4
      obtain ⟨m2, rfl⟩ : ∃ m2, m = m2 + 1 := ⟨m - 1, by omega⟩
      exact wz_k1 ⟨m2, by omega, x4, (x5 + 1), (zconso rfl (zconso (zvo (rfl : i3 x1 = i3 x1)) (zconso rfl (zconso (zvo (rfl : i3 x3 = i3 x3)) (zconso (zvo (rfl : i3 x4 = i3 x4)) (zconso (zvo (i3A (rfl : i3 x5 = i3 x5) (show (1 : Int32) = i3 1 from rfl))) rfl)))))), rfl,  by omega, by omega, by omega, by omega,  hP⟩
    · replace hP := zE_n hP h4
      refine wz_i0 (i3O (n := 2) (rfl : i3 x1 = i3 x1) (by omega) (by omega) (by omega)) ?_
      refine wz_i0 (i3O (n := 48) (rfl : i3 x5 = i3 x5) (by omega) (by omega) (by omega)) ?_
      obtain ⟨v5, hv5, c9, lv5, uv5⟩ := sp_135 (ν := ν) hZ x0b x0b _ (i3I (y := x1) (rfl : i3 x1 = i3 x1) (by omega) (by omega) (by omega)) (by omega) x0b _ (i3I (y := x5) (rfl : i3 x5 = i3 x5) (by omega) (by omega) (by omega)) (by omega) (zbh (c := 0) (k := 0) hM (Nat.le_of_ble_eq_true rfl))
      replace hP := zl_e hP hv5
      refine wz_cI_of (zas (zcons rfl (zcons rfl (zcons rfl rfl))) c9) ?_
      clear c9
      refine wz_br (i3E (rfl : i3 v5 = i3 v5) (show (-1 : Int32) = i3 (-1) from rfl) (by omega) (by omega) (by omega) (by omega)) (fun h6 => ?_) (fun h6 => ?_)
      · replace hP := zE_p hP h6
        obtain ⟨m2, rfl⟩ : ∃ m2, m = m2 + 1 := ⟨m - 1, by omega⟩
        exact wz_k1 ⟨m2, by omega, x4, (x5 + 1), (zconso rfl (zconso (zvo (rfl : i3 x1 = i3 x1)) (zconso rfl (zconso (zvo (rfl : i3 x3 = i3 x3)) (zconso (zvo (rfl : i3 x4 = i3 x4)) (zconso (zvo (i3A (rfl : i3 x5 = i3 x5) (show (1 : Int32) = i3 1 from rfl))) rfl)))))), rfl,  by omega, by omega, by omega, by omega,  hP⟩
      · replace hP := zE_n hP h6
        obtain ⟨m2, rfl⟩ : ∃ m2, m = m2 + 1 := ⟨m - 1, by omega⟩
        exact wz_k1 ⟨m2, by omega, (x4 + 1), (x5 + 1), (zconso rfl (zconso (zvo (rfl : i3 x1 = i3 x1)) (zconso rfl (zconso (zvo (rfl : i3 x3 = i3 x3)) (zconso (zvo (i3A (rfl : i3 x4 = i3 x4) (show (1 : Int32) = i3 1 from rfl))) (zconso (zvo (i3A (rfl : i3 x5 = i3 x5) (show (1 : Int32) = i3 1 from rfl))) rfl)))))), rfl,  by omega, by omega, by omega, by omega,  hP⟩
/- yX7_findingsAt -/
def zf_132 (Z : qz_Z) (a0b : Int) (a1 : Int) (a2 : Int) : Int := (if a2 ≠ 7 then (zlet2 (zl_132_1 a0b a1 (a2 - 1) 49 Z 0 0) (fun y2 y3 => y2)) else (zlet2 (zl_132_1 a0b a1 6 49 Z 0 0) (fun y5 y6 => y5)))
theorem sp_132 {s : zSM} {Z : qz_Z} {ν : qz_N} (hZ : zH s Z) (a0b : Nat) {a1 : Int} (ga1 : 0 ≤ a1 ∧ a1 ≤ 1) {a2 : Int} (ga2 : 1 ≤ a2 ∧ a2 ≤ 7) (hM : s.2 + 0 ≤ 1000000000) : ∃ P : Int, P = zf_132 Z a0b a1 a2 ∧ (qf_132 [.inr (.inr (some (10, a0b, 0))), .inl (i3 a1), .inl (i3 a2)] (zm Z ν) = some (zm Z ν, .inl (some (.inl (i3 P)))) ∧ 0 ≤ P ∧ P ≤ 48) := by
  obtain ⟨P, hP⟩ := zx (zf_132 Z a0b a1 a2)
  refine zc_R (Q := fun P => 0 ≤ P ∧ P ≤ 48) hP (fw_132 a0b (i3 a1) (i3 a2) _ _ ?_)
  replace hP : zE P (zf_132 Z a0b a1 a2) := hP
  unfold zf_132 at hP
  refine wz_br (i3NE (rfl : i3 a2 = i3 a2) (show (7 : Int32) = i3 7 from rfl) (by omega) (by omega) (by omega) (by omega)) (fun h1 => ?_) (fun h1 => ?_)
  · replace hP := zE_p hP h1
    refine sl_132_1 (ν := ν) hZ (zbh (c := 0) (k := 0) hM (Nat.le_of_ble_eq_true rfl)) a0b (x1 := a1) (by omega) (x3 := (a2 - 1)) (by omega) (x4 := 0) (by omega) (x5 := 0) (by omega) (by omega) (zconso rfl (zconso (zvo (rfl : i3 a1 = i3 a1)) (zconso rfl (zconso (zvo (i3S (rfl : i3 a2 = i3 a2) (show (1 : Int32) = i3 1 from rfl))) (zconso (zvo (show (0 : Int32) = i3 0 from rfl)) (zconso (zvo (show (0 : Int32) = i3 0 from rfl)) rfl)))))) rfl ?_
    intro L4 y2 y3 hL4 gy2 gy3 gL4_0 q9
    replace hP := zl_e2 hP (Eq.symm q9)
    clear q9
    refine fc_132_2 (i3 y2) _ _ _ _ hL4 ?_
    exact zlR hP (rfl : i3 y2 = i3 y2) ⟨by omega, by omega⟩
  · replace hP := zE_n hP h1
    refine sl_132_1 (ν := ν) hZ (zbh (c := 0) (k := 0) hM (Nat.le_of_ble_eq_true rfl)) a0b (x1 := a1) (by omega) (x3 := 6) (by omega) (x4 := 0) (by omega) (x5 := 0) (by omega) (by omega) (zconso rfl (zconso (zvo (rfl : i3 a1 = i3 a1)) (zconso rfl (zconso (zvo (show (6 : Int32) = i3 6 from rfl)) (zconso (zvo (show (0 : Int32) = i3 0 from rfl)) (zconso (zvo (show (0 : Int32) = i3 0 from rfl)) rfl)))))) rfl ?_
    intro L7 y5 y6 hL7 gy5 gy6 gL7_0 q9
    replace hP := zl_e2 hP (Eq.symm q9)
    clear q9
    refine fc_132_2 (i3 y5) _ _ _ _ hL7 ?_
    exact zlR hP (rfl : i3 y5 = i3 y5) ⟨by omega, by omega⟩
/- yX7_search -/
def zl_138_1 (x0b : Int) (x1 : Int) (x4 : Int) (x5 : Int) : Nat → qz_Z → Int → qz_Z × Int
  | 0, Z, x6 => (Z, x6)
  | m + 1, Z, x6 => (if ((x5 * 24) + x4) ≤ x6 then (Z, x6) else (zlet (zu Z 11 (12 + 0) 0 13 ((Z 11 (12 + 0) 0 13) + 1)) (fun Z3 => (zlet (zf_171 Z3 (12 + 0)) (fun Z4 => zl_138_1 x0b x1 x4 x5 m Z4 (x6 + 1))))))
theorem sl_138_1 {s : zSM} {Zs Z : qz_Z} {ν : qz_N} (hZ : zH s Z) (hM : s.2 + 0 ≤ 1000000000) (hK : zC [43, 44, 47, 1113] Zs Z) (x0b : Nat) {x1 : Int} (gx1 : 0 ≤ x1 ∧ x1 ≤ 1) {x4 : Int} (gx4 : 0 ≤ x4 ∧ x4 ≤ 18) {x5 : Int} (gx5 : 0 ≤ x5 ∧ x5 ≤ 27) {x6 : Int} (gx6 : 0 ≤ x6 ∧ x6 ≤ 671) (hU : zU [(12 + 0)] Zs Z) (gr0 : Z 11 (12 + 0) 0 13 = x6) (gr1 : x6 ≤ x4 + 24 * x5) {k : wz_K} {R : wz_R} {L : qz_L} (hL : qz_fg [true, true, true, true, true, true, true, false, false, false, false, false] L = [some (.inr (.inr (some (10, x0b, 0)))), some (.inl (i3 x1)), some (.inr (.inr (some (67, 0, 0)))), some (.inr (.inr (some (69, 0, 0)))), some (.inl (i3 x4)), some (.inl (i3 x5)), some (.inl (i3 x6)), none, none, none, none, none]) {T : qz_Z × Int} (hP : zE T (zl_138_1 x0b x1 x4 x5 ((671 - x6).toNat + 1) Z x6)) (hk : ∀ (L9 : qz_L) (Z9 : qz_Z) (yx6 : Int), qz_fg [true, true, true, true, false, false, false, false, false, false, false, false] L9 = [some (.inr (.inr (some (10, x0b, 0)))), some (.inl (i3 x1)), some (.inr (.inr (some (67, 0, 0)))), some (.inr (.inr (some (69, 0, 0)))), none, none, none, none, none, none, none, none] → zH s Z9 → zC [43, 44, 47, 1113] Zs Z9 → zU [(12 + 0)] Zs Z9 → (0 ≤ yx6 ∧ yx6 ≤ 671) → (Z9 11 (12 + 0) 0 13 = yx6) → (yx6 ≤ x4 + 24 * x5) → zE T ((Z9, yx6)) → k 0 (L9, [], zm Z9 ν)) : wz_loop qb_138_1 65536 k R (L, [], zm Z ν) := by
  refine wz_lp sb_138_1 (fun m x => ∃ Z : qz_Z, ∃ x6 : Int, qz_fg [true, true, true, true, true, true, true, false, false, false, false, false] x.1 = [some (.inr (.inr (some (10, x0b, 0)))), some (.inl (i3 x1)), some (.inr (.inr (some (67, 0, 0)))), some (.inr (.inr (some (69, 0, 0)))), some (.inl (i3 x4)), some (.inl (i3 x5)), some (.inl (i3 x6)), none, none, none, none, none] ∧ x.2 = ([], zm Z ν) ∧ zH s Z ∧ zC [43, 44, 47, 1113] Zs Z ∧ zU [(12 + 0)] Zs Z ∧ m = (671 - x6).toNat ∧ (0 ≤ x6 ∧ x6 ≤ 671) ∧ (Z 11 (12 + 0) 0 13 = x6) ∧ (x6 ≤ x4 + 24 * x5) ∧ zE T (zl_138_1 x0b x1 x4 x5 (m + 1) Z x6)) ?_ 65536 ((671 - x6).toNat) _ (by omega) ⟨Z, x6, hL, rfl, hZ, hK, hU, rfl, gx6, gr0, gr1, hP⟩
  clear hP gr0 gr1 gx6 hZ hK hU hL
  clear x6
  clear Z
  rintro m ⟨L, st, μ⟩ ⟨Z, x6, hL, hx, hZ, hK, hU, hm, gx6, gr0, gr1, hP⟩
  cases hx
  refine fb_138_1 x0b (i3 x1) (i3 x4) (i3 x5) (i3 x6) _ _ _ _ hL ?_
  have r1 := zH_k hZ 11 (12 + 0) 0 13 (lo := 0) (hi := 671) (by decide) rfl
  refine wz_br (i3Le (i3A (i3M (rfl : i3 x5 = i3 x5) (show (24 : Int32) = i3 24 from rfl)) (rfl : i3 x4 = i3 x4)) (rfl : i3 x6 = i3 x6) (by omega) (by omega) (by omega) (by omega)) (fun h2 => ?_) (fun h2 => ?_)
  · replace hP := zE_p hP h2
    exact hk _ _ _ (zconso rfl (zconso (zvo (rfl : i3 x1 = i3 x1)) (zconso rfl (zconso rfl (zconso rfl (zconso rfl (zconso rfl (zconso rfl (zconso rfl (zconso rfl (zconso rfl (zconso rfl rfl)))))))))))) hZ hK hU (by omega) (by omega) (by omega) hP
  · replace hP := zE_n hP h2
    obtain ⟨Z3, hZ3⟩ := zx (zu Z 11 (12 + 0) 0 13 ((Z 11 (12 + 0) 0 13) + 1))
    replace hP := zl_e hP hZ3
    have hZ3I := zH_u hZ hZ3 (lo := 0) (hi := 671) (by decide) rfl (by omega) ⟨by decide, by decide⟩ (Or.inl (by decide)) rfl
    have hZ3U : zU [(12 + 0)] Zs Z3 := zU_u hU hZ3 (Or.inr (List.Mem.head _))
    have hZ3K : zC [43, 44, 47, 1113] Zs Z3 := zC_u hK hZ3 (by decide)
    intro μ9 e9
    replace e9 := e9.trans (zm_wI (Z := Z) (ν := ν) hZ3 (zn_add (n := 12) (show ((0 : Nat) : Int) = 0 from rfl)) (show ((0 : Nat) : Int) = 0 from rfl) (show ((13 : Nat) : Int) = 13 from rfl) (i3A (zm_rd (Z := Z) (ν := ν) (k := 11) (zn_add (n := 12) (show ((0 : Nat) : Int) = 0 from rfl)) (show ((0 : Nat) : Int) = 0 from rfl) (show ((13 : Nat) : Int) = 13 from rfl)) (show (1 : Int32) = i3 1 from rfl)))
    subst e9
    obtain ⟨Z4, hZ4, c9, hZ4I, kZ4, jZ4⟩ := sp_171 (ν := ν) hZ3I (12 + 0) (zbh (c := 0) (k := 0) hM (Nat.le_of_ble_eq_true rfl))
    have hZ4U : zU [(12 + 0)] Zs Z4 := zU_t hZ3U jZ4 (zU_b1 (List.Mem.head _) zU_b0)
    have hZ4K : zC [43, 44, 47, 1113] Zs Z4 := zC_t hZ3K kZ4 (by decide)
    replace hP := zl_e hP hZ4
    refine wz_cV_of (zas (zcons rfl rfl) c9) ?_
    clear c9
    have r5 := zH_k hZ4I 11 (12 + 0) 0 13 (lo := 0) (hi := 671) (by decide) rfl
    have q6 := (kZ4 11 (12 + 0) 0 13 (by decide)).trans (zu_at hZ3)
    obtain ⟨m2, rfl⟩ : ∃ m2, m = m2 + 1 := ⟨m - 1, by omega⟩
    exact wz_k1 ⟨m2, by omega, Z4, (x6 + 1), (zconso rfl (zconso (zvo (rfl : i3 x1 = i3 x1)) (zconso rfl (zconso rfl (zconso (zvo (rfl : i3 x4 = i3 x4)) (zconso (zvo (rfl : i3 x5 = i3 x5)) (zconso (zvo (i3A (rfl : i3 x6 = i3 x6) (show (1 : Int32) = i3 1 from rfl))) (zconso rfl (zconso rfl (zconso rfl (zconso rfl (zconso rfl rfl)))))))))))), rfl, hZ4I, hZ4K, hZ4U, by omega, by omega, by omega, by omega,  hP⟩
/- yX7_search -/
def zl_138_2 (x0b : Int) (x1 : Int) (x6 : Int) (x7 : Int) (x8 : Int) (x9 : Int) : Nat → qz_Z → Int → qz_Z × Int
  | 0, Z, x10 => (Z, x10)
  | m + 1, Z, x10 => (if 7 < x10 then (Z, x10) else (if x9 = (-1) then (Z, x10) else (zlet (zf_132 Z (12 + 2) x1 x10) (fun v3 => (zlet (zf_134 Z x0b x10) (fun v4 => (if v4 = 0 then zl_138_2 x0b x1 x6 x7 x8 x9 m Z (x10 + 1) else (if ((x7 + x9) + v3) ≤ (Z 69 0 0 0) then zl_138_2 x0b x1 x6 x7 x8 x9 m Z (x10 + 1) else (zlet (zu Z 69 0 0 0 ((x7 + x9) + v3)) (fun Z8 => (zlet (zu Z8 69 0 0 1 (((x6 * 100) + (x8 * 10)) + x10)) (fun Z9 => zl_138_2 x0b x1 x6 x7 x8 x9 m Z9 (x10 + 1)))))))))))))
theorem sl_138_2 {s : zSM} {Zs Z : qz_Z} {ν : qz_N} (hZ : zH s Z) (hM : s.2 + 0 ≤ 1000000000) (hK : zC [69] Zs Z) (x0b : Nat) {x1 : Int} (gx1 : 0 ≤ x1 ∧ x1 ≤ 1) {x6 : Int} (gx6 : 1 ≤ x6 ∧ x6 ≤ 7) {x7 : Int} (gx7 : 0 ≤ x7 ∧ x7 ≤ 48) {x8 : Int} (gx8 : 1 ≤ x8 ∧ x8 ≤ 7) {x9 : Int} (gx9 : -1 ≤ x9 ∧ x9 ≤ 48) {x10 : Int} (gx10 : 1 ≤ x10 ∧ x10 ≤ 8) (hU : zU [] Zs Z) {k : wz_K} {R : wz_R} {L : qz_L} (hL : qz_fg [true, true, true, true, false, false, true, true, true, true, true, false] L = [some (.inr (.inr (some (10, x0b, 0)))), some (.inl (i3 x1)), some (.inr (.inr (some (67, 0, 0)))), some (.inr (.inr (some (69, 0, 0)))), none, none, some (.inl (i3 x6)), some (.inl (i3 x7)), some (.inl (i3 x8)), some (.inl (i3 x9)), some (.inl (i3 x10)), none]) {T : qz_Z × Int} (hP : zE T (zl_138_2 x0b x1 x6 x7 x8 x9 ((8 - x10).toNat + 1) Z x10)) (hk : ∀ (L9 : qz_L) (Z9 : qz_Z) (yx10 : Int), qz_fg [true, true, true, true, false, false, true, true, true, false, false, false] L9 = [some (.inr (.inr (some (10, x0b, 0)))), some (.inl (i3 x1)), some (.inr (.inr (some (67, 0, 0)))), some (.inr (.inr (some (69, 0, 0)))), none, none, some (.inl (i3 x6)), some (.inl (i3 x7)), some (.inl (i3 x8)), none, none, none] → zH s Z9 → zC [69] Zs Z9 → zU [] Zs Z9 → (1 ≤ yx10 ∧ yx10 ≤ 8) → zE T ((Z9, yx10)) → k 0 (L9, [], zm Z9 ν)) : wz_loop qb_138_2 65536 k R (L, [], zm Z ν) := by
  refine wz_lp sb_138_2 (fun m x => ∃ Z : qz_Z, ∃ x10 : Int, qz_fg [true, true, true, true, false, false, true, true, true, true, true, false] x.1 = [some (.inr (.inr (some (10, x0b, 0)))), some (.inl (i3 x1)), some (.inr (.inr (some (67, 0, 0)))), some (.inr (.inr (some (69, 0, 0)))), none, none, some (.inl (i3 x6)), some (.inl (i3 x7)), some (.inl (i3 x8)), some (.inl (i3 x9)), some (.inl (i3 x10)), none] ∧ x.2 = ([], zm Z ν) ∧ zH s Z ∧ zC [69] Zs Z ∧ zU [] Zs Z ∧ m = (8 - x10).toNat ∧ (1 ≤ x10 ∧ x10 ≤ 8) ∧ zE T (zl_138_2 x0b x1 x6 x7 x8 x9 (m + 1) Z x10)) ?_ 65536 ((8 - x10).toNat) _ (by omega) ⟨Z, x10, hL, rfl, hZ, hK, hU, rfl, gx10, hP⟩
  clear hP gx10 hZ hK hU hL
  clear x10
  clear Z
  rintro m ⟨L, st, μ⟩ ⟨Z, x10, hL, hx, hZ, hK, hU, hm, gx10, hP⟩
  cases hx
  refine fb_138_2 x0b (i3 x1) (i3 x6) (i3 x7) (i3 x8) (i3 x9) (i3 x10) _ _ _ _ hL ?_
  refine wz_br (i3L (show (7 : Int32) = i3 7 from rfl) (rfl : i3 x10 = i3 x10) (by omega) (by omega) (by omega) (by omega)) (fun h1 => ?_) (fun h1 => ?_)
  · replace hP := zE_p hP h1
    exact hk _ _ _ (zconso rfl (zconso (zvo (rfl : i3 x1 = i3 x1)) (zconso rfl (zconso rfl (zconso rfl (zconso rfl (zconso (zvo (rfl : i3 x6 = i3 x6)) (zconso (zvo (rfl : i3 x7 = i3 x7)) (zconso (zvo (rfl : i3 x8 = i3 x8)) (zconso rfl (zconso rfl (zconso rfl rfl)))))))))))) hZ hK hU (by omega)  hP
  · replace hP := zE_n hP h1
    refine wz_br (i3E (rfl : i3 x9 = i3 x9) (show (-1 : Int32) = i3 (-1) from rfl) (by omega) (by omega) (by omega) (by omega)) (fun h2 => ?_) (fun h2 => ?_)
    · replace hP := zE_p hP h2
      exact hk _ _ _ (zconso rfl (zconso (zvo (rfl : i3 x1 = i3 x1)) (zconso rfl (zconso rfl (zconso rfl (zconso rfl (zconso (zvo (rfl : i3 x6 = i3 x6)) (zconso (zvo (rfl : i3 x7 = i3 x7)) (zconso (zvo (rfl : i3 x8 = i3 x8)) (zconso rfl (zconso rfl (zconso rfl rfl)))))))))))) hZ hK hU (by omega)  hP
    · replace hP := zE_n hP h2
      obtain ⟨v3, hv3, c9, lv3, uv3⟩ := sp_132 (ν := ν) hZ (12 + 2) (a1 := x1) (by omega) (a2 := x10) (by omega) (zbh (c := 0) (k := 0) hM (Nat.le_of_ble_eq_true rfl))
      replace hP := zl_e hP hv3
      refine wz_cI_of (zas (zcons rfl (zcons (zvi (rfl : i3 x1 = i3 x1)) (zcons (zvi (rfl : i3 x10 = i3 x10)) rfl))) c9) ?_
      clear c9
      obtain ⟨v4, hv4, c9, lv4, uv4⟩ := sp_134 (ν := ν) hZ x0b (a1 := x10) (by omega) (zbh (c := 0) (k := 0) hM (Nat.le_of_ble_eq_true rfl))
      replace hP := zl_e hP hv4
      refine wz_cI_of (zas (zcons rfl (zcons (zvi (rfl : i3 x10 = i3 x10)) rfl)) c9) ?_
      clear c9
      refine wz_br (i3E (rfl : i3 v4 = i3 v4) (show (0 : Int32) = i3 0 from rfl) (by omega) (by omega) (by omega) (by omega)) (fun h5 => ?_) (fun h5 => ?_)
      · replace hP := zE_p hP h5
        obtain ⟨m2, rfl⟩ : ∃ m2, m = m2 + 1 := ⟨m - 1, by omega⟩
        exact wz_k1 ⟨m2, by omega, Z, (x10 + 1), (zconso rfl (zconso (zvo (rfl : i3 x1 = i3 x1)) (zconso rfl (zconso rfl (zconso rfl (zconso rfl (zconso (zvo (rfl : i3 x6 = i3 x6)) (zconso (zvo (rfl : i3 x7 = i3 x7)) (zconso (zvo (rfl : i3 x8 = i3 x8)) (zconso (zvo (rfl : i3 x9 = i3 x9)) (zconso (zvo (i3A (rfl : i3 x10 = i3 x10) (show (1 : Int32) = i3 1 from rfl))) (zconso rfl rfl)))))))))))), rfl, hZ, hK, hU, by omega, by omega,  hP⟩
      · replace hP := zE_n hP h5
        have r6 := zH_f hZ 69 0 0 0
        refine wz_br (i3Le (i3A (i3A (rfl : i3 x7 = i3 x7) (rfl : i3 x9 = i3 x9)) (rfl : i3 v3 = i3 v3)) (zm_rd (Z := Z) (ν := ν) (k := 69) (show ((0 : Nat) : Int) = 0 from rfl) (show ((0 : Nat) : Int) = 0 from rfl) (show ((0 : Nat) : Int) = 0 from rfl)) (by omega) (by omega) (by omega) (by omega)) (fun h7 => ?_) (fun h7 => ?_)
        · replace hP := zE_p hP h7
          obtain ⟨m2, rfl⟩ : ∃ m2, m = m2 + 1 := ⟨m - 1, by omega⟩
          exact wz_k1 ⟨m2, by omega, Z, (x10 + 1), (zconso rfl (zconso (zvo (rfl : i3 x1 = i3 x1)) (zconso rfl (zconso rfl (zconso rfl (zconso rfl (zconso (zvo (rfl : i3 x6 = i3 x6)) (zconso (zvo (rfl : i3 x7 = i3 x7)) (zconso (zvo (rfl : i3 x8 = i3 x8)) (zconso (zvo (rfl : i3 x9 = i3 x9)) (zconso (zvo (i3A (rfl : i3 x10 = i3 x10) (show (1 : Int32) = i3 1 from rfl))) (zconso rfl rfl)))))))))))), rfl, hZ, hK, hU, by omega, by omega,  hP⟩
        · replace hP := zE_n hP h7
          obtain ⟨Z8, hZ8⟩ := zx (zu Z 69 0 0 0 ((x7 + x9) + v3))
          replace hP := zl_e hP hZ8
          have hZ8I := zH_u hZ hZ8 (lo := -2147483648) (hi := 2147483647) (by decide) rfl (by omega) ⟨by decide, by decide⟩ (Or.inl (by decide)) rfl
          have hZ8U : zU [] Zs Z8 := zU_u hU hZ8 (Or.inl rfl)
          have hZ8K : zC [69] Zs Z8 := zC_u hK hZ8 (by decide)
          intro μ9 e9
          replace e9 := e9.trans (zm_wI (Z := Z) (ν := ν) hZ8 (show ((0 : Nat) : Int) = 0 from rfl) (show ((0 : Nat) : Int) = 0 from rfl) (show ((0 : Nat) : Int) = 0 from rfl) (i3A (i3A (rfl : i3 x7 = i3 x7) (rfl : i3 x9 = i3 x9)) (rfl : i3 v3 = i3 v3)))
          subst e9
          obtain ⟨Z9, hZ9⟩ := zx (zu Z8 69 0 0 1 (((x6 * 100) + (x8 * 10)) + x10))
          replace hP := zl_e hP hZ9
          have hZ9I := zH_u hZ8I hZ9 (lo := -2147483648) (hi := 2147483647) (by decide) rfl (by omega) ⟨by decide, by decide⟩ (Or.inl (by decide)) rfl
          have hZ9U : zU [] Zs Z9 := zU_u hZ8U hZ9 (Or.inl rfl)
          have hZ9K : zC [69] Zs Z9 := zC_u hZ8K hZ9 (by decide)
          intro μ9 e9
          replace e9 := e9.trans (zm_wI (Z := Z8) (ν := ν) hZ9 (show ((0 : Nat) : Int) = 0 from rfl) (show ((0 : Nat) : Int) = 0 from rfl) (show ((1 : Nat) : Int) = 1 from rfl) (i3A (i3A (i3M (rfl : i3 x6 = i3 x6) (show (100 : Int32) = i3 100 from rfl)) (i3M (rfl : i3 x8 = i3 x8) (show (10 : Int32) = i3 10 from rfl))) (rfl : i3 x10 = i3 x10)))
          subst e9
          obtain ⟨m2, rfl⟩ : ∃ m2, m = m2 + 1 := ⟨m - 1, by omega⟩
          exact wz_k1 ⟨m2, by omega, Z9, (x10 + 1), (zconso rfl (zconso (zvo (rfl : i3 x1 = i3 x1)) (zconso rfl (zconso rfl (zconso rfl (zconso rfl (zconso (zvo (rfl : i3 x6 = i3 x6)) (zconso (zvo (rfl : i3 x7 = i3 x7)) (zconso (zvo (rfl : i3 x8 = i3 x8)) (zconso (zvo (rfl : i3 x9 = i3 x9)) (zconso (zvo (i3A (rfl : i3 x10 = i3 x10) (show (1 : Int32) = i3 1 from rfl))) (zconso rfl rfl)))))))))))), rfl, hZ9I, hZ9K, hZ9U, by omega, by omega,  hP⟩
/- yX7_search -/
def zl_138_4 (x0b : Int) (x1 : Int) (x6 : Int) (x7 : Int) : Nat → qz_Z → Int → qz_Z × Int
  | 0, Z, x8 => (Z, x8)
  | m + 1, Z, x8 => (if 7 < x8 then (Z, x8) else (if x7 = (-1) then (Z, x8) else (zlet (zf_134 Z x0b x8) (fun v5 => (if v5 = 0 then (zlet2 (zl_138_2 x0b x1 x6 x7 x8 (-1) 8 Z 1) (fun Z8 y7 => zl_138_4 x0b x1 x6 x7 m Z8 (x8 + 1))) else (zlet (zcp Z (12 + 1) (12 + 2)) (fun Z14 => (zlet2 (zf_136 Z14 (12 + 2) x1 x8) (fun Z15 v16 => (zlet (zu Z15 11 (12 + 2) 0 13 ((Z15 11 (12 + 2) 0 13) + 1)) (fun Z19 => (zlet (zf_171 Z19 (12 + 2)) (fun Z20 => (zlet2 (zl_138_2 x0b x1 x6 x7 x8 v16 8 Z20 1) (fun Z22 y21 => zl_138_4 x0b x1 x6 x7 m Z22 (x8 + 1))))))))))))))))
theorem sl_138_4 {s : zSM} {xM9 : Nat} {Zs Z : qz_Z} {ν : qz_N} (hZ : zH (zb s xM9) Z) (hM : s.2 + 25480 ≤ 1000000000) (hK : zC [12, 13, 14, 40, 41, 42, 43, 44, 45, 46, 47, 48, 49, 50, 51, 52, 53, 54, 69, 1099, 1100, 1101, 1102, 1103, 1104, 1105, 1106, 1107, 1108, 1109, 1110, 1111, 1112, 1113, 1114, 1115, 1116] Zs Z) (x0b : Nat) {x1 : Int} (gx1 : 0 ≤ x1 ∧ x1 ≤ 1) {x6 : Int} (gx6 : 1 ≤ x6 ∧ x6 ≤ 7) {x7 : Int} (gx7 : -1 ≤ x7 ∧ x7 ≤ 48) {x8 : Int} (gx8 : 1 ≤ x8 ∧ x8 ≤ 8) (hU : zU [(12 + 2)] Zs Z) (hLt_12___1_ : zLt (12 + 1) Z) (hx9 : xM9 + 3185 * ((8 - x8).toNat) + 3185 ≤ 25480) (gr0 : x7 = -1 ∨ Z 11 (12 + 1) 0 13 ≤ 667) (gr1 : Z 11 (12 + 0) 0 13 ≤ 666) {k : wz_K} {R : wz_R} {L : qz_L} (hL : qz_fg [true, true, true, true, false, false, true, true, true, false, false, false] L = [some (.inr (.inr (some (10, x0b, 0)))), some (.inl (i3 x1)), some (.inr (.inr (some (67, 0, 0)))), some (.inr (.inr (some (69, 0, 0)))), none, none, some (.inl (i3 x6)), some (.inl (i3 x7)), some (.inl (i3 x8)), none, none, none]) {T : qz_Z × Int} (hP : zE T (zl_138_4 x0b x1 x6 x7 ((8 - x8).toNat + 1) Z x8)) (hk : ∀ (L9 : qz_L) (Z9 : qz_Z) (yx8 : Int), qz_fg [true, true, true, true, false, false, true, false, false, false, false, false] L9 = [some (.inr (.inr (some (10, x0b, 0)))), some (.inl (i3 x1)), some (.inr (.inr (some (67, 0, 0)))), some (.inr (.inr (some (69, 0, 0)))), none, none, some (.inl (i3 x6)), none, none, none, none, none] → zH (zb s 25480) Z9 → zC [12, 13, 14, 40, 41, 42, 43, 44, 45, 46, 47, 48, 49, 50, 51, 52, 53, 54, 69, 1099, 1100, 1101, 1102, 1103, 1104, 1105, 1106, 1107, 1108, 1109, 1110, 1111, 1112, 1113, 1114, 1115, 1116] Zs Z9 → zU [(12 + 2)] Zs Z9 → zLt (12 + 1) Z9 → (1 ≤ yx8 ∧ yx8 ≤ 8) → (x7 = -1 ∨ Z9 11 (12 + 1) 0 13 ≤ 667) → (Z9 11 (12 + 0) 0 13 ≤ 666) → zE T ((Z9, yx8)) → k 0 (L9, [], zm Z9 ν)) : wz_loop qb_138_4 65536 k R (L, [], zm Z ν) := by
  refine wz_lp sb_138_4 (fun m x => ∃ xM9 : Nat, ∃ Z : qz_Z, ∃ x8 : Int, qz_fg [true, true, true, true, false, false, true, true, true, false, false, false] x.1 = [some (.inr (.inr (some (10, x0b, 0)))), some (.inl (i3 x1)), some (.inr (.inr (some (67, 0, 0)))), some (.inr (.inr (some (69, 0, 0)))), none, none, some (.inl (i3 x6)), some (.inl (i3 x7)), some (.inl (i3 x8)), none, none, none] ∧ x.2 = ([], zm Z ν) ∧ xM9 + 3185 * m + 3185 ≤ 25480 ∧ zH (zb s xM9) Z ∧ zC [12, 13, 14, 40, 41, 42, 43, 44, 45, 46, 47, 48, 49, 50, 51, 52, 53, 54, 69, 1099, 1100, 1101, 1102, 1103, 1104, 1105, 1106, 1107, 1108, 1109, 1110, 1111, 1112, 1113, 1114, 1115, 1116] Zs Z ∧ zU [(12 + 2)] Zs Z ∧ zLt (12 + 1) Z ∧ m = (8 - x8).toNat ∧ (1 ≤ x8 ∧ x8 ≤ 8) ∧ (x7 = -1 ∨ Z 11 (12 + 1) 0 13 ≤ 667) ∧ (Z 11 (12 + 0) 0 13 ≤ 666) ∧ zE T (zl_138_4 x0b x1 x6 x7 (m + 1) Z x8)) ?_ 65536 ((8 - x8).toNat) _ (by omega) ⟨xM9, Z, x8, hL, rfl, hx9, hZ, hK, hU, hLt_12___1_, rfl, gx8, gr0, gr1, hP⟩
  clear hP gr0 gr1 gx8 hx9 hZ hK hU hLt_12___1_ hL
  clear x8
  clear Z
  clear xM9
  rintro m ⟨L, st, μ⟩ ⟨xM9, Z, x8, hL, hx, hx9, hZ, hK, hU, hLt_12___1_, hm, gx8, gr0, gr1, hP⟩
  cases hx
  have hM9 : (zb s xM9).2 + 3185 ≤ 1000000000 := by
    show s.2 + xM9 + 3185 ≤ 1000000000
    omega
  refine fb_138_4 x0b (i3 x1) (i3 x6) (i3 x7) (i3 x8) _ _ _ _ hL ?_
  have r1 := zH_k hZ 11 (12 + 1) 0 13 (lo := 0) (hi := 671) (by decide) rfl
  have r2 := zH_k hZ 11 (12 + 0) 0 13 (lo := 0) (hi := 671) (by decide) rfl
  refine wz_br (i3L (show (7 : Int32) = i3 7 from rfl) (rfl : i3 x8 = i3 x8) (by omega) (by omega) (by omega) (by omega)) (fun h3 => ?_) (fun h3 => ?_)
  · replace hP := zE_p hP h3
    exact hk _ _ _ (zconso rfl (zconso (zvo (rfl : i3 x1 = i3 x1)) (zconso rfl (zconso rfl (zconso rfl (zconso rfl (zconso (zvo (rfl : i3 x6 = i3 x6)) (zconso rfl (zconso rfl (zconso rfl (zconso rfl (zconso rfl rfl)))))))))))) (zbx0 hZ (by omega)) hK hU hLt_12___1_ (by omega) (by omega) (by omega) hP
  · replace hP := zE_n hP h3
    refine wz_br (i3E (rfl : i3 x7 = i3 x7) (show (-1 : Int32) = i3 (-1) from rfl) (by omega) (by omega) (by omega) (by omega)) (fun h4 => ?_) (fun h4 => ?_)
    · replace hP := zE_p hP h4
      exact hk _ _ _ (zconso rfl (zconso (zvo (rfl : i3 x1 = i3 x1)) (zconso rfl (zconso rfl (zconso rfl (zconso rfl (zconso (zvo (rfl : i3 x6 = i3 x6)) (zconso rfl (zconso rfl (zconso rfl (zconso rfl (zconso rfl rfl)))))))))))) (zbx0 hZ (by omega)) hK hU hLt_12___1_ (by omega) (by omega) (by omega) hP
    · replace hP := zE_n hP h4
      obtain ⟨v5, hv5, c9, lv5, uv5⟩ := sp_134 (ν := ν) hZ x0b (a1 := x8) (by omega) (zbh (c := 0) (k := 0) hM9 (Nat.le_of_ble_eq_true rfl))
      replace hP := zl_e hP hv5
      refine wz_cI_of (zas (zcons rfl (zcons (zvi (rfl : i3 x8 = i3 x8)) rfl)) c9) ?_
      clear c9
      refine wz_br (i3E (rfl : i3 v5 = i3 v5) (show (0 : Int32) = i3 0 from rfl) (by omega) (by omega) (by omega) (by omega)) (fun h6 => ?_) (fun h6 => ?_)
      · replace hP := zE_p hP h6
        refine sl_138_2 (ν := ν) hZ (zbh (c := 0) (k := 0) hM9 (Nat.le_of_ble_eq_true rfl)) zC_r x0b (x1 := x1) (by omega) (x6 := x6) (by omega) (x7 := x7) (by omega) (x8 := x8) (by omega) (x9 := (-1)) (by omega) (x10 := 1) (by omega) zU_r  (zconso rfl (zconso (zvo (rfl : i3 x1 = i3 x1)) (zconso rfl (zconso rfl (zconso rfl (zconso rfl (zconso (zvo (rfl : i3 x6 = i3 x6)) (zconso (zvo (rfl : i3 x7 = i3 x7)) (zconso (zvo (rfl : i3 x8 = i3 x8)) (zconso (zvo (show (-1 : Int32) = i3 (-1) from rfl)) (zconso (zvo (show (1 : Int32) = i3 1 from rfl)) (zconso rfl rfl)))))))))))) rfl ?_
        intro L9 Z8 y7 hL9 hZ8I kZ8 jZ8 gy7 q9
        replace hP := zl_e2 hP (Eq.symm q9)
        clear q9
        have hZ8U : zU [(12 + 2)] Zs Z8 := zU_t hU jZ8 zU_b0
        have hZ8K : zC [12, 13, 14, 40, 41, 42, 43, 44, 45, 46, 47, 48, 49, 50, 51, 52, 53, 54, 69, 1099, 1100, 1101, 1102, 1103, 1104, 1105, 1106, 1107, 1108, 1109, 1110, 1111, 1112, 1113, 1114, 1115, 1116] Zs Z8 := zC_t hK kZ8 (by decide)
        refine fc_138_3 _ (i3 x1) (i3 x6) (i3 x7) (i3 x8) _ _ _ _ hL9 ?_
        have r10 := zH_k hZ8I 11 (12 + 1) 0 13 (lo := 0) (hi := 671) (by decide) rfl
        have q11 := kZ8 11 (12 + 1) 0 13 (by decide)
        have r12 := zH_k hZ8I 11 (12 + 0) 0 13 (lo := 0) (hi := 671) (by decide) rfl
        have q13 := kZ8 11 (12 + 0) 0 13 (by decide)
        obtain ⟨m2, rfl⟩ : ∃ m2, m = m2 + 1 := ⟨m - 1, by omega⟩
        refine wz_kbs (n := 1) (?_)
        exact wz_k1 ⟨m2, by omega, xM9, Z8, (x8 + 1), (zconso rfl (zconso (zvo (rfl : i3 x1 = i3 x1)) (zconso rfl (zconso rfl (zconso rfl (zconso rfl (zconso (zvo (rfl : i3 x6 = i3 x6)) (zconso (zvo (rfl : i3 x7 = i3 x7)) (zconso (zvo (i3A (rfl : i3 x8 = i3 x8) (show (1 : Int32) = i3 1 from rfl))) (zconso rfl (zconso rfl (zconso rfl rfl)))))))))))), rfl, by omega, hZ8I, hZ8K, hZ8U, (zLt_c hLt_12___1_ kZ8 rfl), by omega, by omega, by omega, by omega,  hP⟩
      · replace hP := zE_n hP h6
        obtain ⟨Z14, hZ14, c9, hZ14I, kZ14, gZ14⟩ := zH_cpe (ν := ν) hZ (zn_add (n := 12) (show ((1 : Nat) : Int) = 1 from rfl)) (zn_add (n := 12) (show ((2 : Nat) : Int) = 2 from rfl)) (by omega)
        have fZ14 : zC [12, 13, 14, 40, 41, 42, 43, 44, 45, 46, 47, 48, 49, 50, 51, 52, 53, 54, 1099, 1100, 1101, 1102, 1103, 1104, 1105, 1106, 1107, 1108, 1109, 1110, 1111, 1112, 1113, 1114, 1115, 1116] Z Z14 := zC_k kZ14 (by decide) (by decide)
        have aZ14 : ∀ {k : Nat} {i j : Int}, zhk k i j = true → Z14 k (12 + 2) i j = Z k (12 + 1) i j := fun hk => zcp_at hZ14 hk
        have hZ14K : zC [12, 13, 14, 40, 41, 42, 43, 44, 45, 46, 47, 48, 49, 50, 51, 52, 53, 54, 69, 1099, 1100, 1101, 1102, 1103, 1104, 1105, 1106, 1107, 1108, 1109, 1110, 1111, 1112, 1113, 1114, 1115, 1116] Zs Z14 := zC_t hK fZ14 (by decide)
        have jZ14 : zU [(12 + 2)] Z Z14 := zU_cp hZ14
        have hZ14U : zU [(12 + 2)] Zs Z14 := zU_t hU jZ14 (zU_b1 (List.Mem.head _) zU_b0)
        replace hP := zl_e hP hZ14
        refine wz_cV_of c9 ?_
        clear c9
        obtain ⟨Z15, v16, hv16, c9, hZ15I, kZ15, jZ15, lv16, uv16, tZ15_a0b⟩ := sp_136 (ν := ν) hZ14I (12 + 2) (a1 := x1) (by omega) (a2 := x8) (by omega) (zLt_cp hLt_12___1_ hZ14) (zbh (c := 0) (k := 3185) hM9 (Nat.le_of_ble_eq_true rfl))
        have hZ15U : zU [(12 + 2)] Zs Z15 := zU_t hZ14U jZ15 (zU_b1 (List.Mem.head _) zU_b0)
        have hZ15K : zC [12, 13, 14, 40, 41, 42, 43, 44, 45, 46, 47, 48, 49, 50, 51, 52, 53, 54, 69, 1099, 1100, 1101, 1102, 1103, 1104, 1105, 1106, 1107, 1108, 1109, 1110, 1111, 1112, 1113, 1114, 1115, 1116] Zs Z15 := zC_t hZ14K kZ15 (by decide)
        replace hP := zl_e2 hP hv16
        refine wz_cI_of (zas (zcons rfl (zcons (zvi (rfl : i3 x1 = i3 x1)) (zcons (zvi (rfl : i3 x8 = i3 x8)) rfl))) c9) ?_
        clear c9 hv16
        have r17 := zH_k hZ15I 11 (12 + 2) 0 13 (lo := 0) (hi := 671) (by decide) rfl
        have q18 := (kZ15 11 (12 + 2) 0 13 (by decide)).trans (aZ14 (k := 11) (i := 0) (j := 13) (by decide))
        obtain ⟨Z19, hZ19⟩ := zx (zu Z15 11 (12 + 2) 0 13 ((Z15 11 (12 + 2) 0 13) + 1))
        replace hP := zl_e hP hZ19
        have hZ19I := zH_u hZ15I hZ19 (lo := 0) (hi := 671) (by decide) rfl (by omega) ⟨by decide, by decide⟩ (Or.inl (by decide)) rfl
        have hZ19U : zU [(12 + 2)] Zs Z19 := zU_u hZ15U hZ19 (Or.inr (List.Mem.head _))
        have hZ19K : zC [12, 13, 14, 40, 41, 42, 43, 44, 45, 46, 47, 48, 49, 50, 51, 52, 53, 54, 69, 1099, 1100, 1101, 1102, 1103, 1104, 1105, 1106, 1107, 1108, 1109, 1110, 1111, 1112, 1113, 1114, 1115, 1116] Zs Z19 := zC_u hZ15K hZ19 (by decide)
        intro μ9 e9
        replace e9 := e9.trans (zm_wI (Z := Z15) (ν := ν) hZ19 (zn_add (n := 12) (show ((2 : Nat) : Int) = 2 from rfl)) (show ((0 : Nat) : Int) = 0 from rfl) (show ((13 : Nat) : Int) = 13 from rfl) (i3A (zm_rd (Z := Z15) (ν := ν) (k := 11) (zn_add (n := 12) (show ((2 : Nat) : Int) = 2 from rfl)) (show ((0 : Nat) : Int) = 0 from rfl) (show ((13 : Nat) : Int) = 13 from rfl)) (show (1 : Int32) = i3 1 from rfl)))
        subst e9
        obtain ⟨Z20, hZ20, c9, hZ20I, kZ20, jZ20⟩ := sp_171 (ν := ν) hZ19I (12 + 2) (zbh (c := 3185) (k := 0) hM9 (Nat.le_of_ble_eq_true rfl))
        have hZ20U : zU [(12 + 2)] Zs Z20 := zU_t hZ19U jZ20 (zU_b1 (List.Mem.head _) zU_b0)
        have hZ20K : zC [12, 13, 14, 40, 41, 42, 43, 44, 45, 46, 47, 48, 49, 50, 51, 52, 53, 54, 69, 1099, 1100, 1101, 1102, 1103, 1104, 1105, 1106, 1107, 1108, 1109, 1110, 1111, 1112, 1113, 1114, 1115, 1116] Zs Z20 := zC_t hZ19K kZ20 (by decide)
        replace hP := zl_e hP hZ20
        refine wz_cV_of (zas (zcons rfl rfl) c9) ?_
        clear c9
        refine sl_138_2 (ν := ν) hZ20I (zbh (c := 3185) (k := 0) hM9 (Nat.le_of_ble_eq_true rfl)) zC_r x0b (x1 := x1) (by omega) (x6 := x6) (by omega) (x7 := x7) (by omega) (x8 := x8) (by omega) (x9 := v16) (by omega) (x10 := 1) (by omega) zU_r  (zconso rfl (zconso (zvo (rfl : i3 x1 = i3 x1)) (zconso rfl (zconso rfl (zconso rfl (zconso rfl (zconso (zvo (rfl : i3 x6 = i3 x6)) (zconso (zvo (rfl : i3 x7 = i3 x7)) (zconso (zvo (rfl : i3 x8 = i3 x8)) (zconso (zvo (rfl : i3 v16 = i3 v16)) (zconso (zvo (show (1 : Int32) = i3 1 from rfl)) (zconso rfl rfl)))))))))))) rfl ?_
        intro L23 Z22 y21 hL23 hZ22I kZ22 jZ22 gy21 q9
        replace hP := zl_e2 hP (Eq.symm q9)
        clear q9
        have hZ22U : zU [(12 + 2)] Zs Z22 := zU_t hZ20U jZ22 zU_b0
        have hZ22K : zC [12, 13, 14, 40, 41, 42, 43, 44, 45, 46, 47, 48, 49, 50, 51, 52, 53, 54, 69, 1099, 1100, 1101, 1102, 1103, 1104, 1105, 1106, 1107, 1108, 1109, 1110, 1111, 1112, 1113, 1114, 1115, 1116] Zs Z22 := zC_t hZ20K kZ22 (by decide)
        refine fc_138_3 _ (i3 x1) (i3 x6) (i3 x7) (i3 x8) _ _ _ _ hL23 ?_
        have r24 := zH_k hZ22I 11 (12 + 1) 0 13 (lo := 0) (hi := 671) (by decide) rfl
        have q25 := (kZ22 11 (12 + 1) 0 13 (by decide)).trans ((kZ20 11 (12 + 1) 0 13 (by decide)).trans ((zu_ne (k' := 11) (b' := (12 + 1)) (i' := 0) (j' := 13) hZ19 (by omega)).trans ((kZ15 11 (12 + 1) 0 13 (by decide)).trans (gZ14 11 (12 + 1) 0 13 (by omega)))))
        have r26 := zH_k hZ22I 11 (12 + 0) 0 13 (lo := 0) (hi := 671) (by decide) rfl
        have q27 := (kZ22 11 (12 + 0) 0 13 (by decide)).trans ((kZ20 11 (12 + 0) 0 13 (by decide)).trans ((zu_ne (k' := 11) (b' := (12 + 0)) (i' := 0) (j' := 13) hZ19 (by omega)).trans ((kZ15 11 (12 + 0) 0 13 (by decide)).trans (gZ14 11 (12 + 0) 0 13 (by omega)))))
        obtain ⟨m2, rfl⟩ : ∃ m2, m = m2 + 1 := ⟨m - 1, by omega⟩
        refine wz_kbs (n := 1) (?_)
        exact wz_k1 ⟨m2, by omega, xM9 + 3185, Z22, (x8 + 1), (zconso rfl (zconso (zvo (rfl : i3 x1 = i3 x1)) (zconso rfl (zconso rfl (zconso rfl (zconso rfl (zconso (zvo (rfl : i3 x6 = i3 x6)) (zconso (zvo (rfl : i3 x7 = i3 x7)) (zconso (zvo (i3A (rfl : i3 x8 = i3 x8) (show (1 : Int32) = i3 1 from rfl))) (zconso rfl (zconso rfl (zconso rfl rfl)))))))))))), rfl, by omega, (zbt hZ22I rfl), hZ22K, hZ22U, (zLt_c (zLt_c (zLt_o (zLt_n (zLt_n hLt_12___1_ jZ14 (by simp <;> omega)) jZ15 (by simp <;> omega)) hZ19 ⟨by decide, .inl (by decide)⟩) kZ20 rfl) kZ22 rfl), by omega, by omega, by omega, by omega,  hP⟩
/- yX7_search -/
def zl_138_6 (x0b : Int) (x1 : Int) : Nat → qz_Z → Int → qz_Z × Int
  | 0, Z, x6 => (Z, x6)
  | m + 1, Z, x6 => (if 7 < x6 then (Z, x6) else (zlet (zf_134 Z x0b x6) (fun v3 => (if v3 = 0 then (zlet2 (zl_138_4 x0b x1 x6 (-1) 8 Z 1) (fun Z6 y5 => zl_138_6 x0b x1 m Z6 (x6 + 1))) else (zlet (zcp Z (12 + 0) (12 + 1)) (fun Z11 => (zlet2 (zf_136 Z11 (12 + 1) x1 x6) (fun Z12 v13 => (zlet (zu Z12 11 (12 + 1) 0 13 ((Z12 11 (12 + 1) 0 13) + 1)) (fun Z16 => (zlet (zf_171 Z16 (12 + 1)) (fun Z17 => (zlet2 (zl_138_4 x0b x1 x6 v13 8 Z17 1) (fun Z19 y18 => zl_138_6 x0b x1 m Z19 (x6 + 1)))))))))))))))
theorem sl_138_6 {s : zSM} {xM9 : Nat} {Zs Z : qz_Z} {ν : qz_N} (hZ : zH (zb s xM9) Z) (hM : s.2 + 229320 ≤ 1000000000) (hK : zC [12, 13, 14, 40, 41, 42, 43, 44, 45, 46, 47, 48, 49, 50, 51, 52, 53, 54, 69, 1099, 1100, 1101, 1102, 1103, 1104, 1105, 1106, 1107, 1108, 1109, 1110, 1111, 1112, 1113, 1114, 1115, 1116] Zs Z) (x0b : Nat) {x1 : Int} (gx1 : 0 ≤ x1 ∧ x1 ≤ 1) {x6 : Int} (gx6 : 1 ≤ x6 ∧ x6 ≤ 8) (hU : zU [(12 + 1), (12 + 2)] Zs Z) (hLt_12___0_ : zLt (12 + 0) Z) (hLt_12___1_ : zLt (12 + 1) Z) (hx9 : xM9 + 28665 * ((8 - x6).toNat) + 28665 ≤ 229320) (gr0 : Z 11 (12 + 0) 0 13 ≤ 666) {k : wz_K} {R : wz_R} {L : qz_L} (hL : qz_fg [true, true, true, true, false, false, true, false, false, false, false, false] L = [some (.inr (.inr (some (10, x0b, 0)))), some (.inl (i3 x1)), some (.inr (.inr (some (67, 0, 0)))), some (.inr (.inr (some (69, 0, 0)))), none, none, some (.inl (i3 x6)), none, none, none, none, none]) {T : qz_Z × Int} (hP : zE T (zl_138_6 x0b x1 ((8 - x6).toNat + 1) Z x6)) (hk : ∀ (L9 : qz_L) (Z9 : qz_Z) (yx6 : Int), qz_fg [false, false, false, false, false, false, false, false, false, false, false, false] L9 = [none, none, none, none, none, none, none, none, none, none, none, none] → zH (zb s 229320) Z9 → zC [12, 13, 14, 40, 41, 42, 43, 44, 45, 46, 47, 48, 49, 50, 51, 52, 53, 54, 69, 1099, 1100, 1101, 1102, 1103, 1104, 1105, 1106, 1107, 1108, 1109, 1110, 1111, 1112, 1113, 1114, 1115, 1116] Zs Z9 → zU [(12 + 1), (12 + 2)] Zs Z9 → zLt (12 + 0) Z9 → zLt (12 + 1) Z9 → (1 ≤ yx6 ∧ yx6 ≤ 8) → (Z9 11 (12 + 0) 0 13 ≤ 666) → zE T ((Z9, yx6)) → k 0 (L9, [], zm Z9 ν)) : wz_loop qb_138_6 65536 k R (L, [], zm Z ν) := by
  refine wz_lp sb_138_6 (fun m x => ∃ xM9 : Nat, ∃ Z : qz_Z, ∃ x6 : Int, qz_fg [true, true, true, true, false, false, true, false, false, false, false, false] x.1 = [some (.inr (.inr (some (10, x0b, 0)))), some (.inl (i3 x1)), some (.inr (.inr (some (67, 0, 0)))), some (.inr (.inr (some (69, 0, 0)))), none, none, some (.inl (i3 x6)), none, none, none, none, none] ∧ x.2 = ([], zm Z ν) ∧ xM9 + 28665 * m + 28665 ≤ 229320 ∧ zH (zb s xM9) Z ∧ zC [12, 13, 14, 40, 41, 42, 43, 44, 45, 46, 47, 48, 49, 50, 51, 52, 53, 54, 69, 1099, 1100, 1101, 1102, 1103, 1104, 1105, 1106, 1107, 1108, 1109, 1110, 1111, 1112, 1113, 1114, 1115, 1116] Zs Z ∧ zU [(12 + 1), (12 + 2)] Zs Z ∧ zLt (12 + 0) Z ∧ zLt (12 + 1) Z ∧ m = (8 - x6).toNat ∧ (1 ≤ x6 ∧ x6 ≤ 8) ∧ (Z 11 (12 + 0) 0 13 ≤ 666) ∧ zE T (zl_138_6 x0b x1 (m + 1) Z x6)) ?_ 65536 ((8 - x6).toNat) _ (by omega) ⟨xM9, Z, x6, hL, rfl, hx9, hZ, hK, hU, hLt_12___0_, hLt_12___1_, rfl, gx6, gr0, hP⟩
  clear hP gr0 gx6 hx9 hZ hK hU hLt_12___0_ hLt_12___1_ hL
  clear x6
  clear Z
  clear xM9
  rintro m ⟨L, st, μ⟩ ⟨xM9, Z, x6, hL, hx, hx9, hZ, hK, hU, hLt_12___0_, hLt_12___1_, hm, gx6, gr0, hP⟩
  cases hx
  have hM9 : (zb s xM9).2 + 28665 ≤ 1000000000 := by
    show s.2 + xM9 + 28665 ≤ 1000000000
    omega
  refine fb_138_6 x0b (i3 x1) (i3 x6) _ _ _ _ hL ?_
  have r1 := zH_k hZ 11 (12 + 0) 0 13 (lo := 0) (hi := 671) (by decide) rfl
  refine wz_br (i3L (show (7 : Int32) = i3 7 from rfl) (rfl : i3 x6 = i3 x6) (by omega) (by omega) (by omega) (by omega)) (fun h2 => ?_) (fun h2 => ?_)
  · replace hP := zE_p hP h2
    exact hk _ _ _ (zconso rfl (zconso rfl (zconso rfl (zconso rfl (zconso rfl (zconso rfl (zconso rfl (zconso rfl (zconso rfl (zconso rfl (zconso rfl (zconso rfl rfl)))))))))))) (zbx0 hZ (by omega)) hK hU hLt_12___0_ hLt_12___1_ (by omega) (by omega) hP
  · replace hP := zE_n hP h2
    obtain ⟨v3, hv3, c9, lv3, uv3⟩ := sp_134 (ν := ν) hZ x0b (a1 := x6) (by omega) (zbh (c := 0) (k := 0) hM9 (Nat.le_of_ble_eq_true rfl))
    replace hP := zl_e hP hv3
    refine wz_cI_of (zas (zcons rfl (zcons (zvi (rfl : i3 x6 = i3 x6)) rfl)) c9) ?_
    clear c9
    refine wz_br (i3E (rfl : i3 v3 = i3 v3) (show (0 : Int32) = i3 0 from rfl) (by omega) (by omega) (by omega) (by omega)) (fun h4 => ?_) (fun h4 => ?_)
    · replace hP := zE_p hP h4
      have r7 := zH_k hZ 11 (12 + 1) 0 13 (lo := 0) (hi := 671) (by decide) rfl
      refine sl_138_4 (ν := ν) (zb0 hZ) (zbh (c := 0) (k := 25480) hM9 (Nat.le_of_ble_eq_true rfl)) (xM9 := 0) zC_r x0b (x1 := x1) (by omega) (x6 := x6) (by omega) (x7 := (-1)) (by omega) (x8 := 1) (by omega) zU_r hLt_12___1_ (Nat.le_of_ble_eq_true rfl) (by omega) (by omega) (zconso rfl (zconso (zvo (rfl : i3 x1 = i3 x1)) (zconso rfl (zconso rfl (zconso rfl (zconso rfl (zconso (zvo (rfl : i3 x6 = i3 x6)) (zconso (zvo (show (-1 : Int32) = i3 (-1) from rfl)) (zconso (zvo (show (1 : Int32) = i3 1 from rfl)) (zconso rfl (zconso rfl (zconso rfl rfl)))))))))))) rfl ?_
      intro L8 Z6 y5 hL8 hZ6I kZ6 jZ6 tZ6__12___1_ gy5 gL8_0 gL8_1 q9
      replace hP := zl_e2 hP (Eq.symm q9)
      clear q9
      have hZ6U : zU [(12 + 1), (12 + 2)] Zs Z6 := zU_t hU jZ6 (zU_b1 (List.Mem.tail _ (List.Mem.head _)) zU_b0)
      have hZ6K : zC [12, 13, 14, 40, 41, 42, 43, 44, 45, 46, 47, 48, 49, 50, 51, 52, 53, 54, 69, 1099, 1100, 1101, 1102, 1103, 1104, 1105, 1106, 1107, 1108, 1109, 1110, 1111, 1112, 1113, 1114, 1115, 1116] Zs Z6 := zC_t hK kZ6 (by decide)
      have r9 := zH_k hZ6I 11 (12 + 1) 0 13 (lo := 0) (hi := 671) (by decide) rfl
      have r10 := zH_k hZ6I 11 (12 + 0) 0 13 (lo := 0) (hi := 671) (by decide) rfl
      refine fc_138_5 _ (i3 x1) (i3 x6) _ _ _ _ hL8 ?_
      obtain ⟨m2, rfl⟩ : ∃ m2, m = m2 + 1 := ⟨m - 1, by omega⟩
      refine wz_kbs (n := 1) (?_)
      exact wz_k1 ⟨m2, by omega, xM9 + 25480, Z6, (x6 + 1), (zconso rfl (zconso (zvo (rfl : i3 x1 = i3 x1)) (zconso rfl (zconso rfl (zconso rfl (zconso rfl (zconso (zvo (i3A (rfl : i3 x6 = i3 x6) (show (1 : Int32) = i3 1 from rfl))) (zconso rfl (zconso rfl (zconso rfl (zconso rfl (zconso rfl rfl)))))))))))), rfl, by omega, (zbt hZ6I rfl), hZ6K, hZ6U, (zLt_n hLt_12___0_ jZ6 (by simp <;> omega)), tZ6__12___1_, by omega, by omega, by omega,  hP⟩
    · replace hP := zE_n hP h4
      obtain ⟨Z11, hZ11, c9, hZ11I, kZ11, gZ11⟩ := zH_cpe (ν := ν) hZ (zn_add (n := 12) (show ((0 : Nat) : Int) = 0 from rfl)) (zn_add (n := 12) (show ((1 : Nat) : Int) = 1 from rfl)) (by omega)
      have fZ11 : zC [12, 13, 14, 40, 41, 42, 43, 44, 45, 46, 47, 48, 49, 50, 51, 52, 53, 54, 1099, 1100, 1101, 1102, 1103, 1104, 1105, 1106, 1107, 1108, 1109, 1110, 1111, 1112, 1113, 1114, 1115, 1116] Z Z11 := zC_k kZ11 (by decide) (by decide)
      have aZ11 : ∀ {k : Nat} {i j : Int}, zhk k i j = true → Z11 k (12 + 1) i j = Z k (12 + 0) i j := fun hk => zcp_at hZ11 hk
      have hZ11K : zC [12, 13, 14, 40, 41, 42, 43, 44, 45, 46, 47, 48, 49, 50, 51, 52, 53, 54, 69, 1099, 1100, 1101, 1102, 1103, 1104, 1105, 1106, 1107, 1108, 1109, 1110, 1111, 1112, 1113, 1114, 1115, 1116] Zs Z11 := zC_t hK fZ11 (by decide)
      have jZ11 : zU [(12 + 1)] Z Z11 := zU_cp hZ11
      have hZ11U : zU [(12 + 1), (12 + 2)] Zs Z11 := zU_t hU jZ11 (zU_b1 (List.Mem.head _) zU_b0)
      replace hP := zl_e hP hZ11
      refine wz_cV_of c9 ?_
      clear c9
      obtain ⟨Z12, v13, hv13, c9, hZ12I, kZ12, jZ12, lv13, uv13, tZ12_a0b⟩ := sp_136 (ν := ν) hZ11I (12 + 1) (a1 := x1) (by omega) (a2 := x6) (by omega) (zLt_cp hLt_12___0_ hZ11) (zbh (c := 0) (k := 3185) hM9 (Nat.le_of_ble_eq_true rfl))
      have hZ12U : zU [(12 + 1), (12 + 2)] Zs Z12 := zU_t hZ11U jZ12 (zU_b1 (List.Mem.head _) zU_b0)
      have hZ12K : zC [12, 13, 14, 40, 41, 42, 43, 44, 45, 46, 47, 48, 49, 50, 51, 52, 53, 54, 69, 1099, 1100, 1101, 1102, 1103, 1104, 1105, 1106, 1107, 1108, 1109, 1110, 1111, 1112, 1113, 1114, 1115, 1116] Zs Z12 := zC_t hZ11K kZ12 (by decide)
      replace hP := zl_e2 hP hv13
      refine wz_cI_of (zas (zcons rfl (zcons (zvi (rfl : i3 x1 = i3 x1)) (zcons (zvi (rfl : i3 x6 = i3 x6)) rfl))) c9) ?_
      clear c9 hv13
      have r14 := zH_k hZ12I 11 (12 + 1) 0 13 (lo := 0) (hi := 671) (by decide) rfl
      have q15 := (kZ12 11 (12 + 1) 0 13 (by decide)).trans (aZ11 (k := 11) (i := 0) (j := 13) (by decide))
      obtain ⟨Z16, hZ16⟩ := zx (zu Z12 11 (12 + 1) 0 13 ((Z12 11 (12 + 1) 0 13) + 1))
      replace hP := zl_e hP hZ16
      have hZ16I := zH_u hZ12I hZ16 (lo := 0) (hi := 671) (by decide) rfl (by omega) ⟨by decide, by decide⟩ (Or.inl (by decide)) rfl
      have hZ16U : zU [(12 + 1), (12 + 2)] Zs Z16 := zU_u hZ12U hZ16 (Or.inr (List.Mem.head _))
      have hZ16K : zC [12, 13, 14, 40, 41, 42, 43, 44, 45, 46, 47, 48, 49, 50, 51, 52, 53, 54, 69, 1099, 1100, 1101, 1102, 1103, 1104, 1105, 1106, 1107, 1108, 1109, 1110, 1111, 1112, 1113, 1114, 1115, 1116] Zs Z16 := zC_u hZ12K hZ16 (by decide)
      intro μ9 e9
      replace e9 := e9.trans (zm_wI (Z := Z12) (ν := ν) hZ16 (zn_add (n := 12) (show ((1 : Nat) : Int) = 1 from rfl)) (show ((0 : Nat) : Int) = 0 from rfl) (show ((13 : Nat) : Int) = 13 from rfl) (i3A (zm_rd (Z := Z12) (ν := ν) (k := 11) (zn_add (n := 12) (show ((1 : Nat) : Int) = 1 from rfl)) (show ((0 : Nat) : Int) = 0 from rfl) (show ((13 : Nat) : Int) = 13 from rfl)) (show (1 : Int32) = i3 1 from rfl)))
      subst e9
      obtain ⟨Z17, hZ17, c9, hZ17I, kZ17, jZ17⟩ := sp_171 (ν := ν) hZ16I (12 + 1) (zbh (c := 3185) (k := 0) hM9 (Nat.le_of_ble_eq_true rfl))
      have hZ17U : zU [(12 + 1), (12 + 2)] Zs Z17 := zU_t hZ16U jZ17 (zU_b1 (List.Mem.head _) zU_b0)
      have hZ17K : zC [12, 13, 14, 40, 41, 42, 43, 44, 45, 46, 47, 48, 49, 50, 51, 52, 53, 54, 69, 1099, 1100, 1101, 1102, 1103, 1104, 1105, 1106, 1107, 1108, 1109, 1110, 1111, 1112, 1113, 1114, 1115, 1116] Zs Z17 := zC_t hZ16K kZ17 (by decide)
      replace hP := zl_e hP hZ17
      refine wz_cV_of (zas (zcons rfl rfl) c9) ?_
      clear c9
      have r20 := zH_k hZ17I 11 (12 + 1) 0 13 (lo := 0) (hi := 671) (by decide) rfl
      have q21 := (kZ17 11 (12 + 1) 0 13 (by decide)).trans (zu_at hZ16)
      have r22 := zH_k hZ17I 11 (12 + 0) 0 13 (lo := 0) (hi := 671) (by decide) rfl
      have q23 := (kZ17 11 (12 + 0) 0 13 (by decide)).trans ((zu_ne (k' := 11) (b' := (12 + 0)) (i' := 0) (j' := 13) hZ16 (by omega)).trans ((kZ12 11 (12 + 0) 0 13 (by decide)).trans (gZ11 11 (12 + 0) 0 13 (by omega))))
      refine sl_138_4 (ν := ν) (zb0 hZ17I) (zbh (c := 3185) (k := 25480) hM9 (Nat.le_of_ble_eq_true rfl)) (xM9 := 0) zC_r x0b (x1 := x1) (by omega) (x6 := x6) (by omega) (x7 := v13) (by omega) (x8 := 1) (by omega) zU_r (zLt_c (zLt_o tZ12_a0b hZ16 ⟨by decide, .inl (by decide)⟩) kZ17 rfl) (Nat.le_of_ble_eq_true rfl) (by omega) (by omega) (zconso rfl (zconso (zvo (rfl : i3 x1 = i3 x1)) (zconso rfl (zconso rfl (zconso rfl (zconso rfl (zconso (zvo (rfl : i3 x6 = i3 x6)) (zconso (zvo (rfl : i3 v13 = i3 v13)) (zconso (zvo (show (1 : Int32) = i3 1 from rfl)) (zconso rfl (zconso rfl (zconso rfl rfl)))))))))))) rfl ?_
      intro L24 Z19 y18 hL24 hZ19I kZ19 jZ19 tZ19__12___1_ gy18 gL24_0 gL24_1 q9
      replace hP := zl_e2 hP (Eq.symm q9)
      clear q9
      replace hZ19I := zbt (c := 28665) hZ19I rfl
      have hZ19U : zU [(12 + 1), (12 + 2)] Zs Z19 := zU_t hZ17U jZ19 (zU_b1 (List.Mem.tail _ (List.Mem.head _)) zU_b0)
      have hZ19K : zC [12, 13, 14, 40, 41, 42, 43, 44, 45, 46, 47, 48, 49, 50, 51, 52, 53, 54, 69, 1099, 1100, 1101, 1102, 1103, 1104, 1105, 1106, 1107, 1108, 1109, 1110, 1111, 1112, 1113, 1114, 1115, 1116] Zs Z19 := zC_t hZ17K kZ19 (by decide)
      have r25 := zH_k hZ19I 11 (12 + 1) 0 13 (lo := 0) (hi := 671) (by decide) rfl
      have r26 := zH_k hZ19I 11 (12 + 0) 0 13 (lo := 0) (hi := 671) (by decide) rfl
      refine fc_138_5 _ (i3 x1) (i3 x6) _ _ _ _ hL24 ?_
      obtain ⟨m2, rfl⟩ : ∃ m2, m = m2 + 1 := ⟨m - 1, by omega⟩
      refine wz_kbs (n := 1) (?_)
      exact wz_k1 ⟨m2, by omega, xM9 + 28665, Z19, (x6 + 1), (zconso rfl (zconso (zvo (rfl : i3 x1 = i3 x1)) (zconso rfl (zconso rfl (zconso rfl (zconso rfl (zconso (zvo (i3A (rfl : i3 x6 = i3 x6) (show (1 : Int32) = i3 1 from rfl))) (zconso rfl (zconso rfl (zconso rfl (zconso rfl (zconso rfl rfl)))))))))))), rfl, by omega, (zbt hZ19I rfl), hZ19K, hZ19U, (zLt_n (zLt_c (zLt_o (zLt_n (zLt_n hLt_12___0_ jZ11 (by simp <;> omega)) jZ12 (by simp <;> omega)) hZ16 ⟨by decide, .inl (by decide)⟩) kZ17 rfl) jZ19 (by simp <;> omega)), tZ19__12___1_, by omega, by omega, by omega,  hP⟩
/- yX7_search -/
def zf_138 (Z : qz_Z) (a0b : Int) (a1 : Int) : qz_Z := (if (Z 51 a0b a1 0) ≤ ((Z 11 a0b 0 13) % 24) then (zlet (zu Z 69 0 0 0 (-1)) (fun Z4 => (zlet (zu Z4 69 0 0 1 (-1)) (fun Z5 => (if (((Z 11 a0b 0 13) / 24) + 1) < 28 then (zlet (zcp Z5 a0b (12 + 0)) (fun Z7 => (zlet2 (zl_138_1 a0b a1 (Z 51 a0b a1 0) (((Z 11 a0b 0 13) / 24) + 1) ((671 - (Z7 11 a0b 0 13)).toNat + 1) Z7 (Z7 11 a0b 0 13)) (fun Z11 y10 => (zlet2 (zl_138_6 a0b a1 8 Z11 1) (fun Z17 y16 => Z17)))))) else Z5))))) else (zlet (zu Z 69 0 0 0 (-1)) (fun Z20 => (zlet (zu Z20 69 0 0 1 (-1)) (fun Z21 => (zlet (zcp Z21 a0b (12 + 0)) (fun Z22 => (zlet2 (zl_138_1 a0b a1 (Z 51 a0b a1 0) ((Z 11 a0b 0 13) / 24) ((671 - (Z22 11 a0b 0 13)).toNat + 1) Z22 (Z22 11 a0b 0 13)) (fun Z26 y25 => (zlet2 (zl_138_6 a0b a1 8 Z26 1) (fun Z32 y31 => Z32)))))))))))
theorem sp_138 {s : zSM} {Z : qz_Z} {ν : qz_N} (hZ : zH s Z) (a0b : Nat) {a1 : Int} (ga1 : 0 ≤ a1 ∧ a1 ≤ 1) (gx0 : a0b = 0) (hLta0b : zLt a0b Z) (hLt_12___1_ : zLt (12 + 1) Z) (hM : s.2 + 229320 ≤ 1000000000) : ∃ P : qz_Z, P = zf_138 Z a0b a1 ∧ (qf_138 [.inr (.inr (some (10, a0b, 0))), .inl (i3 a1), .inr (.inr (some (67, 0, 0))), .inr (.inr (some (69, 0, 0)))] (zm Z ν) = some (zm P ν, .inl none) ∧ zH (zb s 229320) P ∧ zC [12, 13, 14, 40, 41, 42, 43, 44, 45, 46, 47, 48, 49, 50, 51, 52, 53, 54, 69, 1099, 1100, 1101, 1102, 1103, 1104, 1105, 1106, 1107, 1108, 1109, 1110, 1111, 1112, 1113, 1114, 1115, 1116] Z P ∧ zU [(12 + 0), (12 + 1), (12 + 2)] Z P ∧ zLt a0b P ∧ zLt (12 + 1) P) := by
  obtain ⟨P, hP⟩ := zx (zf_138 Z a0b a1)
  refine zc_V (Q := fun P => zH (zb s 229320) P ∧ zC [12, 13, 14, 40, 41, 42, 43, 44, 45, 46, 47, 48, 49, 50, 51, 52, 53, 54, 69, 1099, 1100, 1101, 1102, 1103, 1104, 1105, 1106, 1107, 1108, 1109, 1110, 1111, 1112, 1113, 1114, 1115, 1116] Z P ∧ zU [(12 + 0), (12 + 1), (12 + 2)] Z P ∧ zLt a0b P ∧ zLt (12 + 1) P) hP (fw_138 a0b (i3 a1) _ _ ?_)
  replace hP : zE P (zf_138 Z a0b a1) := hP
  unfold zf_138 at hP
  refine wz_i0 (i3O (n := 2) (rfl : i3 a1 = i3 a1) (by omega) (by omega) (by omega)) ?_
  have r1 := zH_k hZ 51 a0b a1 0 (lo := 0) (hi := 18) (by decide) rfl
  have r2 := zH_k hZ 11 a0b 0 13 (lo := 0) (hi := 671) (by decide) rfl
  refine wz_br (i3Le (zm_rd (Z := Z) (ν := ν) (k := 51) (rfl : ((a0b : Nat) : Int) = a0b) (i3I (y := a1) (rfl : i3 a1 = i3 a1) (by omega) (by omega) (by omega)) (show ((0 : Nat) : Int) = 0 from rfl)) (i3R (zm_rd (Z := Z) (ν := ν) (k := 11) (rfl : ((a0b : Nat) : Int) = a0b) (show ((0 : Nat) : Int) = 0 from rfl) (show ((13 : Nat) : Int) = 13 from rfl)) (show (24 : Int32) = i3 24 from rfl) (by omega) (by omega) (by omega) (by omega)) (by omega) (by omega) (by omega) (by omega)) (fun h3 => ?_) (fun h3 => ?_)
  · replace hP := zE_p hP h3
    obtain ⟨Z4, hZ4⟩ := zx (zu Z 69 0 0 0 (-1))
    replace hP := zl_e hP hZ4
    have hZ4I := zH_u hZ hZ4 (lo := -2147483648) (hi := 2147483647) (by decide) rfl (by omega) ⟨by decide, by decide⟩ (Or.inl (by decide)) rfl
    have hZ4U : zU [(12 + 0), (12 + 1), (12 + 2)] Z Z4 := zU_u zU_r hZ4 (Or.inl rfl)
    have hZ4K : zC [12, 13, 14, 40, 41, 42, 43, 44, 45, 46, 47, 48, 49, 50, 51, 52, 53, 54, 69, 1099, 1100, 1101, 1102, 1103, 1104, 1105, 1106, 1107, 1108, 1109, 1110, 1111, 1112, 1113, 1114, 1115, 1116] Z Z4 := zC_u zC_r hZ4 (by decide)
    intro μ9 e9
    replace e9 := e9.trans (zm_wI (Z := Z) (ν := ν) hZ4 (show ((0 : Nat) : Int) = 0 from rfl) (show ((0 : Nat) : Int) = 0 from rfl) (show ((0 : Nat) : Int) = 0 from rfl) (show (-1 : Int32) = i3 (-1) from rfl))
    subst e9
    obtain ⟨Z5, hZ5⟩ := zx (zu Z4 69 0 0 1 (-1))
    replace hP := zl_e hP hZ5
    have hZ5I := zH_u hZ4I hZ5 (lo := -2147483648) (hi := 2147483647) (by decide) rfl (by omega) ⟨by decide, by decide⟩ (Or.inl (by decide)) rfl
    have hZ5U : zU [(12 + 0), (12 + 1), (12 + 2)] Z Z5 := zU_u hZ4U hZ5 (Or.inl rfl)
    have hZ5K : zC [12, 13, 14, 40, 41, 42, 43, 44, 45, 46, 47, 48, 49, 50, 51, 52, 53, 54, 69, 1099, 1100, 1101, 1102, 1103, 1104, 1105, 1106, 1107, 1108, 1109, 1110, 1111, 1112, 1113, 1114, 1115, 1116] Z Z5 := zC_u hZ4K hZ5 (by decide)
    intro μ9 e9
    replace e9 := e9.trans (zm_wI (Z := Z4) (ν := ν) hZ5 (show ((0 : Nat) : Int) = 0 from rfl) (show ((0 : Nat) : Int) = 0 from rfl) (show ((1 : Nat) : Int) = 1 from rfl) (show (-1 : Int32) = i3 (-1) from rfl))
    subst e9
    refine wz_br (i3L (i3A (i3D (zm_rd (Z := Z) (ν := ν) (k := 11) (rfl : ((a0b : Nat) : Int) = a0b) (show ((0 : Nat) : Int) = 0 from rfl) (show ((13 : Nat) : Int) = 13 from rfl)) (show (24 : Int32) = i3 24 from rfl) (by omega) (by omega) (by omega) (by omega)) (show (1 : Int32) = i3 1 from rfl)) (show (28 : Int32) = i3 28 from rfl) (by omega) (by omega) (by omega) (by omega)) (fun h6 => ?_) (fun h6 => ?_)
    · replace hP := zE_p hP h6
      obtain ⟨Z7, hZ7, c9, hZ7I, kZ7, gZ7⟩ := zH_cpe (ν := ν) hZ5I (rfl : ((a0b : Nat) : Int) = a0b) (zn_add (n := 12) (show ((0 : Nat) : Int) = 0 from rfl)) (by omega)
      have fZ7 : zC [12, 13, 14, 40, 41, 42, 43, 44, 45, 46, 47, 48, 49, 50, 51, 52, 53, 54, 1099, 1100, 1101, 1102, 1103, 1104, 1105, 1106, 1107, 1108, 1109, 1110, 1111, 1112, 1113, 1114, 1115, 1116] Z5 Z7 := zC_k kZ7 (by decide) (by decide)
      have aZ7 : ∀ {k : Nat} {i j : Int}, zhk k i j = true → Z7 k (12 + 0) i j = Z5 k a0b i j := fun hk => zcp_at hZ7 hk
      have hZ7K : zC [12, 13, 14, 40, 41, 42, 43, 44, 45, 46, 47, 48, 49, 50, 51, 52, 53, 54, 69, 1099, 1100, 1101, 1102, 1103, 1104, 1105, 1106, 1107, 1108, 1109, 1110, 1111, 1112, 1113, 1114, 1115, 1116] Z Z7 := zC_t hZ5K fZ7 (by decide)
      have jZ7 : zU [(12 + 0)] Z5 Z7 := zU_cp hZ7
      have hZ7U : zU [(12 + 0), (12 + 1), (12 + 2)] Z Z7 := zU_t hZ5U jZ7 (zU_b1 (List.Mem.head _) zU_b0)
      replace hP := zl_e hP hZ7
      refine wz_cV_of c9 ?_
      clear c9
      have r8 := zH_k hZ7I 11 a0b 0 13 (lo := 0) (hi := 671) (by decide) rfl
      have q9 := (gZ7 11 a0b 0 13 (by omega)).trans ((zu_ne (k' := 11) (b' := a0b) (i' := 0) (j' := 13) hZ5 (fun q => absurd q.1 (by decide))).trans (zu_ne (k' := 11) (b' := a0b) (i' := 0) (j' := 13) hZ4 (fun q => absurd q.1 (by decide))))
      have r12 := zH_k hZ7I 11 (12 + 0) 0 13 (lo := 0) (hi := 671) (by decide) rfl
      have q13 := (aZ7 (k := 11) (i := 0) (j := 13) (by decide)).trans ((zu_ne (k' := 11) (b' := a0b) (i' := 0) (j' := 13) hZ5 (fun q => absurd q.1 (by decide))).trans (zu_ne (k' := 11) (b' := a0b) (i' := 0) (j' := 13) hZ4 (fun q => absurd q.1 (by decide))))
      refine sl_138_1 (ν := ν) hZ7I (zbh (c := 0) (k := 0) hM (Nat.le_of_ble_eq_true rfl)) zC_r a0b (x1 := a1) (by omega) (x4 := (Z 51 a0b a1 0)) (by omega) (x5 := (((Z 11 a0b 0 13) / 24) + 1)) (by omega) (x6 := (Z7 11 a0b 0 13)) (by omega) zU_r (by omega) (by omega) (zconso rfl (zconso (zvo (rfl : i3 a1 = i3 a1)) (zconso rfl (zconso rfl (zconso (zvo (zm_rd (Z := Z) (ν := ν) (k := 51) (rfl : ((a0b : Nat) : Int) = a0b) (i3I (y := a1) (rfl : i3 a1 = i3 a1) (by omega) (by omega) (by omega)) (show ((0 : Nat) : Int) = 0 from rfl))) (zconso (zvo (i3A (i3D (zm_rd (Z := Z) (ν := ν) (k := 11) (rfl : ((a0b : Nat) : Int) = a0b) (show ((0 : Nat) : Int) = 0 from rfl) (show ((13 : Nat) : Int) = 13 from rfl)) (show (24 : Int32) = i3 24 from rfl) (by omega) (by omega) (by omega) (by omega)) (show (1 : Int32) = i3 1 from rfl))) (zconso (zvo (zm_rd (Z := Z7) (ν := ν) (k := 11) (rfl : ((a0b : Nat) : Int) = a0b) (show ((0 : Nat) : Int) = 0 from rfl) (show ((13 : Nat) : Int) = 13 from rfl))) (zconso rfl (zconso rfl (zconso rfl (zconso rfl (zconso rfl rfl)))))))))))) rfl ?_
      intro L14 Z11 y10 hL14 hZ11I kZ11 jZ11 gy10 gL14_0 gL14_1 q9
      replace hP := zl_e2 hP (Eq.symm q9)
      clear q9
      have hZ11U : zU [(12 + 0), (12 + 1), (12 + 2)] Z Z11 := zU_t hZ7U jZ11 (zU_b1 (List.Mem.head _) zU_b0)
      have hZ11K : zC [12, 13, 14, 40, 41, 42, 43, 44, 45, 46, 47, 48, 49, 50, 51, 52, 53, 54, 69, 1099, 1100, 1101, 1102, 1103, 1104, 1105, 1106, 1107, 1108, 1109, 1110, 1111, 1112, 1113, 1114, 1115, 1116] Z Z11 := zC_t hZ7K kZ11 (by decide)
      have r15 := zH_k hZ11I 11 (12 + 0) 0 13 (lo := 0) (hi := 671) (by decide) rfl
      refine fc_138_8 _ (i3 a1) _ _ _ _ hL14 ?_
      refine sl_138_6 (ν := ν) (zb0 hZ11I) (zbh (c := 0) (k := 229320) hM (Nat.le_of_ble_eq_true rfl)) (xM9 := 0) zC_r a0b (x1 := a1) (by omega) (x6 := 1) (by omega) zU_r (zLt_c (zLt_cp (zLt_o (zLt_o hLta0b hZ4 ⟨by decide, .inl (by decide)⟩) hZ5 ⟨by decide, .inl (by decide)⟩) hZ7) kZ11 rfl) (zLt_c (zLt_n (zLt_o (zLt_o hLt_12___1_ hZ4 ⟨by decide, .inl (by decide)⟩) hZ5 ⟨by decide, .inl (by decide)⟩) jZ7 (by simp <;> omega)) kZ11 rfl) (Nat.le_of_ble_eq_true rfl) (by omega) (zconso rfl (zconso (zvo (rfl : i3 a1 = i3 a1)) (zconso rfl (zconso rfl (zconso rfl (zconso rfl (zconso (zvo (show (1 : Int32) = i3 1 from rfl)) (zconso rfl (zconso rfl (zconso rfl (zconso rfl (zconso rfl rfl)))))))))))) rfl ?_
      intro L18 Z17 y16 hL18 hZ17I kZ17 jZ17 tZ17__12___0_ tZ17__12___1_ gy16 gL18_0 q9
      replace hP := zl_e2 hP (Eq.symm q9)
      clear q9
      have hZ17U : zU [(12 + 0), (12 + 1), (12 + 2)] Z Z17 := zU_t hZ11U jZ17 (zU_b1 (List.Mem.tail _ (List.Mem.head _)) (zU_b1 (List.Mem.tail _ (List.Mem.tail _ (List.Mem.head _))) zU_b0))
      have hZ17K : zC [12, 13, 14, 40, 41, 42, 43, 44, 45, 46, 47, 48, 49, 50, 51, 52, 53, 54, 69, 1099, 1100, 1101, 1102, 1103, 1104, 1105, 1106, 1107, 1108, 1109, 1110, 1111, 1112, 1113, 1114, 1115, 1116] Z Z17 := zC_t hZ11K kZ17 (by decide)
      have r19 := zH_k hZ17I 11 (12 + 0) 0 13 (lo := 0) (hi := 671) (by decide) rfl
      refine fc_138_7  _ _ _ _ hL18 ?_
      exact zlV hP ⟨hZ17I, hZ17K, hZ17U, (zLt_n (zLt_c (zLt_n (zLt_o (zLt_o hLta0b hZ4 ⟨by decide, .inl (by decide)⟩) hZ5 ⟨by decide, .inl (by decide)⟩) jZ7 (by simp <;> omega)) kZ11 rfl) jZ17 (by simp <;> omega)), tZ17__12___1_⟩
    · replace hP := zE_n hP h6
      exact zlV hP ⟨(zbw (a := 0) (c := 229320) hZ5I (Nat.le_of_ble_eq_true rfl)), hZ5K, hZ5U, (zLt_o (zLt_o hLta0b hZ4 ⟨by decide, .inl (by decide)⟩) hZ5 ⟨by decide, .inl (by decide)⟩), (zLt_o (zLt_o hLt_12___1_ hZ4 ⟨by decide, .inl (by decide)⟩) hZ5 ⟨by decide, .inl (by decide)⟩)⟩
  · replace hP := zE_n hP h3
    obtain ⟨Z20, hZ20⟩ := zx (zu Z 69 0 0 0 (-1))
    replace hP := zl_e hP hZ20
    have hZ20I := zH_u hZ hZ20 (lo := -2147483648) (hi := 2147483647) (by decide) rfl (by omega) ⟨by decide, by decide⟩ (Or.inl (by decide)) rfl
    have hZ20U : zU [(12 + 0), (12 + 1), (12 + 2)] Z Z20 := zU_u zU_r hZ20 (Or.inl rfl)
    have hZ20K : zC [12, 13, 14, 40, 41, 42, 43, 44, 45, 46, 47, 48, 49, 50, 51, 52, 53, 54, 69, 1099, 1100, 1101, 1102, 1103, 1104, 1105, 1106, 1107, 1108, 1109, 1110, 1111, 1112, 1113, 1114, 1115, 1116] Z Z20 := zC_u zC_r hZ20 (by decide)
    intro μ9 e9
    replace e9 := e9.trans (zm_wI (Z := Z) (ν := ν) hZ20 (show ((0 : Nat) : Int) = 0 from rfl) (show ((0 : Nat) : Int) = 0 from rfl) (show ((0 : Nat) : Int) = 0 from rfl) (show (-1 : Int32) = i3 (-1) from rfl))
    subst e9
    obtain ⟨Z21, hZ21⟩ := zx (zu Z20 69 0 0 1 (-1))
    replace hP := zl_e hP hZ21
    have hZ21I := zH_u hZ20I hZ21 (lo := -2147483648) (hi := 2147483647) (by decide) rfl (by omega) ⟨by decide, by decide⟩ (Or.inl (by decide)) rfl
    have hZ21U : zU [(12 + 0), (12 + 1), (12 + 2)] Z Z21 := zU_u hZ20U hZ21 (Or.inl rfl)
    have hZ21K : zC [12, 13, 14, 40, 41, 42, 43, 44, 45, 46, 47, 48, 49, 50, 51, 52, 53, 54, 69, 1099, 1100, 1101, 1102, 1103, 1104, 1105, 1106, 1107, 1108, 1109, 1110, 1111, 1112, 1113, 1114, 1115, 1116] Z Z21 := zC_u hZ20K hZ21 (by decide)
    intro μ9 e9
    replace e9 := e9.trans (zm_wI (Z := Z20) (ν := ν) hZ21 (show ((0 : Nat) : Int) = 0 from rfl) (show ((0 : Nat) : Int) = 0 from rfl) (show ((1 : Nat) : Int) = 1 from rfl) (show (-1 : Int32) = i3 (-1) from rfl))
    subst e9
    refine wz_i1 (Eq.trans (i3L (i3D (zm_rd (Z := Z) (ν := ν) (k := 11) (rfl : ((a0b : Nat) : Int) = a0b) (show ((0 : Nat) : Int) = 0 from rfl) (show ((13 : Nat) : Int) = 13 from rfl)) (show (24 : Int32) = i3 24 from rfl) (by omega) (by omega) (by omega) (by omega)) (show (28 : Int32) = i3 28 from rfl) (by omega) (by omega) (by omega) (by omega)) (decide_eq_true (by omega))) ?_
    obtain ⟨Z22, hZ22, c9, hZ22I, kZ22, gZ22⟩ := zH_cpe (ν := ν) hZ21I (rfl : ((a0b : Nat) : Int) = a0b) (zn_add (n := 12) (show ((0 : Nat) : Int) = 0 from rfl)) (by omega)
    have fZ22 : zC [12, 13, 14, 40, 41, 42, 43, 44, 45, 46, 47, 48, 49, 50, 51, 52, 53, 54, 1099, 1100, 1101, 1102, 1103, 1104, 1105, 1106, 1107, 1108, 1109, 1110, 1111, 1112, 1113, 1114, 1115, 1116] Z21 Z22 := zC_k kZ22 (by decide) (by decide)
    have aZ22 : ∀ {k : Nat} {i j : Int}, zhk k i j = true → Z22 k (12 + 0) i j = Z21 k a0b i j := fun hk => zcp_at hZ22 hk
    have hZ22K : zC [12, 13, 14, 40, 41, 42, 43, 44, 45, 46, 47, 48, 49, 50, 51, 52, 53, 54, 69, 1099, 1100, 1101, 1102, 1103, 1104, 1105, 1106, 1107, 1108, 1109, 1110, 1111, 1112, 1113, 1114, 1115, 1116] Z Z22 := zC_t hZ21K fZ22 (by decide)
    have jZ22 : zU [(12 + 0)] Z21 Z22 := zU_cp hZ22
    have hZ22U : zU [(12 + 0), (12 + 1), (12 + 2)] Z Z22 := zU_t hZ21U jZ22 (zU_b1 (List.Mem.head _) zU_b0)
    replace hP := zl_e hP hZ22
    refine wz_cV_of c9 ?_
    clear c9
    have r23 := zH_k hZ22I 11 a0b 0 13 (lo := 0) (hi := 671) (by decide) rfl
    have q24 := (gZ22 11 a0b 0 13 (by omega)).trans ((zu_ne (k' := 11) (b' := a0b) (i' := 0) (j' := 13) hZ21 (fun q => absurd q.1 (by decide))).trans (zu_ne (k' := 11) (b' := a0b) (i' := 0) (j' := 13) hZ20 (fun q => absurd q.1 (by decide))))
    have r27 := zH_k hZ22I 11 (12 + 0) 0 13 (lo := 0) (hi := 671) (by decide) rfl
    have q28 := (aZ22 (k := 11) (i := 0) (j := 13) (by decide)).trans ((zu_ne (k' := 11) (b' := a0b) (i' := 0) (j' := 13) hZ21 (fun q => absurd q.1 (by decide))).trans (zu_ne (k' := 11) (b' := a0b) (i' := 0) (j' := 13) hZ20 (fun q => absurd q.1 (by decide))))
    refine sl_138_1 (ν := ν) hZ22I (zbh (c := 0) (k := 0) hM (Nat.le_of_ble_eq_true rfl)) zC_r a0b (x1 := a1) (by omega) (x4 := (Z 51 a0b a1 0)) (by omega) (x5 := ((Z 11 a0b 0 13) / 24)) (by omega) (x6 := (Z22 11 a0b 0 13)) (by omega) zU_r (by omega) (by omega) (zconso rfl (zconso (zvo (rfl : i3 a1 = i3 a1)) (zconso rfl (zconso rfl (zconso (zvo (zm_rd (Z := Z) (ν := ν) (k := 51) (rfl : ((a0b : Nat) : Int) = a0b) (i3I (y := a1) (rfl : i3 a1 = i3 a1) (by omega) (by omega) (by omega)) (show ((0 : Nat) : Int) = 0 from rfl))) (zconso (zvo (i3D (zm_rd (Z := Z) (ν := ν) (k := 11) (rfl : ((a0b : Nat) : Int) = a0b) (show ((0 : Nat) : Int) = 0 from rfl) (show ((13 : Nat) : Int) = 13 from rfl)) (show (24 : Int32) = i3 24 from rfl) (by omega) (by omega) (by omega) (by omega))) (zconso (zvo (zm_rd (Z := Z22) (ν := ν) (k := 11) (rfl : ((a0b : Nat) : Int) = a0b) (show ((0 : Nat) : Int) = 0 from rfl) (show ((13 : Nat) : Int) = 13 from rfl))) (zconso rfl (zconso rfl (zconso rfl (zconso rfl (zconso rfl rfl)))))))))))) rfl ?_
    intro L29 Z26 y25 hL29 hZ26I kZ26 jZ26 gy25 gL29_0 gL29_1 q9
    replace hP := zl_e2 hP (Eq.symm q9)
    clear q9
    have hZ26U : zU [(12 + 0), (12 + 1), (12 + 2)] Z Z26 := zU_t hZ22U jZ26 (zU_b1 (List.Mem.head _) zU_b0)
    have hZ26K : zC [12, 13, 14, 40, 41, 42, 43, 44, 45, 46, 47, 48, 49, 50, 51, 52, 53, 54, 69, 1099, 1100, 1101, 1102, 1103, 1104, 1105, 1106, 1107, 1108, 1109, 1110, 1111, 1112, 1113, 1114, 1115, 1116] Z Z26 := zC_t hZ22K kZ26 (by decide)
    have r30 := zH_k hZ26I 11 (12 + 0) 0 13 (lo := 0) (hi := 671) (by decide) rfl
    refine fc_138_8 _ (i3 a1) _ _ _ _ hL29 ?_
    refine sl_138_6 (ν := ν) (zb0 hZ26I) (zbh (c := 0) (k := 229320) hM (Nat.le_of_ble_eq_true rfl)) (xM9 := 0) zC_r a0b (x1 := a1) (by omega) (x6 := 1) (by omega) zU_r (zLt_c (zLt_cp (zLt_o (zLt_o hLta0b hZ20 ⟨by decide, .inl (by decide)⟩) hZ21 ⟨by decide, .inl (by decide)⟩) hZ22) kZ26 rfl) (zLt_c (zLt_n (zLt_o (zLt_o hLt_12___1_ hZ20 ⟨by decide, .inl (by decide)⟩) hZ21 ⟨by decide, .inl (by decide)⟩) jZ22 (by simp <;> omega)) kZ26 rfl) (Nat.le_of_ble_eq_true rfl) (by omega) (zconso rfl (zconso (zvo (rfl : i3 a1 = i3 a1)) (zconso rfl (zconso rfl (zconso rfl (zconso rfl (zconso (zvo (show (1 : Int32) = i3 1 from rfl)) (zconso rfl (zconso rfl (zconso rfl (zconso rfl (zconso rfl rfl)))))))))))) rfl ?_
    intro L33 Z32 y31 hL33 hZ32I kZ32 jZ32 tZ32__12___0_ tZ32__12___1_ gy31 gL33_0 q9
    replace hP := zl_e2 hP (Eq.symm q9)
    clear q9
    have hZ32U : zU [(12 + 0), (12 + 1), (12 + 2)] Z Z32 := zU_t hZ26U jZ32 (zU_b1 (List.Mem.tail _ (List.Mem.head _)) (zU_b1 (List.Mem.tail _ (List.Mem.tail _ (List.Mem.head _))) zU_b0))
    have hZ32K : zC [12, 13, 14, 40, 41, 42, 43, 44, 45, 46, 47, 48, 49, 50, 51, 52, 53, 54, 69, 1099, 1100, 1101, 1102, 1103, 1104, 1105, 1106, 1107, 1108, 1109, 1110, 1111, 1112, 1113, 1114, 1115, 1116] Z Z32 := zC_t hZ26K kZ32 (by decide)
    have r34 := zH_k hZ32I 11 (12 + 0) 0 13 (lo := 0) (hi := 671) (by decide) rfl
    refine fc_138_7  _ _ _ _ hL33 ?_
    exact zlV hP ⟨hZ32I, hZ32K, hZ32U, (zLt_n (zLt_c (zLt_n (zLt_o (zLt_o hLta0b hZ20 ⟨by decide, .inl (by decide)⟩) hZ21 ⟨by decide, .inl (by decide)⟩) jZ22 (by simp <;> omega)) kZ26 rfl) jZ32 (by simp <;> omega)), tZ32__12___1_⟩
/- yX11_worst -/
def zx_255 (Z : qz_Z) (a1 : Int) (a2 : Int) : qz_Z × Int × Int := (if 0 ≤ a1 ∧ a1 < (Z 11 0 0 9) then (if 0 ≤ a2 ∧ a2 ≤ 1 then (zlet (zf_138 Z 0 a1) (fun Z4 => (Z4, (Z4 69 0 0 a2), 0))) else (Z, 0, 13)) else (Z, 0, 24))
theorem sx_255 {M : Nat} {Z : qz_Z} {ν : qz_N} (hZ : zH ((none, M) : zSM) Z) (hM : ((none, M) : zSM).2 + 229320 ≤ 1000000000) {a1 : Int} (ga1 : -2147483648 ≤ a1 ∧ a1 ≤ 2147483647) {a2 : Int} (ga2 : -2147483648 ≤ a2 ∧ a2 ≤ 2147483647) (hLt0 : zLt 0 Z) (hLt13 : zLt (12 + 1) Z) : ∃ (Z1 : qz_Z) (ν1 : qz_N) (v E : Int), (Z1, v, E) = zx_255 Z a1 a2 ∧ qf_255 [.inr (.inr (some (0, 0, 0))), .inl (i3 a1), .inl (i3 a2)] (zm Z ν) = some (zm Z1 ν1, zoX v E) ∧ (fun Z1 ν1 => zH (zb ((none, M) : zSM) 229320) Z1 ∧ zC [12, 13, 14, 40, 41, 42, 43, 44, 45, 46, 47, 48, 49, 50, 51, 52, 53, 54, 69, 1099, 1100, 1101, 1102, 1103, 1104, 1105, 1106, 1107, 1108, 1109, 1110, 1111, 1112, 1113, 1114, 1115, 1116] Z Z1 ∧ zU [(12 + 0), (12 + 1), (12 + 2)] Z Z1 ∧ zG 1 6 ν ν1) Z1 ν1 := by
  obtain ⟨P, hP⟩ := zx (zx_255 Z a1 a2)
  refine zc_G (Q := fun Z1 ν1 => zH (zb ((none, M) : zSM) 229320) Z1 ∧ zC [12, 13, 14, 40, 41, 42, 43, 44, 45, 46, 47, 48, 49, 50, 51, 52, 53, 54, 69, 1099, 1100, 1101, 1102, 1103, 1104, 1105, 1106, 1107, 1108, 1109, 1110, 1111, 1112, 1113, 1114, 1115, 1116] Z Z1 ∧ zU [(12 + 0), (12 + 1), (12 + 2)] Z Z1 ∧ zG 1 6 ν ν1) hP (fw_255 (i3 a1) (i3 a2) _ _ ?_)
  replace hP : zE P (zx_255 Z a1 a2) := hP
  unfold zx_255 at hP
  have r1 := zH_k hZ 11 0 0 9 (lo := 0) (hi := 2) (by decide) rfl
  refine wz_thing (rfl : i3 a1 = i3 a1) (zm_rd (Z := Z) (ν := ν) (k := 11) (show ((0 : Nat) : Int) = 0 from rfl) (show ((0 : Nat) : Int) = 0 from rfl) (show ((9 : Nat) : Int) = 9 from rfl)) (by omega) (by omega) (by omega) (by omega) (fun h2 => ?_) (fun h2 => ?_)
  · replace hP := zE_p hP h2
    refine wz_inR (rfl : i3 a2 = i3 a2) (show (0 : Int32) = i3 0 from rfl) (show (1 : Int32) = i3 1 from rfl) (by omega) (by omega) (by omega) (by omega) (by omega) (by omega) (fun h3 => ?_) (fun h3 => ?_)
    · replace hP := zE_p hP h3
      obtain ⟨Z4, hZ4, c9, hZ4I, kZ4, jZ4, tZ4_a0b, tZ4__12___1_⟩ := sp_138 (ν := ν) hZ 0 (a1 := a1) (by omega) (show 0 = 0 from by omega) hLt0 hLt13 (zbh (c := 0) (k := 229320) hM (Nat.le_of_ble_eq_true rfl))
      have hZ4U : zU [(12 + 0), (12 + 1), (12 + 2)] Z Z4 := zU_t zU_r jZ4 (zU_b1 (List.Mem.head _) (zU_b1 (List.Mem.tail _ (List.Mem.head _)) (zU_b1 (List.Mem.tail _ (List.Mem.tail _ (List.Mem.head _))) zU_b0)))
      have hZ4K : zC [12, 13, 14, 40, 41, 42, 43, 44, 45, 46, 47, 48, 49, 50, 51, 52, 53, 54, 69, 1099, 1100, 1101, 1102, 1103, 1104, 1105, 1106, 1107, 1108, 1109, 1110, 1111, 1112, 1113, 1114, 1115, 1116] Z Z4 := zC_t zC_r kZ4 (by decide)
      replace hP := zl_e hP hZ4
      refine wz_cV_of (zas (zcons rfl (zcons (zvi (rfl : i3 a1 = i3 a1)) (zcons rfl (zcons rfl rfl)))) c9) ?_
      clear c9
      refine wz_i0 (i3O (n := 24) (rfl : i3 a2 = i3 a2) (by omega) (by omega) (by omega)) ?_
      have r5 := zH_f hZ4I 69 0 0 a2
      exact zlG hP (zm_rd (Z := Z4) (ν := ν) (k := 69) (show ((0 : Nat) : Int) = 0 from rfl) (show ((0 : Nat) : Int) = 0 from rfl) (i3I (y := a2) (rfl : i3 a2 = i3 a2) (by omega) (by omega) (by omega))) ⟨hZ4I, hZ4K, hZ4U, zG_w zG_r (Nat.le_of_ble_eq_true rfl) (Nat.le_of_ble_eq_true rfl)⟩
    · replace hP := zE_n hP h3
      exact zlGe (E := 12) hP ⟨(zbw (a := 0) (c := 229320) hZ (Nat.le_of_ble_eq_true rfl)), zC_r, zU_r, zG_w (zG_k rfl) (Nat.le_of_ble_eq_true rfl) (Nat.le_of_ble_eq_true rfl)⟩
  · replace hP := zE_n hP h2
    exact zlGe (E := 23) hP ⟨(zbw (a := 0) (c := 229320) hZ (Nat.le_of_ble_eq_true rfl)), zC_r, zU_r, zG_w (zG_k rfl) (Nat.le_of_ble_eq_true rfl) (Nat.le_of_ble_eq_true rfl)⟩
