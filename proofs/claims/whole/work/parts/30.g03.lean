/- yX10_findWarmth -/
def zf_168 (Z : qz_Z) (a0b : Int) (a0ij : Int) (a1 : Int) : qz_Z := (if a1 ≤ (Z 43 a0b a0ij 5) then (if ((Z 43 a0b a0ij 5) - ((Z 43 a0b a0ij 2) + (Z 43 a0b a0ij 7))) ≤ a1 then (if (Z 43 a0b a0ij 3) ≤ a1 then (if (a1 - (Z 43 a0b a0ij 1)) ≤ (Z 43 a0b a0ij 3) then (if (Z 43 a0b a0ij 3) = a1 then (zlet (zu Z 43 a0b a0ij 5 (Z 43 a0b a0ij 3)) (fun Z11 => (zlet (zu Z11 43 a0b a0ij 7 0) (fun Z12 => Z12)))) else (zlet (zu Z 43 a0b a0ij 8 (w3 ((Z 43 a0b a0ij 8) + 1))) (fun Z15 => (zlet (zu Z15 43 a0b a0ij 9 (w3 ((Z15 43 a0b a0ij 9) + 1))) (fun Z18 => (zlet (zu Z18 43 a0b a0ij 5 (Z 43 a0b a0ij 3)) (fun Z19 => (zlet (zu Z19 43 a0b a0ij 7 0) (fun Z20 => Z20))))))))) else (if (a1 - (Z 43 a0b a0ij 1)) = a1 then (zlet (zu Z 43 a0b a0ij 5 (a1 - (Z 43 a0b a0ij 1))) (fun Z22 => (zlet (zu Z22 43 a0b a0ij 7 0) (fun Z23 => Z23)))) else (zlet (zu Z 43 a0b a0ij 8 (w3 ((Z 43 a0b a0ij 8) + 1))) (fun Z26 => (zlet (zu Z26 43 a0b a0ij 9 (w3 ((Z26 43 a0b a0ij 9) + 1))) (fun Z29 => (zlet (zu Z29 43 a0b a0ij 5 (a1 - (Z 43 a0b a0ij 1))) (fun Z30 => (zlet (zu Z30 43 a0b a0ij 7 0) (fun Z31 => Z31)))))))))) else (if (Z 43 a0b a0ij 3) ≤ (a1 + (Z 43 a0b a0ij 1)) then (if (Z 43 a0b a0ij 3) = a1 then (zlet (zu Z 43 a0b a0ij 5 (Z 43 a0b a0ij 3)) (fun Z35 => (zlet (zu Z35 43 a0b a0ij 7 0) (fun Z36 => Z36)))) else (zlet (zu Z 43 a0b a0ij 8 (w3 ((Z 43 a0b a0ij 8) + 1))) (fun Z39 => (zlet (zu Z39 43 a0b a0ij 9 (w3 ((Z39 43 a0b a0ij 9) + 1))) (fun Z42 => (zlet (zu Z42 43 a0b a0ij 5 (Z 43 a0b a0ij 3)) (fun Z43 => (zlet (zu Z43 43 a0b a0ij 7 0) (fun Z44 => Z44))))))))) else (if (a1 + (Z 43 a0b a0ij 1)) = a1 then (zlet (zu Z 43 a0b a0ij 5 (a1 + (Z 43 a0b a0ij 1))) (fun Z46 => (zlet (zu Z46 43 a0b a0ij 7 0) (fun Z47 => Z47)))) else (zlet (zu Z 43 a0b a0ij 8 (w3 ((Z 43 a0b a0ij 8) + 1))) (fun Z50 => (zlet (zu Z50 43 a0b a0ij 9 (w3 ((Z50 43 a0b a0ij 9) + 1))) (fun Z53 => (zlet (zu Z53 43 a0b a0ij 5 (a1 + (Z 43 a0b a0ij 1))) (fun Z54 => (zlet (zu Z54 43 a0b a0ij 7 0) (fun Z55 => Z55))))))))))) else (if (Z 43 a0b a0ij 3) ≤ ((Z 43 a0b a0ij 5) - ((Z 43 a0b a0ij 2) + (Z 43 a0b a0ij 7))) then (if (((Z 43 a0b a0ij 5) - ((Z 43 a0b a0ij 2) + (Z 43 a0b a0ij 7))) - (Z 43 a0b a0ij 1)) ≤ (Z 43 a0b a0ij 3) then (if (Z 43 a0b a0ij 3) = ((Z 43 a0b a0ij 5) - ((Z 43 a0b a0ij 2) + (Z 43 a0b a0ij 7))) then (zlet (zu Z 43 a0b a0ij 5 (Z 43 a0b a0ij 3)) (fun Z61 => (zlet (zu Z61 43 a0b a0ij 7 0) (fun Z62 => Z62)))) else (zlet (zu Z 43 a0b a0ij 8 (w3 ((Z 43 a0b a0ij 8) + 1))) (fun Z65 => (zlet (zu Z65 43 a0b a0ij 9 (w3 ((Z65 43 a0b a0ij 9) + 1))) (fun Z68 => (zlet (zu Z68 43 a0b a0ij 5 (Z 43 a0b a0ij 3)) (fun Z69 => (zlet (zu Z69 43 a0b a0ij 7 0) (fun Z70 => Z70))))))))) else (if (((Z 43 a0b a0ij 5) - ((Z 43 a0b a0ij 2) + (Z 43 a0b a0ij 7))) - (Z 43 a0b a0ij 1)) = ((Z 43 a0b a0ij 5) - ((Z 43 a0b a0ij 2) + (Z 43 a0b a0ij 7))) then (zlet (zu Z 43 a0b a0ij 5 (((Z 43 a0b a0ij 5) - ((Z 43 a0b a0ij 2) + (Z 43 a0b a0ij 7))) - (Z 43 a0b a0ij 1))) (fun Z72 => (zlet (zu Z72 43 a0b a0ij 7 0) (fun Z73 => Z73)))) else (zlet (zu Z 43 a0b a0ij 8 (w3 ((Z 43 a0b a0ij 8) + 1))) (fun Z76 => (zlet (zu Z76 43 a0b a0ij 9 (w3 ((Z76 43 a0b a0ij 9) + 1))) (fun Z79 => (zlet (zu Z79 43 a0b a0ij 5 (((Z 43 a0b a0ij 5) - ((Z 43 a0b a0ij 2) + (Z 43 a0b a0ij 7))) - (Z 43 a0b a0ij 1))) (fun Z80 => (zlet (zu Z80 43 a0b a0ij 7 0) (fun Z81 => Z81)))))))))) else (if (Z 43 a0b a0ij 3) ≤ (((Z 43 a0b a0ij 5) - ((Z 43 a0b a0ij 2) + (Z 43 a0b a0ij 7))) + (Z 43 a0b a0ij 1)) then (if (Z 43 a0b a0ij 3) = ((Z 43 a0b a0ij 5) - ((Z 43 a0b a0ij 2) + (Z 43 a0b a0ij 7))) then (zlet (zu Z 43 a0b a0ij 5 (Z 43 a0b a0ij 3)) (fun Z85 => (zlet (zu Z85 43 a0b a0ij 7 0) (fun Z86 => Z86)))) else (zlet (zu Z 43 a0b a0ij 8 (w3 ((Z 43 a0b a0ij 8) + 1))) (fun Z89 => (zlet (zu Z89 43 a0b a0ij 9 (w3 ((Z89 43 a0b a0ij 9) + 1))) (fun Z92 => (zlet (zu Z92 43 a0b a0ij 5 (Z 43 a0b a0ij 3)) (fun Z93 => (zlet (zu Z93 43 a0b a0ij 7 0) (fun Z94 => Z94))))))))) else (if (((Z 43 a0b a0ij 5) - ((Z 43 a0b a0ij 2) + (Z 43 a0b a0ij 7))) + (Z 43 a0b a0ij 1)) = ((Z 43 a0b a0ij 5) - ((Z 43 a0b a0ij 2) + (Z 43 a0b a0ij 7))) then (zlet (zu Z 43 a0b a0ij 5 (((Z 43 a0b a0ij 5) - ((Z 43 a0b a0ij 2) + (Z 43 a0b a0ij 7))) + (Z 43 a0b a0ij 1))) (fun Z96 => (zlet (zu Z96 43 a0b a0ij 7 0) (fun Z97 => Z97)))) else (zlet (zu Z 43 a0b a0ij 8 (w3 ((Z 43 a0b a0ij 8) + 1))) (fun Z100 => (zlet (zu Z100 43 a0b a0ij 9 (w3 ((Z100 43 a0b a0ij 9) + 1))) (fun Z103 => (zlet (zu Z103 43 a0b a0ij 5 (((Z 43 a0b a0ij 5) - ((Z 43 a0b a0ij 2) + (Z 43 a0b a0ij 7))) + (Z 43 a0b a0ij 1))) (fun Z104 => (zlet (zu Z104 43 a0b a0ij 7 0) (fun Z105 => Z105)))))))))))) else (if a1 ≤ ((Z 43 a0b a0ij 5) + ((Z 43 a0b a0ij 2) + (Z 43 a0b a0ij 7))) then (if (Z 43 a0b a0ij 3) ≤ a1 then (if (a1 - (Z 43 a0b a0ij 1)) ≤ (Z 43 a0b a0ij 3) then (if (Z 43 a0b a0ij 3) = a1 then (zlet (zu Z 43 a0b a0ij 5 (Z 43 a0b a0ij 3)) (fun Z114 => (zlet (zu Z114 43 a0b a0ij 7 0) (fun Z115 => Z115)))) else (zlet (zu Z 43 a0b a0ij 8 (w3 ((Z 43 a0b a0ij 8) + 1))) (fun Z118 => (zlet (zu Z118 43 a0b a0ij 9 (w3 ((Z118 43 a0b a0ij 9) + 1))) (fun Z121 => (zlet (zu Z121 43 a0b a0ij 5 (Z 43 a0b a0ij 3)) (fun Z122 => (zlet (zu Z122 43 a0b a0ij 7 0) (fun Z123 => Z123))))))))) else (if (a1 - (Z 43 a0b a0ij 1)) = a1 then (zlet (zu Z 43 a0b a0ij 5 (a1 - (Z 43 a0b a0ij 1))) (fun Z125 => (zlet (zu Z125 43 a0b a0ij 7 0) (fun Z126 => Z126)))) else (zlet (zu Z 43 a0b a0ij 8 (w3 ((Z 43 a0b a0ij 8) + 1))) (fun Z129 => (zlet (zu Z129 43 a0b a0ij 9 (w3 ((Z129 43 a0b a0ij 9) + 1))) (fun Z132 => (zlet (zu Z132 43 a0b a0ij 5 (a1 - (Z 43 a0b a0ij 1))) (fun Z133 => (zlet (zu Z133 43 a0b a0ij 7 0) (fun Z134 => Z134)))))))))) else (if (Z 43 a0b a0ij 3) ≤ (a1 + (Z 43 a0b a0ij 1)) then (if (Z 43 a0b a0ij 3) = a1 then (zlet (zu Z 43 a0b a0ij 5 (Z 43 a0b a0ij 3)) (fun Z138 => (zlet (zu Z138 43 a0b a0ij 7 0) (fun Z139 => Z139)))) else (zlet (zu Z 43 a0b a0ij 8 (w3 ((Z 43 a0b a0ij 8) + 1))) (fun Z142 => (zlet (zu Z142 43 a0b a0ij 9 (w3 ((Z142 43 a0b a0ij 9) + 1))) (fun Z145 => (zlet (zu Z145 43 a0b a0ij 5 (Z 43 a0b a0ij 3)) (fun Z146 => (zlet (zu Z146 43 a0b a0ij 7 0) (fun Z147 => Z147))))))))) else (if (a1 + (Z 43 a0b a0ij 1)) = a1 then (zlet (zu Z 43 a0b a0ij 5 (a1 + (Z 43 a0b a0ij 1))) (fun Z149 => (zlet (zu Z149 43 a0b a0ij 7 0) (fun Z150 => Z150)))) else (zlet (zu Z 43 a0b a0ij 8 (w3 ((Z 43 a0b a0ij 8) + 1))) (fun Z153 => (zlet (zu Z153 43 a0b a0ij 9 (w3 ((Z153 43 a0b a0ij 9) + 1))) (fun Z156 => (zlet (zu Z156 43 a0b a0ij 5 (a1 + (Z 43 a0b a0ij 1))) (fun Z157 => (zlet (zu Z157 43 a0b a0ij 7 0) (fun Z158 => Z158))))))))))) else (if (Z 43 a0b a0ij 3) ≤ ((Z 43 a0b a0ij 5) + ((Z 43 a0b a0ij 2) + (Z 43 a0b a0ij 7))) then (if (((Z 43 a0b a0ij 5) + ((Z 43 a0b a0ij 2) + (Z 43 a0b a0ij 7))) - (Z 43 a0b a0ij 1)) ≤ (Z 43 a0b a0ij 3) then (if (Z 43 a0b a0ij 3) = ((Z 43 a0b a0ij 5) + ((Z 43 a0b a0ij 2) + (Z 43 a0b a0ij 7))) then (zlet (zu Z 43 a0b a0ij 5 (Z 43 a0b a0ij 3)) (fun Z164 => (zlet (zu Z164 43 a0b a0ij 7 0) (fun Z165 => Z165)))) else (zlet (zu Z 43 a0b a0ij 8 (w3 ((Z 43 a0b a0ij 8) + 1))) (fun Z168 => (zlet (zu Z168 43 a0b a0ij 9 (w3 ((Z168 43 a0b a0ij 9) + 1))) (fun Z171 => (zlet (zu Z171 43 a0b a0ij 5 (Z 43 a0b a0ij 3)) (fun Z172 => (zlet (zu Z172 43 a0b a0ij 7 0) (fun Z173 => Z173))))))))) else (if (((Z 43 a0b a0ij 5) + ((Z 43 a0b a0ij 2) + (Z 43 a0b a0ij 7))) - (Z 43 a0b a0ij 1)) = ((Z 43 a0b a0ij 5) + ((Z 43 a0b a0ij 2) + (Z 43 a0b a0ij 7))) then (zlet (zu Z 43 a0b a0ij 5 (((Z 43 a0b a0ij 5) + ((Z 43 a0b a0ij 2) + (Z 43 a0b a0ij 7))) - (Z 43 a0b a0ij 1))) (fun Z175 => (zlet (zu Z175 43 a0b a0ij 7 0) (fun Z176 => Z176)))) else (zlet (zu Z 43 a0b a0ij 8 (w3 ((Z 43 a0b a0ij 8) + 1))) (fun Z179 => (zlet (zu Z179 43 a0b a0ij 9 (w3 ((Z179 43 a0b a0ij 9) + 1))) (fun Z182 => (zlet (zu Z182 43 a0b a0ij 5 (((Z 43 a0b a0ij 5) + ((Z 43 a0b a0ij 2) + (Z 43 a0b a0ij 7))) - (Z 43 a0b a0ij 1))) (fun Z183 => (zlet (zu Z183 43 a0b a0ij 7 0) (fun Z184 => Z184)))))))))) else (if (Z 43 a0b a0ij 3) ≤ (((Z 43 a0b a0ij 5) + ((Z 43 a0b a0ij 2) + (Z 43 a0b a0ij 7))) + (Z 43 a0b a0ij 1)) then (if (Z 43 a0b a0ij 3) = ((Z 43 a0b a0ij 5) + ((Z 43 a0b a0ij 2) + (Z 43 a0b a0ij 7))) then (zlet (zu Z 43 a0b a0ij 5 (Z 43 a0b a0ij 3)) (fun Z188 => (zlet (zu Z188 43 a0b a0ij 7 0) (fun Z189 => Z189)))) else (zlet (zu Z 43 a0b a0ij 8 (w3 ((Z 43 a0b a0ij 8) + 1))) (fun Z192 => (zlet (zu Z192 43 a0b a0ij 9 (w3 ((Z192 43 a0b a0ij 9) + 1))) (fun Z195 => (zlet (zu Z195 43 a0b a0ij 5 (Z 43 a0b a0ij 3)) (fun Z196 => (zlet (zu Z196 43 a0b a0ij 7 0) (fun Z197 => Z197))))))))) else (if (((Z 43 a0b a0ij 5) + ((Z 43 a0b a0ij 2) + (Z 43 a0b a0ij 7))) + (Z 43 a0b a0ij 1)) = ((Z 43 a0b a0ij 5) + ((Z 43 a0b a0ij 2) + (Z 43 a0b a0ij 7))) then (zlet (zu Z 43 a0b a0ij 5 (((Z 43 a0b a0ij 5) + ((Z 43 a0b a0ij 2) + (Z 43 a0b a0ij 7))) + (Z 43 a0b a0ij 1))) (fun Z199 => (zlet (zu Z199 43 a0b a0ij 7 0) (fun Z200 => Z200)))) else (zlet (zu Z 43 a0b a0ij 8 (w3 ((Z 43 a0b a0ij 8) + 1))) (fun Z203 => (zlet (zu Z203 43 a0b a0ij 9 (w3 ((Z203 43 a0b a0ij 9) + 1))) (fun Z206 => (zlet (zu Z206 43 a0b a0ij 5 (((Z 43 a0b a0ij 5) + ((Z 43 a0b a0ij 2) + (Z 43 a0b a0ij 7))) + (Z 43 a0b a0ij 1))) (fun Z207 => (zlet (zu Z207 43 a0b a0ij 7 0) (fun Z208 => Z208)))))))))))))
theorem sp_168 {s : zSM} {Z : qz_Z} {ν : qz_N} (hZ : zH s Z) (a0b : Nat) (a0i : Nat) {a0ij : Int} (ea0i : (a0i : Int) = a0ij) (ga0i : 0 ≤ a0ij ∧ a0ij ≤ 5) {a1 : Int} (ga1 : 0 ≤ a1 ∧ a1 ≤ 40) (hM : s.2 + 0 ≤ 1000000000) : ∃ P : qz_Z, P = zf_168 Z a0b a0ij a1 ∧ (qf_168 [.inr (.inr (some (43, a0b, a0i))), .inl (i3 a1)] (zm Z ν) = some (zm P ν, .inl none) ∧ zH s P ∧ zC [43] Z P ∧ zU [a0b] Z P) := by
  obtain ⟨P, hP⟩ := zx (zf_168 Z a0b a0ij a1)
  refine zc_V (Q := fun P => zH s P ∧ zC [43] Z P ∧ zU [a0b] Z P) hP (fw_168 a0b a0i (i3 a1) _ _ ?_)
  replace hP : zE P (zf_168 Z a0b a0ij a1) := hP
  unfold zf_168 at hP
  have r1 := zH_k hZ 43 a0b a0ij 5 (lo := 0) (hi := 40) (by decide) rfl
  refine wz_br (i3Le (rfl : i3 a1 = i3 a1) (zm_rd (Z := Z) (ν := ν) (k := 43) (rfl : ((a0b : Nat) : Int) = a0b) ea0i (show ((5 : Nat) : Int) = 5 from rfl)) (by omega) (by omega) (by omega) (by omega)) (fun h2 => ?_) (fun h2 => ?_)
  · replace hP := zE_p hP h2
    have r3 := zH_k hZ 43 a0b a0ij 2 (lo := 0) (hi := 9) (by decide) rfl
    have r4 := zH_d hZ a0b a0ij (zbh (c := 0) (k := 0) hM (Nat.le_of_ble_eq_true rfl))
    refine wz_br (i3Le (i3S (zm_rd (Z := Z) (ν := ν) (k := 43) (rfl : ((a0b : Nat) : Int) = a0b) ea0i (show ((5 : Nat) : Int) = 5 from rfl)) (i3A (zm_rd (Z := Z) (ν := ν) (k := 43) (rfl : ((a0b : Nat) : Int) = a0b) ea0i (show ((2 : Nat) : Int) = 2 from rfl)) (zm_rd (Z := Z) (ν := ν) (k := 43) (rfl : ((a0b : Nat) : Int) = a0b) ea0i (show ((7 : Nat) : Int) = 7 from rfl)))) (rfl : i3 a1 = i3 a1) (by omega) (by omega) (by omega) (by omega)) (fun h5 => ?_) (fun h5 => ?_)
    · replace hP := zE_p hP h5
      have r6 := zH_k hZ 43 a0b a0ij 3 (lo := 0) (hi := 40) (by decide) rfl
      refine wz_br (i3Le (zm_rd (Z := Z) (ν := ν) (k := 43) (rfl : ((a0b : Nat) : Int) = a0b) ea0i (show ((3 : Nat) : Int) = 3 from rfl)) (rfl : i3 a1 = i3 a1) (by omega) (by omega) (by omega) (by omega)) (fun h7 => ?_) (fun h7 => ?_)
      · replace hP := zE_p hP h7
        have r8 := zH_k hZ 43 a0b a0ij 1 (lo := 0) (hi := 9) (by decide) rfl
        refine wz_br (i3Le (i3S (rfl : i3 a1 = i3 a1) (zm_rd (Z := Z) (ν := ν) (k := 43) (rfl : ((a0b : Nat) : Int) = a0b) ea0i (show ((1 : Nat) : Int) = 1 from rfl))) (zm_rd (Z := Z) (ν := ν) (k := 43) (rfl : ((a0b : Nat) : Int) = a0b) ea0i (show ((3 : Nat) : Int) = 3 from rfl)) (by omega) (by omega) (by omega) (by omega)) (fun h9 => ?_) (fun h9 => ?_)
        · replace hP := zE_p hP h9
          refine wz_br (i3E (zm_rd (Z := Z) (ν := ν) (k := 43) (rfl : ((a0b : Nat) : Int) = a0b) ea0i (show ((3 : Nat) : Int) = 3 from rfl)) (rfl : i3 a1 = i3 a1) (by omega) (by omega) (by omega) (by omega)) (fun h10 => ?_) (fun h10 => ?_)
          · replace hP := zE_p hP h10
            obtain ⟨Z11, hZ11⟩ := zx (zu Z 43 a0b a0ij 5 (Z 43 a0b a0ij 3))
            replace hP := zl_e hP hZ11
            have hZ11I := zH_u hZ hZ11 (lo := 0) (hi := 40) (by decide) rfl (by omega) ⟨by decide, by decide⟩ (Or.inl (by decide)) rfl
            have hZ11U : zU [a0b] Z Z11 := zU_u zU_r hZ11 (Or.inr (List.Mem.head _))
            have hZ11K : zC [43] Z Z11 := zC_u zC_r hZ11 (by decide)
            intro μ9 e9
            replace e9 := e9.trans (zm_wI (Z := Z) (ν := ν) hZ11 (rfl : ((a0b : Nat) : Int) = a0b) ea0i (show ((5 : Nat) : Int) = 5 from rfl) (zm_rd (Z := Z) (ν := ν) (k := 43) (rfl : ((a0b : Nat) : Int) = a0b) ea0i (show ((3 : Nat) : Int) = 3 from rfl)))
            subst e9
            obtain ⟨Z12, hZ12⟩ := zx (zu Z11 43 a0b a0ij 7 0)
            replace hP := zl_e hP hZ12
            have hZ12I := zH_0 hZ11I hZ12 (by decide) (Or.inl (by decide))
            have hZ12U : zU [a0b] Z Z12 := zU_u hZ11U hZ12 (Or.inr (List.Mem.head _))
            have hZ12K : zC [43] Z Z12 := zC_u hZ11K hZ12 (by decide)
            intro μ9 e9
            replace e9 := e9.trans (zm_wI (Z := Z11) (ν := ν) hZ12 (rfl : ((a0b : Nat) : Int) = a0b) ea0i (show ((7 : Nat) : Int) = 7 from rfl) (show (0 : Int32) = i3 0 from rfl))
            subst e9
            exact zlV hP ⟨hZ12I, hZ12K, hZ12U⟩
          · replace hP := zE_n hP h10
            have r13 := zH_f hZ 43 a0b a0ij 8
            have r14 := w3_r ((Z 43 a0b a0ij 8) + 1)
            obtain ⟨Z15, hZ15⟩ := zx (zu Z 43 a0b a0ij 8 (w3 ((Z 43 a0b a0ij 8) + 1)))
            replace hP := zl_e hP hZ15
            have hZ15I := zH_u hZ hZ15 (lo := -2147483648) (hi := 2147483647) (by decide) rfl (by omega) ⟨by decide, by decide⟩ (Or.inl (by decide)) rfl
            have hZ15U : zU [a0b] Z Z15 := zU_u zU_r hZ15 (Or.inr (List.Mem.head _))
            have hZ15K : zC [43] Z Z15 := zC_u zC_r hZ15 (by decide)
            intro μ9 e9
            replace e9 := e9.trans (zm_wI (Z := Z) (ν := ν) hZ15 (rfl : ((a0b : Nat) : Int) = a0b) ea0i (show ((8 : Nat) : Int) = 8 from rfl) (i3W (i3A (zm_rd (Z := Z) (ν := ν) (k := 43) (rfl : ((a0b : Nat) : Int) = a0b) ea0i (show ((8 : Nat) : Int) = 8 from rfl)) (show (1 : Int32) = i3 1 from rfl))))
            subst e9
            have r16 := zH_f hZ15I 43 a0b a0ij 9
            have r17 := w3_r ((Z15 43 a0b a0ij 9) + 1)
            obtain ⟨Z18, hZ18⟩ := zx (zu Z15 43 a0b a0ij 9 (w3 ((Z15 43 a0b a0ij 9) + 1)))
            replace hP := zl_e hP hZ18
            have hZ18I := zH_u hZ15I hZ18 (lo := -2147483648) (hi := 2147483647) (by decide) rfl (by omega) ⟨by decide, by decide⟩ (Or.inl (by decide)) rfl
            have hZ18U : zU [a0b] Z Z18 := zU_u hZ15U hZ18 (Or.inr (List.Mem.head _))
            have hZ18K : zC [43] Z Z18 := zC_u hZ15K hZ18 (by decide)
            intro μ9 e9
            replace e9 := e9.trans (zm_wI (Z := Z15) (ν := ν) hZ18 (rfl : ((a0b : Nat) : Int) = a0b) ea0i (show ((9 : Nat) : Int) = 9 from rfl) (i3W (i3A (zm_rd (Z := Z15) (ν := ν) (k := 43) (rfl : ((a0b : Nat) : Int) = a0b) ea0i (show ((9 : Nat) : Int) = 9 from rfl)) (show (1 : Int32) = i3 1 from rfl))))
            subst e9
            obtain ⟨Z19, hZ19⟩ := zx (zu Z18 43 a0b a0ij 5 (Z 43 a0b a0ij 3))
            replace hP := zl_e hP hZ19
            have hZ19I := zH_u hZ18I hZ19 (lo := 0) (hi := 40) (by decide) rfl (by omega) ⟨by decide, by decide⟩ (Or.inl (by decide)) rfl
            have hZ19U : zU [a0b] Z Z19 := zU_u hZ18U hZ19 (Or.inr (List.Mem.head _))
            have hZ19K : zC [43] Z Z19 := zC_u hZ18K hZ19 (by decide)
            intro μ9 e9
            replace e9 := e9.trans (zm_wI (Z := Z18) (ν := ν) hZ19 (rfl : ((a0b : Nat) : Int) = a0b) ea0i (show ((5 : Nat) : Int) = 5 from rfl) (zm_rd (Z := Z) (ν := ν) (k := 43) (rfl : ((a0b : Nat) : Int) = a0b) ea0i (show ((3 : Nat) : Int) = 3 from rfl)))
            subst e9
            obtain ⟨Z20, hZ20⟩ := zx (zu Z19 43 a0b a0ij 7 0)
            replace hP := zl_e hP hZ20
            have hZ20I := zH_0 hZ19I hZ20 (by decide) (Or.inl (by decide))
            have hZ20U : zU [a0b] Z Z20 := zU_u hZ19U hZ20 (Or.inr (List.Mem.head _))
            have hZ20K : zC [43] Z Z20 := zC_u hZ19K hZ20 (by decide)
            intro μ9 e9
            replace e9 := e9.trans (zm_wI (Z := Z19) (ν := ν) hZ20 (rfl : ((a0b : Nat) : Int) = a0b) ea0i (show ((7 : Nat) : Int) = 7 from rfl) (show (0 : Int32) = i3 0 from rfl))
            subst e9
            exact zlV hP ⟨hZ20I, hZ20K, hZ20U⟩
        · replace hP := zE_n hP h9
          refine wz_br (i3E (i3S (rfl : i3 a1 = i3 a1) (zm_rd (Z := Z) (ν := ν) (k := 43) (rfl : ((a0b : Nat) : Int) = a0b) ea0i (show ((1 : Nat) : Int) = 1 from rfl))) (rfl : i3 a1 = i3 a1) (by omega) (by omega) (by omega) (by omega)) (fun h21 => ?_) (fun h21 => ?_)
          · replace hP := zE_p hP h21
            obtain ⟨Z22, hZ22⟩ := zx (zu Z 43 a0b a0ij 5 (a1 - (Z 43 a0b a0ij 1)))
            replace hP := zl_e hP hZ22
            have hZ22I := zH_u hZ hZ22 (lo := 0) (hi := 40) (by decide) rfl (by omega) ⟨by decide, by decide⟩ (Or.inl (by decide)) rfl
            have hZ22U : zU [a0b] Z Z22 := zU_u zU_r hZ22 (Or.inr (List.Mem.head _))
            have hZ22K : zC [43] Z Z22 := zC_u zC_r hZ22 (by decide)
            intro μ9 e9
            replace e9 := e9.trans (zm_wI (Z := Z) (ν := ν) hZ22 (rfl : ((a0b : Nat) : Int) = a0b) ea0i (show ((5 : Nat) : Int) = 5 from rfl) (i3S (rfl : i3 a1 = i3 a1) (zm_rd (Z := Z) (ν := ν) (k := 43) (rfl : ((a0b : Nat) : Int) = a0b) ea0i (show ((1 : Nat) : Int) = 1 from rfl))))
            subst e9
            obtain ⟨Z23, hZ23⟩ := zx (zu Z22 43 a0b a0ij 7 0)
            replace hP := zl_e hP hZ23
            have hZ23I := zH_0 hZ22I hZ23 (by decide) (Or.inl (by decide))
            have hZ23U : zU [a0b] Z Z23 := zU_u hZ22U hZ23 (Or.inr (List.Mem.head _))
            have hZ23K : zC [43] Z Z23 := zC_u hZ22K hZ23 (by decide)
            intro μ9 e9
            replace e9 := e9.trans (zm_wI (Z := Z22) (ν := ν) hZ23 (rfl : ((a0b : Nat) : Int) = a0b) ea0i (show ((7 : Nat) : Int) = 7 from rfl) (show (0 : Int32) = i3 0 from rfl))
            subst e9
            exact zlV hP ⟨hZ23I, hZ23K, hZ23U⟩
          · replace hP := zE_n hP h21
            have r24 := zH_f hZ 43 a0b a0ij 8
            have r25 := w3_r ((Z 43 a0b a0ij 8) + 1)
            obtain ⟨Z26, hZ26⟩ := zx (zu Z 43 a0b a0ij 8 (w3 ((Z 43 a0b a0ij 8) + 1)))
            replace hP := zl_e hP hZ26
            have hZ26I := zH_u hZ hZ26 (lo := -2147483648) (hi := 2147483647) (by decide) rfl (by omega) ⟨by decide, by decide⟩ (Or.inl (by decide)) rfl
            have hZ26U : zU [a0b] Z Z26 := zU_u zU_r hZ26 (Or.inr (List.Mem.head _))
            have hZ26K : zC [43] Z Z26 := zC_u zC_r hZ26 (by decide)
            intro μ9 e9
            replace e9 := e9.trans (zm_wI (Z := Z) (ν := ν) hZ26 (rfl : ((a0b : Nat) : Int) = a0b) ea0i (show ((8 : Nat) : Int) = 8 from rfl) (i3W (i3A (zm_rd (Z := Z) (ν := ν) (k := 43) (rfl : ((a0b : Nat) : Int) = a0b) ea0i (show ((8 : Nat) : Int) = 8 from rfl)) (show (1 : Int32) = i3 1 from rfl))))
            subst e9
            have r27 := zH_f hZ26I 43 a0b a0ij 9
            have r28 := w3_r ((Z26 43 a0b a0ij 9) + 1)
            obtain ⟨Z29, hZ29⟩ := zx (zu Z26 43 a0b a0ij 9 (w3 ((Z26 43 a0b a0ij 9) + 1)))
            replace hP := zl_e hP hZ29
            have hZ29I := zH_u hZ26I hZ29 (lo := -2147483648) (hi := 2147483647) (by decide) rfl (by omega) ⟨by decide, by decide⟩ (Or.inl (by decide)) rfl
            have hZ29U : zU [a0b] Z Z29 := zU_u hZ26U hZ29 (Or.inr (List.Mem.head _))
            have hZ29K : zC [43] Z Z29 := zC_u hZ26K hZ29 (by decide)
            intro μ9 e9
            replace e9 := e9.trans (zm_wI (Z := Z26) (ν := ν) hZ29 (rfl : ((a0b : Nat) : Int) = a0b) ea0i (show ((9 : Nat) : Int) = 9 from rfl) (i3W (i3A (zm_rd (Z := Z26) (ν := ν) (k := 43) (rfl : ((a0b : Nat) : Int) = a0b) ea0i (show ((9 : Nat) : Int) = 9 from rfl)) (show (1 : Int32) = i3 1 from rfl))))
            subst e9
            obtain ⟨Z30, hZ30⟩ := zx (zu Z29 43 a0b a0ij 5 (a1 - (Z 43 a0b a0ij 1)))
            replace hP := zl_e hP hZ30
            have hZ30I := zH_u hZ29I hZ30 (lo := 0) (hi := 40) (by decide) rfl (by omega) ⟨by decide, by decide⟩ (Or.inl (by decide)) rfl
            have hZ30U : zU [a0b] Z Z30 := zU_u hZ29U hZ30 (Or.inr (List.Mem.head _))
            have hZ30K : zC [43] Z Z30 := zC_u hZ29K hZ30 (by decide)
            intro μ9 e9
            replace e9 := e9.trans (zm_wI (Z := Z29) (ν := ν) hZ30 (rfl : ((a0b : Nat) : Int) = a0b) ea0i (show ((5 : Nat) : Int) = 5 from rfl) (i3S (rfl : i3 a1 = i3 a1) (zm_rd (Z := Z) (ν := ν) (k := 43) (rfl : ((a0b : Nat) : Int) = a0b) ea0i (show ((1 : Nat) : Int) = 1 from rfl))))
            subst e9
            obtain ⟨Z31, hZ31⟩ := zx (zu Z30 43 a0b a0ij 7 0)
            replace hP := zl_e hP hZ31
            have hZ31I := zH_0 hZ30I hZ31 (by decide) (Or.inl (by decide))
            have hZ31U : zU [a0b] Z Z31 := zU_u hZ30U hZ31 (Or.inr (List.Mem.head _))
            have hZ31K : zC [43] Z Z31 := zC_u hZ30K hZ31 (by decide)
            intro μ9 e9
            replace e9 := e9.trans (zm_wI (Z := Z30) (ν := ν) hZ31 (rfl : ((a0b : Nat) : Int) = a0b) ea0i (show ((7 : Nat) : Int) = 7 from rfl) (show (0 : Int32) = i3 0 from rfl))
            subst e9
            exact zlV hP ⟨hZ31I, hZ31K, hZ31U⟩
      · replace hP := zE_n hP h7
        have r32 := zH_k hZ 43 a0b a0ij 1 (lo := 0) (hi := 9) (by decide) rfl
        refine wz_br (i3Le (zm_rd (Z := Z) (ν := ν) (k := 43) (rfl : ((a0b : Nat) : Int) = a0b) ea0i (show ((3 : Nat) : Int) = 3 from rfl)) (i3A (rfl : i3 a1 = i3 a1) (zm_rd (Z := Z) (ν := ν) (k := 43) (rfl : ((a0b : Nat) : Int) = a0b) ea0i (show ((1 : Nat) : Int) = 1 from rfl))) (by omega) (by omega) (by omega) (by omega)) (fun h33 => ?_) (fun h33 => ?_)
        · replace hP := zE_p hP h33
          refine wz_br (i3E (zm_rd (Z := Z) (ν := ν) (k := 43) (rfl : ((a0b : Nat) : Int) = a0b) ea0i (show ((3 : Nat) : Int) = 3 from rfl)) (rfl : i3 a1 = i3 a1) (by omega) (by omega) (by omega) (by omega)) (fun h34 => ?_) (fun h34 => ?_)
          · replace hP := zE_p hP h34
            obtain ⟨Z35, hZ35⟩ := zx (zu Z 43 a0b a0ij 5 (Z 43 a0b a0ij 3))
            replace hP := zl_e hP hZ35
            have hZ35I := zH_u hZ hZ35 (lo := 0) (hi := 40) (by decide) rfl (by omega) ⟨by decide, by decide⟩ (Or.inl (by decide)) rfl
            have hZ35U : zU [a0b] Z Z35 := zU_u zU_r hZ35 (Or.inr (List.Mem.head _))
            have hZ35K : zC [43] Z Z35 := zC_u zC_r hZ35 (by decide)
            intro μ9 e9
            replace e9 := e9.trans (zm_wI (Z := Z) (ν := ν) hZ35 (rfl : ((a0b : Nat) : Int) = a0b) ea0i (show ((5 : Nat) : Int) = 5 from rfl) (zm_rd (Z := Z) (ν := ν) (k := 43) (rfl : ((a0b : Nat) : Int) = a0b) ea0i (show ((3 : Nat) : Int) = 3 from rfl)))
            subst e9
            obtain ⟨Z36, hZ36⟩ := zx (zu Z35 43 a0b a0ij 7 0)
            replace hP := zl_e hP hZ36
            have hZ36I := zH_0 hZ35I hZ36 (by decide) (Or.inl (by decide))
            have hZ36U : zU [a0b] Z Z36 := zU_u hZ35U hZ36 (Or.inr (List.Mem.head _))
            have hZ36K : zC [43] Z Z36 := zC_u hZ35K hZ36 (by decide)
            intro μ9 e9
            replace e9 := e9.trans (zm_wI (Z := Z35) (ν := ν) hZ36 (rfl : ((a0b : Nat) : Int) = a0b) ea0i (show ((7 : Nat) : Int) = 7 from rfl) (show (0 : Int32) = i3 0 from rfl))
            subst e9
            exact zlV hP ⟨hZ36I, hZ36K, hZ36U⟩
          · replace hP := zE_n hP h34
            have r37 := zH_f hZ 43 a0b a0ij 8
            have r38 := w3_r ((Z 43 a0b a0ij 8) + 1)
            obtain ⟨Z39, hZ39⟩ := zx (zu Z 43 a0b a0ij 8 (w3 ((Z 43 a0b a0ij 8) + 1)))
            replace hP := zl_e hP hZ39
            have hZ39I := zH_u hZ hZ39 (lo := -2147483648) (hi := 2147483647) (by decide) rfl (by omega) ⟨by decide, by decide⟩ (Or.inl (by decide)) rfl
            have hZ39U : zU [a0b] Z Z39 := zU_u zU_r hZ39 (Or.inr (List.Mem.head _))
            have hZ39K : zC [43] Z Z39 := zC_u zC_r hZ39 (by decide)
            intro μ9 e9
            replace e9 := e9.trans (zm_wI (Z := Z) (ν := ν) hZ39 (rfl : ((a0b : Nat) : Int) = a0b) ea0i (show ((8 : Nat) : Int) = 8 from rfl) (i3W (i3A (zm_rd (Z := Z) (ν := ν) (k := 43) (rfl : ((a0b : Nat) : Int) = a0b) ea0i (show ((8 : Nat) : Int) = 8 from rfl)) (show (1 : Int32) = i3 1 from rfl))))
            subst e9
            have r40 := zH_f hZ39I 43 a0b a0ij 9
            have r41 := w3_r ((Z39 43 a0b a0ij 9) + 1)
            obtain ⟨Z42, hZ42⟩ := zx (zu Z39 43 a0b a0ij 9 (w3 ((Z39 43 a0b a0ij 9) + 1)))
            replace hP := zl_e hP hZ42
            have hZ42I := zH_u hZ39I hZ42 (lo := -2147483648) (hi := 2147483647) (by decide) rfl (by omega) ⟨by decide, by decide⟩ (Or.inl (by decide)) rfl
            have hZ42U : zU [a0b] Z Z42 := zU_u hZ39U hZ42 (Or.inr (List.Mem.head _))
            have hZ42K : zC [43] Z Z42 := zC_u hZ39K hZ42 (by decide)
            intro μ9 e9
            replace e9 := e9.trans (zm_wI (Z := Z39) (ν := ν) hZ42 (rfl : ((a0b : Nat) : Int) = a0b) ea0i (show ((9 : Nat) : Int) = 9 from rfl) (i3W (i3A (zm_rd (Z := Z39) (ν := ν) (k := 43) (rfl : ((a0b : Nat) : Int) = a0b) ea0i (show ((9 : Nat) : Int) = 9 from rfl)) (show (1 : Int32) = i3 1 from rfl))))
            subst e9
            obtain ⟨Z43, hZ43⟩ := zx (zu Z42 43 a0b a0ij 5 (Z 43 a0b a0ij 3))
            replace hP := zl_e hP hZ43
            have hZ43I := zH_u hZ42I hZ43 (lo := 0) (hi := 40) (by decide) rfl (by omega) ⟨by decide, by decide⟩ (Or.inl (by decide)) rfl
            have hZ43U : zU [a0b] Z Z43 := zU_u hZ42U hZ43 (Or.inr (List.Mem.head _))
            have hZ43K : zC [43] Z Z43 := zC_u hZ42K hZ43 (by decide)
            intro μ9 e9
            replace e9 := e9.trans (zm_wI (Z := Z42) (ν := ν) hZ43 (rfl : ((a0b : Nat) : Int) = a0b) ea0i (show ((5 : Nat) : Int) = 5 from rfl) (zm_rd (Z := Z) (ν := ν) (k := 43) (rfl : ((a0b : Nat) : Int) = a0b) ea0i (show ((3 : Nat) : Int) = 3 from rfl)))
            subst e9
            obtain ⟨Z44, hZ44⟩ := zx (zu Z43 43 a0b a0ij 7 0)
            replace hP := zl_e hP hZ44
            have hZ44I := zH_0 hZ43I hZ44 (by decide) (Or.inl (by decide))
            have hZ44U : zU [a0b] Z Z44 := zU_u hZ43U hZ44 (Or.inr (List.Mem.head _))
            have hZ44K : zC [43] Z Z44 := zC_u hZ43K hZ44 (by decide)
            intro μ9 e9
            replace e9 := e9.trans (zm_wI (Z := Z43) (ν := ν) hZ44 (rfl : ((a0b : Nat) : Int) = a0b) ea0i (show ((7 : Nat) : Int) = 7 from rfl) (show (0 : Int32) = i3 0 from rfl))
            subst e9
            exact zlV hP ⟨hZ44I, hZ44K, hZ44U⟩
        · replace hP := zE_n hP h33
          refine wz_br (i3E (i3A (rfl : i3 a1 = i3 a1) (zm_rd (Z := Z) (ν := ν) (k := 43) (rfl : ((a0b : Nat) : Int) = a0b) ea0i (show ((1 : Nat) : Int) = 1 from rfl))) (rfl : i3 a1 = i3 a1) (by omega) (by omega) (by omega) (by omega)) (fun h45 => ?_) (fun h45 => ?_)
          · replace hP := zE_p hP h45
            obtain ⟨Z46, hZ46⟩ := zx (zu Z 43 a0b a0ij 5 (a1 + (Z 43 a0b a0ij 1)))
            replace hP := zl_e hP hZ46
            have hZ46I := zH_u hZ hZ46 (lo := 0) (hi := 40) (by decide) rfl (by omega) ⟨by decide, by decide⟩ (Or.inl (by decide)) rfl
            have hZ46U : zU [a0b] Z Z46 := zU_u zU_r hZ46 (Or.inr (List.Mem.head _))
            have hZ46K : zC [43] Z Z46 := zC_u zC_r hZ46 (by decide)
            intro μ9 e9
            replace e9 := e9.trans (zm_wI (Z := Z) (ν := ν) hZ46 (rfl : ((a0b : Nat) : Int) = a0b) ea0i (show ((5 : Nat) : Int) = 5 from rfl) (i3A (rfl : i3 a1 = i3 a1) (zm_rd (Z := Z) (ν := ν) (k := 43) (rfl : ((a0b : Nat) : Int) = a0b) ea0i (show ((1 : Nat) : Int) = 1 from rfl))))
            subst e9
            obtain ⟨Z47, hZ47⟩ := zx (zu Z46 43 a0b a0ij 7 0)
            replace hP := zl_e hP hZ47
            have hZ47I := zH_0 hZ46I hZ47 (by decide) (Or.inl (by decide))
            have hZ47U : zU [a0b] Z Z47 := zU_u hZ46U hZ47 (Or.inr (List.Mem.head _))
            have hZ47K : zC [43] Z Z47 := zC_u hZ46K hZ47 (by decide)
            intro μ9 e9
            replace e9 := e9.trans (zm_wI (Z := Z46) (ν := ν) hZ47 (rfl : ((a0b : Nat) : Int) = a0b) ea0i (show ((7 : Nat) : Int) = 7 from rfl) (show (0 : Int32) = i3 0 from rfl))
            subst e9
            exact zlV hP ⟨hZ47I, hZ47K, hZ47U⟩
          · replace hP := zE_n hP h45
            have r48 := zH_f hZ 43 a0b a0ij 8
            have r49 := w3_r ((Z 43 a0b a0ij 8) + 1)
            obtain ⟨Z50, hZ50⟩ := zx (zu Z 43 a0b a0ij 8 (w3 ((Z 43 a0b a0ij 8) + 1)))
            replace hP := zl_e hP hZ50
            have hZ50I := zH_u hZ hZ50 (lo := -2147483648) (hi := 2147483647) (by decide) rfl (by omega) ⟨by decide, by decide⟩ (Or.inl (by decide)) rfl
            have hZ50U : zU [a0b] Z Z50 := zU_u zU_r hZ50 (Or.inr (List.Mem.head _))
            have hZ50K : zC [43] Z Z50 := zC_u zC_r hZ50 (by decide)
            intro μ9 e9
            replace e9 := e9.trans (zm_wI (Z := Z) (ν := ν) hZ50 (rfl : ((a0b : Nat) : Int) = a0b) ea0i (show ((8 : Nat) : Int) = 8 from rfl) (i3W (i3A (zm_rd (Z := Z) (ν := ν) (k := 43) (rfl : ((a0b : Nat) : Int) = a0b) ea0i (show ((8 : Nat) : Int) = 8 from rfl)) (show (1 : Int32) = i3 1 from rfl))))
            subst e9
            have r51 := zH_f hZ50I 43 a0b a0ij 9
            have r52 := w3_r ((Z50 43 a0b a0ij 9) + 1)
            obtain ⟨Z53, hZ53⟩ := zx (zu Z50 43 a0b a0ij 9 (w3 ((Z50 43 a0b a0ij 9) + 1)))
            replace hP := zl_e hP hZ53
            have hZ53I := zH_u hZ50I hZ53 (lo := -2147483648) (hi := 2147483647) (by decide) rfl (by omega) ⟨by decide, by decide⟩ (Or.inl (by decide)) rfl
            have hZ53U : zU [a0b] Z Z53 := zU_u hZ50U hZ53 (Or.inr (List.Mem.head _))
            have hZ53K : zC [43] Z Z53 := zC_u hZ50K hZ53 (by decide)
            intro μ9 e9
            replace e9 := e9.trans (zm_wI (Z := Z50) (ν := ν) hZ53 (rfl : ((a0b : Nat) : Int) = a0b) ea0i (show ((9 : Nat) : Int) = 9 from rfl) (i3W (i3A (zm_rd (Z := Z50) (ν := ν) (k := 43) (rfl : ((a0b : Nat) : Int) = a0b) ea0i (show ((9 : Nat) : Int) = 9 from rfl)) (show (1 : Int32) = i3 1 from rfl))))
            subst e9
            obtain ⟨Z54, hZ54⟩ := zx (zu Z53 43 a0b a0ij 5 (a1 + (Z 43 a0b a0ij 1)))
            replace hP := zl_e hP hZ54
            have hZ54I := zH_u hZ53I hZ54 (lo := 0) (hi := 40) (by decide) rfl (by omega) ⟨by decide, by decide⟩ (Or.inl (by decide)) rfl
            have hZ54U : zU [a0b] Z Z54 := zU_u hZ53U hZ54 (Or.inr (List.Mem.head _))
            have hZ54K : zC [43] Z Z54 := zC_u hZ53K hZ54 (by decide)
            intro μ9 e9
            replace e9 := e9.trans (zm_wI (Z := Z53) (ν := ν) hZ54 (rfl : ((a0b : Nat) : Int) = a0b) ea0i (show ((5 : Nat) : Int) = 5 from rfl) (i3A (rfl : i3 a1 = i3 a1) (zm_rd (Z := Z) (ν := ν) (k := 43) (rfl : ((a0b : Nat) : Int) = a0b) ea0i (show ((1 : Nat) : Int) = 1 from rfl))))
            subst e9
            obtain ⟨Z55, hZ55⟩ := zx (zu Z54 43 a0b a0ij 7 0)
            replace hP := zl_e hP hZ55
            have hZ55I := zH_0 hZ54I hZ55 (by decide) (Or.inl (by decide))
            have hZ55U : zU [a0b] Z Z55 := zU_u hZ54U hZ55 (Or.inr (List.Mem.head _))
            have hZ55K : zC [43] Z Z55 := zC_u hZ54K hZ55 (by decide)
            intro μ9 e9
            replace e9 := e9.trans (zm_wI (Z := Z54) (ν := ν) hZ55 (rfl : ((a0b : Nat) : Int) = a0b) ea0i (show ((7 : Nat) : Int) = 7 from rfl) (show (0 : Int32) = i3 0 from rfl))
            subst e9
            exact zlV hP ⟨hZ55I, hZ55K, hZ55U⟩
    · replace hP := zE_n hP h5
      have r56 := zH_k hZ 43 a0b a0ij 3 (lo := 0) (hi := 40) (by decide) rfl
      refine wz_br (i3Le (zm_rd (Z := Z) (ν := ν) (k := 43) (rfl : ((a0b : Nat) : Int) = a0b) ea0i (show ((3 : Nat) : Int) = 3 from rfl)) (i3S (zm_rd (Z := Z) (ν := ν) (k := 43) (rfl : ((a0b : Nat) : Int) = a0b) ea0i (show ((5 : Nat) : Int) = 5 from rfl)) (i3A (zm_rd (Z := Z) (ν := ν) (k := 43) (rfl : ((a0b : Nat) : Int) = a0b) ea0i (show ((2 : Nat) : Int) = 2 from rfl)) (zm_rd (Z := Z) (ν := ν) (k := 43) (rfl : ((a0b : Nat) : Int) = a0b) ea0i (show ((7 : Nat) : Int) = 7 from rfl)))) (by omega) (by omega) (by omega) (by omega)) (fun h57 => ?_) (fun h57 => ?_)
      · replace hP := zE_p hP h57
        have r58 := zH_k hZ 43 a0b a0ij 1 (lo := 0) (hi := 9) (by decide) rfl
        refine wz_br (i3Le (i3S (i3S (zm_rd (Z := Z) (ν := ν) (k := 43) (rfl : ((a0b : Nat) : Int) = a0b) ea0i (show ((5 : Nat) : Int) = 5 from rfl)) (i3A (zm_rd (Z := Z) (ν := ν) (k := 43) (rfl : ((a0b : Nat) : Int) = a0b) ea0i (show ((2 : Nat) : Int) = 2 from rfl)) (zm_rd (Z := Z) (ν := ν) (k := 43) (rfl : ((a0b : Nat) : Int) = a0b) ea0i (show ((7 : Nat) : Int) = 7 from rfl)))) (zm_rd (Z := Z) (ν := ν) (k := 43) (rfl : ((a0b : Nat) : Int) = a0b) ea0i (show ((1 : Nat) : Int) = 1 from rfl))) (zm_rd (Z := Z) (ν := ν) (k := 43) (rfl : ((a0b : Nat) : Int) = a0b) ea0i (show ((3 : Nat) : Int) = 3 from rfl)) (by omega) (by omega) (by omega) (by omega)) (fun h59 => ?_) (fun h59 => ?_)
        · replace hP := zE_p hP h59
          refine wz_br (i3E (zm_rd (Z := Z) (ν := ν) (k := 43) (rfl : ((a0b : Nat) : Int) = a0b) ea0i (show ((3 : Nat) : Int) = 3 from rfl)) (i3S (zm_rd (Z := Z) (ν := ν) (k := 43) (rfl : ((a0b : Nat) : Int) = a0b) ea0i (show ((5 : Nat) : Int) = 5 from rfl)) (i3A (zm_rd (Z := Z) (ν := ν) (k := 43) (rfl : ((a0b : Nat) : Int) = a0b) ea0i (show ((2 : Nat) : Int) = 2 from rfl)) (zm_rd (Z := Z) (ν := ν) (k := 43) (rfl : ((a0b : Nat) : Int) = a0b) ea0i (show ((7 : Nat) : Int) = 7 from rfl)))) (by omega) (by omega) (by omega) (by omega)) (fun h60 => ?_) (fun h60 => ?_)
          · replace hP := zE_p hP h60
            obtain ⟨Z61, hZ61⟩ := zx (zu Z 43 a0b a0ij 5 (Z 43 a0b a0ij 3))
            replace hP := zl_e hP hZ61
            have hZ61I := zH_u hZ hZ61 (lo := 0) (hi := 40) (by decide) rfl (by omega) ⟨by decide, by decide⟩ (Or.inl (by decide)) rfl
            have hZ61U : zU [a0b] Z Z61 := zU_u zU_r hZ61 (Or.inr (List.Mem.head _))
            have hZ61K : zC [43] Z Z61 := zC_u zC_r hZ61 (by decide)
            intro μ9 e9
            replace e9 := e9.trans (zm_wI (Z := Z) (ν := ν) hZ61 (rfl : ((a0b : Nat) : Int) = a0b) ea0i (show ((5 : Nat) : Int) = 5 from rfl) (zm_rd (Z := Z) (ν := ν) (k := 43) (rfl : ((a0b : Nat) : Int) = a0b) ea0i (show ((3 : Nat) : Int) = 3 from rfl)))
            subst e9
            obtain ⟨Z62, hZ62⟩ := zx (zu Z61 43 a0b a0ij 7 0)
            replace hP := zl_e hP hZ62
            have hZ62I := zH_0 hZ61I hZ62 (by decide) (Or.inl (by decide))
            have hZ62U : zU [a0b] Z Z62 := zU_u hZ61U hZ62 (Or.inr (List.Mem.head _))
            have hZ62K : zC [43] Z Z62 := zC_u hZ61K hZ62 (by decide)
            intro μ9 e9
            replace e9 := e9.trans (zm_wI (Z := Z61) (ν := ν) hZ62 (rfl : ((a0b : Nat) : Int) = a0b) ea0i (show ((7 : Nat) : Int) = 7 from rfl) (show (0 : Int32) = i3 0 from rfl))
            subst e9
            exact zlV hP ⟨hZ62I, hZ62K, hZ62U⟩
          · replace hP := zE_n hP h60
            have r63 := zH_f hZ 43 a0b a0ij 8
            have r64 := w3_r ((Z 43 a0b a0ij 8) + 1)
            obtain ⟨Z65, hZ65⟩ := zx (zu Z 43 a0b a0ij 8 (w3 ((Z 43 a0b a0ij 8) + 1)))
            replace hP := zl_e hP hZ65
            have hZ65I := zH_u hZ hZ65 (lo := -2147483648) (hi := 2147483647) (by decide) rfl (by omega) ⟨by decide, by decide⟩ (Or.inl (by decide)) rfl
            have hZ65U : zU [a0b] Z Z65 := zU_u zU_r hZ65 (Or.inr (List.Mem.head _))
            have hZ65K : zC [43] Z Z65 := zC_u zC_r hZ65 (by decide)
            intro μ9 e9
            replace e9 := e9.trans (zm_wI (Z := Z) (ν := ν) hZ65 (rfl : ((a0b : Nat) : Int) = a0b) ea0i (show ((8 : Nat) : Int) = 8 from rfl) (i3W (i3A (zm_rd (Z := Z) (ν := ν) (k := 43) (rfl : ((a0b : Nat) : Int) = a0b) ea0i (show ((8 : Nat) : Int) = 8 from rfl)) (show (1 : Int32) = i3 1 from rfl))))
            subst e9
            have r66 := zH_f hZ65I 43 a0b a0ij 9
            have r67 := w3_r ((Z65 43 a0b a0ij 9) + 1)
            obtain ⟨Z68, hZ68⟩ := zx (zu Z65 43 a0b a0ij 9 (w3 ((Z65 43 a0b a0ij 9) + 1)))
            replace hP := zl_e hP hZ68
            have hZ68I := zH_u hZ65I hZ68 (lo := -2147483648) (hi := 2147483647) (by decide) rfl (by omega) ⟨by decide, by decide⟩ (Or.inl (by decide)) rfl
            have hZ68U : zU [a0b] Z Z68 := zU_u hZ65U hZ68 (Or.inr (List.Mem.head _))
            have hZ68K : zC [43] Z Z68 := zC_u hZ65K hZ68 (by decide)
            intro μ9 e9
            replace e9 := e9.trans (zm_wI (Z := Z65) (ν := ν) hZ68 (rfl : ((a0b : Nat) : Int) = a0b) ea0i (show ((9 : Nat) : Int) = 9 from rfl) (i3W (i3A (zm_rd (Z := Z65) (ν := ν) (k := 43) (rfl : ((a0b : Nat) : Int) = a0b) ea0i (show ((9 : Nat) : Int) = 9 from rfl)) (show (1 : Int32) = i3 1 from rfl))))
            subst e9
            obtain ⟨Z69, hZ69⟩ := zx (zu Z68 43 a0b a0ij 5 (Z 43 a0b a0ij 3))
            replace hP := zl_e hP hZ69
            have hZ69I := zH_u hZ68I hZ69 (lo := 0) (hi := 40) (by decide) rfl (by omega) ⟨by decide, by decide⟩ (Or.inl (by decide)) rfl
            have hZ69U : zU [a0b] Z Z69 := zU_u hZ68U hZ69 (Or.inr (List.Mem.head _))
            have hZ69K : zC [43] Z Z69 := zC_u hZ68K hZ69 (by decide)
            intro μ9 e9
            replace e9 := e9.trans (zm_wI (Z := Z68) (ν := ν) hZ69 (rfl : ((a0b : Nat) : Int) = a0b) ea0i (show ((5 : Nat) : Int) = 5 from rfl) (zm_rd (Z := Z) (ν := ν) (k := 43) (rfl : ((a0b : Nat) : Int) = a0b) ea0i (show ((3 : Nat) : Int) = 3 from rfl)))
            subst e9
            obtain ⟨Z70, hZ70⟩ := zx (zu Z69 43 a0b a0ij 7 0)
            replace hP := zl_e hP hZ70
            have hZ70I := zH_0 hZ69I hZ70 (by decide) (Or.inl (by decide))
            have hZ70U : zU [a0b] Z Z70 := zU_u hZ69U hZ70 (Or.inr (List.Mem.head _))
            have hZ70K : zC [43] Z Z70 := zC_u hZ69K hZ70 (by decide)
            intro μ9 e9
            replace e9 := e9.trans (zm_wI (Z := Z69) (ν := ν) hZ70 (rfl : ((a0b : Nat) : Int) = a0b) ea0i (show ((7 : Nat) : Int) = 7 from rfl) (show (0 : Int32) = i3 0 from rfl))
            subst e9
            exact zlV hP ⟨hZ70I, hZ70K, hZ70U⟩
        · replace hP := zE_n hP h59
          refine wz_br (i3E (i3S (i3S (zm_rd (Z := Z) (ν := ν) (k := 43) (rfl : ((a0b : Nat) : Int) = a0b) ea0i (show ((5 : Nat) : Int) = 5 from rfl)) (i3A (zm_rd (Z := Z) (ν := ν) (k := 43) (rfl : ((a0b : Nat) : Int) = a0b) ea0i (show ((2 : Nat) : Int) = 2 from rfl)) (zm_rd (Z := Z) (ν := ν) (k := 43) (rfl : ((a0b : Nat) : Int) = a0b) ea0i (show ((7 : Nat) : Int) = 7 from rfl)))) (zm_rd (Z := Z) (ν := ν) (k := 43) (rfl : ((a0b : Nat) : Int) = a0b) ea0i (show ((1 : Nat) : Int) = 1 from rfl))) (i3S (zm_rd (Z := Z) (ν := ν) (k := 43) (rfl : ((a0b : Nat) : Int) = a0b) ea0i (show ((5 : Nat) : Int) = 5 from rfl)) (i3A (zm_rd (Z := Z) (ν := ν) (k := 43) (rfl : ((a0b : Nat) : Int) = a0b) ea0i (show ((2 : Nat) : Int) = 2 from rfl)) (zm_rd (Z := Z) (ν := ν) (k := 43) (rfl : ((a0b : Nat) : Int) = a0b) ea0i (show ((7 : Nat) : Int) = 7 from rfl)))) (by omega) (by omega) (by omega) (by omega)) (fun h71 => ?_) (fun h71 => ?_)
          · replace hP := zE_p hP h71
            obtain ⟨Z72, hZ72⟩ := zx (zu Z 43 a0b a0ij 5 (((Z 43 a0b a0ij 5) - ((Z 43 a0b a0ij 2) + (Z 43 a0b a0ij 7))) - (Z 43 a0b a0ij 1)))
            replace hP := zl_e hP hZ72
            have hZ72I := zH_u hZ hZ72 (lo := 0) (hi := 40) (by decide) rfl (by omega) ⟨by decide, by decide⟩ (Or.inl (by decide)) rfl
            have hZ72U : zU [a0b] Z Z72 := zU_u zU_r hZ72 (Or.inr (List.Mem.head _))
            have hZ72K : zC [43] Z Z72 := zC_u zC_r hZ72 (by decide)
            intro μ9 e9
            replace e9 := e9.trans (zm_wI (Z := Z) (ν := ν) hZ72 (rfl : ((a0b : Nat) : Int) = a0b) ea0i (show ((5 : Nat) : Int) = 5 from rfl) (i3S (i3S (zm_rd (Z := Z) (ν := ν) (k := 43) (rfl : ((a0b : Nat) : Int) = a0b) ea0i (show ((5 : Nat) : Int) = 5 from rfl)) (i3A (zm_rd (Z := Z) (ν := ν) (k := 43) (rfl : ((a0b : Nat) : Int) = a0b) ea0i (show ((2 : Nat) : Int) = 2 from rfl)) (zm_rd (Z := Z) (ν := ν) (k := 43) (rfl : ((a0b : Nat) : Int) = a0b) ea0i (show ((7 : Nat) : Int) = 7 from rfl)))) (zm_rd (Z := Z) (ν := ν) (k := 43) (rfl : ((a0b : Nat) : Int) = a0b) ea0i (show ((1 : Nat) : Int) = 1 from rfl))))
            subst e9
            obtain ⟨Z73, hZ73⟩ := zx (zu Z72 43 a0b a0ij 7 0)
            replace hP := zl_e hP hZ73
            have hZ73I := zH_0 hZ72I hZ73 (by decide) (Or.inl (by decide))
            have hZ73U : zU [a0b] Z Z73 := zU_u hZ72U hZ73 (Or.inr (List.Mem.head _))
            have hZ73K : zC [43] Z Z73 := zC_u hZ72K hZ73 (by decide)
            intro μ9 e9
            replace e9 := e9.trans (zm_wI (Z := Z72) (ν := ν) hZ73 (rfl : ((a0b : Nat) : Int) = a0b) ea0i (show ((7 : Nat) : Int) = 7 from rfl) (show (0 : Int32) = i3 0 from rfl))
            subst e9
            exact zlV hP ⟨hZ73I, hZ73K, hZ73U⟩
          · replace hP := zE_n hP h71
            have r74 := zH_f hZ 43 a0b a0ij 8
            have r75 := w3_r ((Z 43 a0b a0ij 8) + 1)
            obtain ⟨Z76, hZ76⟩ := zx (zu Z 43 a0b a0ij 8 (w3 ((Z 43 a0b a0ij 8) + 1)))
            replace hP := zl_e hP hZ76
            have hZ76I := zH_u hZ hZ76 (lo := -2147483648) (hi := 2147483647) (by decide) rfl (by omega) ⟨by decide, by decide⟩ (Or.inl (by decide)) rfl
            have hZ76U : zU [a0b] Z Z76 := zU_u zU_r hZ76 (Or.inr (List.Mem.head _))
            have hZ76K : zC [43] Z Z76 := zC_u zC_r hZ76 (by decide)
            intro μ9 e9
            replace e9 := e9.trans (zm_wI (Z := Z) (ν := ν) hZ76 (rfl : ((a0b : Nat) : Int) = a0b) ea0i (show ((8 : Nat) : Int) = 8 from rfl) (i3W (i3A (zm_rd (Z := Z) (ν := ν) (k := 43) (rfl : ((a0b : Nat) : Int) = a0b) ea0i (show ((8 : Nat) : Int) = 8 from rfl)) (show (1 : Int32) = i3 1 from rfl))))
            subst e9
            have r77 := zH_f hZ76I 43 a0b a0ij 9
            have r78 := w3_r ((Z76 43 a0b a0ij 9) + 1)
            obtain ⟨Z79, hZ79⟩ := zx (zu Z76 43 a0b a0ij 9 (w3 ((Z76 43 a0b a0ij 9) + 1)))
            replace hP := zl_e hP hZ79
            have hZ79I := zH_u hZ76I hZ79 (lo := -2147483648) (hi := 2147483647) (by decide) rfl (by omega) ⟨by decide, by decide⟩ (Or.inl (by decide)) rfl
            have hZ79U : zU [a0b] Z Z79 := zU_u hZ76U hZ79 (Or.inr (List.Mem.head _))
            have hZ79K : zC [43] Z Z79 := zC_u hZ76K hZ79 (by decide)
            intro μ9 e9
            replace e9 := e9.trans (zm_wI (Z := Z76) (ν := ν) hZ79 (rfl : ((a0b : Nat) : Int) = a0b) ea0i (show ((9 : Nat) : Int) = 9 from rfl) (i3W (i3A (zm_rd (Z := Z76) (ν := ν) (k := 43) (rfl : ((a0b : Nat) : Int) = a0b) ea0i (show ((9 : Nat) : Int) = 9 from rfl)) (show (1 : Int32) = i3 1 from rfl))))
            subst e9
            obtain ⟨Z80, hZ80⟩ := zx (zu Z79 43 a0b a0ij 5 (((Z 43 a0b a0ij 5) - ((Z 43 a0b a0ij 2) + (Z 43 a0b a0ij 7))) - (Z 43 a0b a0ij 1)))
            replace hP := zl_e hP hZ80
            have hZ80I := zH_u hZ79I hZ80 (lo := 0) (hi := 40) (by decide) rfl (by omega) ⟨by decide, by decide⟩ (Or.inl (by decide)) rfl
            have hZ80U : zU [a0b] Z Z80 := zU_u hZ79U hZ80 (Or.inr (List.Mem.head _))
            have hZ80K : zC [43] Z Z80 := zC_u hZ79K hZ80 (by decide)
            intro μ9 e9
            replace e9 := e9.trans (zm_wI (Z := Z79) (ν := ν) hZ80 (rfl : ((a0b : Nat) : Int) = a0b) ea0i (show ((5 : Nat) : Int) = 5 from rfl) (i3S (i3S (zm_rd (Z := Z) (ν := ν) (k := 43) (rfl : ((a0b : Nat) : Int) = a0b) ea0i (show ((5 : Nat) : Int) = 5 from rfl)) (i3A (zm_rd (Z := Z) (ν := ν) (k := 43) (rfl : ((a0b : Nat) : Int) = a0b) ea0i (show ((2 : Nat) : Int) = 2 from rfl)) (zm_rd (Z := Z) (ν := ν) (k := 43) (rfl : ((a0b : Nat) : Int) = a0b) ea0i (show ((7 : Nat) : Int) = 7 from rfl)))) (zm_rd (Z := Z) (ν := ν) (k := 43) (rfl : ((a0b : Nat) : Int) = a0b) ea0i (show ((1 : Nat) : Int) = 1 from rfl))))
            subst e9
            obtain ⟨Z81, hZ81⟩ := zx (zu Z80 43 a0b a0ij 7 0)
            replace hP := zl_e hP hZ81
            have hZ81I := zH_0 hZ80I hZ81 (by decide) (Or.inl (by decide))
            have hZ81U : zU [a0b] Z Z81 := zU_u hZ80U hZ81 (Or.inr (List.Mem.head _))
            have hZ81K : zC [43] Z Z81 := zC_u hZ80K hZ81 (by decide)
            intro μ9 e9
            replace e9 := e9.trans (zm_wI (Z := Z80) (ν := ν) hZ81 (rfl : ((a0b : Nat) : Int) = a0b) ea0i (show ((7 : Nat) : Int) = 7 from rfl) (show (0 : Int32) = i3 0 from rfl))
            subst e9
            exact zlV hP ⟨hZ81I, hZ81K, hZ81U⟩
      · replace hP := zE_n hP h57
        have r82 := zH_k hZ 43 a0b a0ij 1 (lo := 0) (hi := 9) (by decide) rfl
        refine wz_br (i3Le (zm_rd (Z := Z) (ν := ν) (k := 43) (rfl : ((a0b : Nat) : Int) = a0b) ea0i (show ((3 : Nat) : Int) = 3 from rfl)) (i3A (i3S (zm_rd (Z := Z) (ν := ν) (k := 43) (rfl : ((a0b : Nat) : Int) = a0b) ea0i (show ((5 : Nat) : Int) = 5 from rfl)) (i3A (zm_rd (Z := Z) (ν := ν) (k := 43) (rfl : ((a0b : Nat) : Int) = a0b) ea0i (show ((2 : Nat) : Int) = 2 from rfl)) (zm_rd (Z := Z) (ν := ν) (k := 43) (rfl : ((a0b : Nat) : Int) = a0b) ea0i (show ((7 : Nat) : Int) = 7 from rfl)))) (zm_rd (Z := Z) (ν := ν) (k := 43) (rfl : ((a0b : Nat) : Int) = a0b) ea0i (show ((1 : Nat) : Int) = 1 from rfl))) (by omega) (by omega) (by omega) (by omega)) (fun h83 => ?_) (fun h83 => ?_)
        · replace hP := zE_p hP h83
          refine wz_br (i3E (zm_rd (Z := Z) (ν := ν) (k := 43) (rfl : ((a0b : Nat) : Int) = a0b) ea0i (show ((3 : Nat) : Int) = 3 from rfl)) (i3S (zm_rd (Z := Z) (ν := ν) (k := 43) (rfl : ((a0b : Nat) : Int) = a0b) ea0i (show ((5 : Nat) : Int) = 5 from rfl)) (i3A (zm_rd (Z := Z) (ν := ν) (k := 43) (rfl : ((a0b : Nat) : Int) = a0b) ea0i (show ((2 : Nat) : Int) = 2 from rfl)) (zm_rd (Z := Z) (ν := ν) (k := 43) (rfl : ((a0b : Nat) : Int) = a0b) ea0i (show ((7 : Nat) : Int) = 7 from rfl)))) (by omega) (by omega) (by omega) (by omega)) (fun h84 => ?_) (fun h84 => ?_)
          · replace hP := zE_p hP h84
            obtain ⟨Z85, hZ85⟩ := zx (zu Z 43 a0b a0ij 5 (Z 43 a0b a0ij 3))
            replace hP := zl_e hP hZ85
            have hZ85I := zH_u hZ hZ85 (lo := 0) (hi := 40) (by decide) rfl (by omega) ⟨by decide, by decide⟩ (Or.inl (by decide)) rfl
            have hZ85U : zU [a0b] Z Z85 := zU_u zU_r hZ85 (Or.inr (List.Mem.head _))
            have hZ85K : zC [43] Z Z85 := zC_u zC_r hZ85 (by decide)
            intro μ9 e9
            replace e9 := e9.trans (zm_wI (Z := Z) (ν := ν) hZ85 (rfl : ((a0b : Nat) : Int) = a0b) ea0i (show ((5 : Nat) : Int) = 5 from rfl) (zm_rd (Z := Z) (ν := ν) (k := 43) (rfl : ((a0b : Nat) : Int) = a0b) ea0i (show ((3 : Nat) : Int) = 3 from rfl)))
            subst e9
            obtain ⟨Z86, hZ86⟩ := zx (zu Z85 43 a0b a0ij 7 0)
            replace hP := zl_e hP hZ86
            have hZ86I := zH_0 hZ85I hZ86 (by decide) (Or.inl (by decide))
            have hZ86U : zU [a0b] Z Z86 := zU_u hZ85U hZ86 (Or.inr (List.Mem.head _))
            have hZ86K : zC [43] Z Z86 := zC_u hZ85K hZ86 (by decide)
            intro μ9 e9
            replace e9 := e9.trans (zm_wI (Z := Z85) (ν := ν) hZ86 (rfl : ((a0b : Nat) : Int) = a0b) ea0i (show ((7 : Nat) : Int) = 7 from rfl) (show (0 : Int32) = i3 0 from rfl))
            subst e9
            exact zlV hP ⟨hZ86I, hZ86K, hZ86U⟩
          · replace hP := zE_n hP h84
            have r87 := zH_f hZ 43 a0b a0ij 8
            have r88 := w3_r ((Z 43 a0b a0ij 8) + 1)
            obtain ⟨Z89, hZ89⟩ := zx (zu Z 43 a0b a0ij 8 (w3 ((Z 43 a0b a0ij 8) + 1)))
            replace hP := zl_e hP hZ89
            have hZ89I := zH_u hZ hZ89 (lo := -2147483648) (hi := 2147483647) (by decide) rfl (by omega) ⟨by decide, by decide⟩ (Or.inl (by decide)) rfl
            have hZ89U : zU [a0b] Z Z89 := zU_u zU_r hZ89 (Or.inr (List.Mem.head _))
            have hZ89K : zC [43] Z Z89 := zC_u zC_r hZ89 (by decide)
            intro μ9 e9
            replace e9 := e9.trans (zm_wI (Z := Z) (ν := ν) hZ89 (rfl : ((a0b : Nat) : Int) = a0b) ea0i (show ((8 : Nat) : Int) = 8 from rfl) (i3W (i3A (zm_rd (Z := Z) (ν := ν) (k := 43) (rfl : ((a0b : Nat) : Int) = a0b) ea0i (show ((8 : Nat) : Int) = 8 from rfl)) (show (1 : Int32) = i3 1 from rfl))))
            subst e9
            have r90 := zH_f hZ89I 43 a0b a0ij 9
            have r91 := w3_r ((Z89 43 a0b a0ij 9) + 1)
            obtain ⟨Z92, hZ92⟩ := zx (zu Z89 43 a0b a0ij 9 (w3 ((Z89 43 a0b a0ij 9) + 1)))
            replace hP := zl_e hP hZ92
            have hZ92I := zH_u hZ89I hZ92 (lo := -2147483648) (hi := 2147483647) (by decide) rfl (by omega) ⟨by decide, by decide⟩ (Or.inl (by decide)) rfl
            have hZ92U : zU [a0b] Z Z92 := zU_u hZ89U hZ92 (Or.inr (List.Mem.head _))
            have hZ92K : zC [43] Z Z92 := zC_u hZ89K hZ92 (by decide)
            intro μ9 e9
            replace e9 := e9.trans (zm_wI (Z := Z89) (ν := ν) hZ92 (rfl : ((a0b : Nat) : Int) = a0b) ea0i (show ((9 : Nat) : Int) = 9 from rfl) (i3W (i3A (zm_rd (Z := Z89) (ν := ν) (k := 43) (rfl : ((a0b : Nat) : Int) = a0b) ea0i (show ((9 : Nat) : Int) = 9 from rfl)) (show (1 : Int32) = i3 1 from rfl))))
            subst e9
            obtain ⟨Z93, hZ93⟩ := zx (zu Z92 43 a0b a0ij 5 (Z 43 a0b a0ij 3))
            replace hP := zl_e hP hZ93
            have hZ93I := zH_u hZ92I hZ93 (lo := 0) (hi := 40) (by decide) rfl (by omega) ⟨by decide, by decide⟩ (Or.inl (by decide)) rfl
            have hZ93U : zU [a0b] Z Z93 := zU_u hZ92U hZ93 (Or.inr (List.Mem.head _))
            have hZ93K : zC [43] Z Z93 := zC_u hZ92K hZ93 (by decide)
            intro μ9 e9
            replace e9 := e9.trans (zm_wI (Z := Z92) (ν := ν) hZ93 (rfl : ((a0b : Nat) : Int) = a0b) ea0i (show ((5 : Nat) : Int) = 5 from rfl) (zm_rd (Z := Z) (ν := ν) (k := 43) (rfl : ((a0b : Nat) : Int) = a0b) ea0i (show ((3 : Nat) : Int) = 3 from rfl)))
            subst e9
            obtain ⟨Z94, hZ94⟩ := zx (zu Z93 43 a0b a0ij 7 0)
            replace hP := zl_e hP hZ94
            have hZ94I := zH_0 hZ93I hZ94 (by decide) (Or.inl (by decide))
            have hZ94U : zU [a0b] Z Z94 := zU_u hZ93U hZ94 (Or.inr (List.Mem.head _))
            have hZ94K : zC [43] Z Z94 := zC_u hZ93K hZ94 (by decide)
            intro μ9 e9
            replace e9 := e9.trans (zm_wI (Z := Z93) (ν := ν) hZ94 (rfl : ((a0b : Nat) : Int) = a0b) ea0i (show ((7 : Nat) : Int) = 7 from rfl) (show (0 : Int32) = i3 0 from rfl))
            subst e9
            exact zlV hP ⟨hZ94I, hZ94K, hZ94U⟩
        · replace hP := zE_n hP h83
          refine wz_br (i3E (i3A (i3S (zm_rd (Z := Z) (ν := ν) (k := 43) (rfl : ((a0b : Nat) : Int) = a0b) ea0i (show ((5 : Nat) : Int) = 5 from rfl)) (i3A (zm_rd (Z := Z) (ν := ν) (k := 43) (rfl : ((a0b : Nat) : Int) = a0b) ea0i (show ((2 : Nat) : Int) = 2 from rfl)) (zm_rd (Z := Z) (ν := ν) (k := 43) (rfl : ((a0b : Nat) : Int) = a0b) ea0i (show ((7 : Nat) : Int) = 7 from rfl)))) (zm_rd (Z := Z) (ν := ν) (k := 43) (rfl : ((a0b : Nat) : Int) = a0b) ea0i (show ((1 : Nat) : Int) = 1 from rfl))) (i3S (zm_rd (Z := Z) (ν := ν) (k := 43) (rfl : ((a0b : Nat) : Int) = a0b) ea0i (show ((5 : Nat) : Int) = 5 from rfl)) (i3A (zm_rd (Z := Z) (ν := ν) (k := 43) (rfl : ((a0b : Nat) : Int) = a0b) ea0i (show ((2 : Nat) : Int) = 2 from rfl)) (zm_rd (Z := Z) (ν := ν) (k := 43) (rfl : ((a0b : Nat) : Int) = a0b) ea0i (show ((7 : Nat) : Int) = 7 from rfl)))) (by omega) (by omega) (by omega) (by omega)) (fun h95 => ?_) (fun h95 => ?_)
          · replace hP := zE_p hP h95
            obtain ⟨Z96, hZ96⟩ := zx (zu Z 43 a0b a0ij 5 (((Z 43 a0b a0ij 5) - ((Z 43 a0b a0ij 2) + (Z 43 a0b a0ij 7))) + (Z 43 a0b a0ij 1)))
            replace hP := zl_e hP hZ96
            have hZ96I := zH_u hZ hZ96 (lo := 0) (hi := 40) (by decide) rfl (by omega) ⟨by decide, by decide⟩ (Or.inl (by decide)) rfl
            have hZ96U : zU [a0b] Z Z96 := zU_u zU_r hZ96 (Or.inr (List.Mem.head _))
            have hZ96K : zC [43] Z Z96 := zC_u zC_r hZ96 (by decide)
            intro μ9 e9
            replace e9 := e9.trans (zm_wI (Z := Z) (ν := ν) hZ96 (rfl : ((a0b : Nat) : Int) = a0b) ea0i (show ((5 : Nat) : Int) = 5 from rfl) (i3A (i3S (zm_rd (Z := Z) (ν := ν) (k := 43) (rfl : ((a0b : Nat) : Int) = a0b) ea0i (show ((5 : Nat) : Int) = 5 from rfl)) (i3A (zm_rd (Z := Z) (ν := ν) (k := 43) (rfl : ((a0b : Nat) : Int) = a0b) ea0i (show ((2 : Nat) : Int) = 2 from rfl)) (zm_rd (Z := Z) (ν := ν) (k := 43) (rfl : ((a0b : Nat) : Int) = a0b) ea0i (show ((7 : Nat) : Int) = 7 from rfl)))) (zm_rd (Z := Z) (ν := ν) (k := 43) (rfl : ((a0b : Nat) : Int) = a0b) ea0i (show ((1 : Nat) : Int) = 1 from rfl))))
            subst e9
            obtain ⟨Z97, hZ97⟩ := zx (zu Z96 43 a0b a0ij 7 0)
            replace hP := zl_e hP hZ97
            have hZ97I := zH_0 hZ96I hZ97 (by decide) (Or.inl (by decide))
            have hZ97U : zU [a0b] Z Z97 := zU_u hZ96U hZ97 (Or.inr (List.Mem.head _))
            have hZ97K : zC [43] Z Z97 := zC_u hZ96K hZ97 (by decide)
            intro μ9 e9
            replace e9 := e9.trans (zm_wI (Z := Z96) (ν := ν) hZ97 (rfl : ((a0b : Nat) : Int) = a0b) ea0i (show ((7 : Nat) : Int) = 7 from rfl) (show (0 : Int32) = i3 0 from rfl))
            subst e9
            exact zlV hP ⟨hZ97I, hZ97K, hZ97U⟩
          · replace hP := zE_n hP h95
            have r98 := zH_f hZ 43 a0b a0ij 8
            have r99 := w3_r ((Z 43 a0b a0ij 8) + 1)
            obtain ⟨Z100, hZ100⟩ := zx (zu Z 43 a0b a0ij 8 (w3 ((Z 43 a0b a0ij 8) + 1)))
            replace hP := zl_e hP hZ100
            have hZ100I := zH_u hZ hZ100 (lo := -2147483648) (hi := 2147483647) (by decide) rfl (by omega) ⟨by decide, by decide⟩ (Or.inl (by decide)) rfl
            have hZ100U : zU [a0b] Z Z100 := zU_u zU_r hZ100 (Or.inr (List.Mem.head _))
            have hZ100K : zC [43] Z Z100 := zC_u zC_r hZ100 (by decide)
            intro μ9 e9
            replace e9 := e9.trans (zm_wI (Z := Z) (ν := ν) hZ100 (rfl : ((a0b : Nat) : Int) = a0b) ea0i (show ((8 : Nat) : Int) = 8 from rfl) (i3W (i3A (zm_rd (Z := Z) (ν := ν) (k := 43) (rfl : ((a0b : Nat) : Int) = a0b) ea0i (show ((8 : Nat) : Int) = 8 from rfl)) (show (1 : Int32) = i3 1 from rfl))))
            subst e9
            have r101 := zH_f hZ100I 43 a0b a0ij 9
            have r102 := w3_r ((Z100 43 a0b a0ij 9) + 1)
            obtain ⟨Z103, hZ103⟩ := zx (zu Z100 43 a0b a0ij 9 (w3 ((Z100 43 a0b a0ij 9) + 1)))
            replace hP := zl_e hP hZ103
            have hZ103I := zH_u hZ100I hZ103 (lo := -2147483648) (hi := 2147483647) (by decide) rfl (by omega) ⟨by decide, by decide⟩ (Or.inl (by decide)) rfl
            have hZ103U : zU [a0b] Z Z103 := zU_u hZ100U hZ103 (Or.inr (List.Mem.head _))
            have hZ103K : zC [43] Z Z103 := zC_u hZ100K hZ103 (by decide)
            intro μ9 e9
            replace e9 := e9.trans (zm_wI (Z := Z100) (ν := ν) hZ103 (rfl : ((a0b : Nat) : Int) = a0b) ea0i (show ((9 : Nat) : Int) = 9 from rfl) (i3W (i3A (zm_rd (Z := Z100) (ν := ν) (k := 43) (rfl : ((a0b : Nat) : Int) = a0b) ea0i (show ((9 : Nat) : Int) = 9 from rfl)) (show (1 : Int32) = i3 1 from rfl))))
            subst e9
            obtain ⟨Z104, hZ104⟩ := zx (zu Z103 43 a0b a0ij 5 (((Z 43 a0b a0ij 5) - ((Z 43 a0b a0ij 2) + (Z 43 a0b a0ij 7))) + (Z 43 a0b a0ij 1)))
            replace hP := zl_e hP hZ104
            have hZ104I := zH_u hZ103I hZ104 (lo := 0) (hi := 40) (by decide) rfl (by omega) ⟨by decide, by decide⟩ (Or.inl (by decide)) rfl
            have hZ104U : zU [a0b] Z Z104 := zU_u hZ103U hZ104 (Or.inr (List.Mem.head _))
            have hZ104K : zC [43] Z Z104 := zC_u hZ103K hZ104 (by decide)
            intro μ9 e9
            replace e9 := e9.trans (zm_wI (Z := Z103) (ν := ν) hZ104 (rfl : ((a0b : Nat) : Int) = a0b) ea0i (show ((5 : Nat) : Int) = 5 from rfl) (i3A (i3S (zm_rd (Z := Z) (ν := ν) (k := 43) (rfl : ((a0b : Nat) : Int) = a0b) ea0i (show ((5 : Nat) : Int) = 5 from rfl)) (i3A (zm_rd (Z := Z) (ν := ν) (k := 43) (rfl : ((a0b : Nat) : Int) = a0b) ea0i (show ((2 : Nat) : Int) = 2 from rfl)) (zm_rd (Z := Z) (ν := ν) (k := 43) (rfl : ((a0b : Nat) : Int) = a0b) ea0i (show ((7 : Nat) : Int) = 7 from rfl)))) (zm_rd (Z := Z) (ν := ν) (k := 43) (rfl : ((a0b : Nat) : Int) = a0b) ea0i (show ((1 : Nat) : Int) = 1 from rfl))))
            subst e9
            obtain ⟨Z105, hZ105⟩ := zx (zu Z104 43 a0b a0ij 7 0)
            replace hP := zl_e hP hZ105
            have hZ105I := zH_0 hZ104I hZ105 (by decide) (Or.inl (by decide))
            have hZ105U : zU [a0b] Z Z105 := zU_u hZ104U hZ105 (Or.inr (List.Mem.head _))
            have hZ105K : zC [43] Z Z105 := zC_u hZ104K hZ105 (by decide)
            intro μ9 e9
            replace e9 := e9.trans (zm_wI (Z := Z104) (ν := ν) hZ105 (rfl : ((a0b : Nat) : Int) = a0b) ea0i (show ((7 : Nat) : Int) = 7 from rfl) (show (0 : Int32) = i3 0 from rfl))
            subst e9
            exact zlV hP ⟨hZ105I, hZ105K, hZ105U⟩
  · replace hP := zE_n hP h2
    have r106 := zH_k hZ 43 a0b a0ij 2 (lo := 0) (hi := 9) (by decide) rfl
    have r107 := zH_d hZ a0b a0ij (zbh (c := 0) (k := 0) hM (Nat.le_of_ble_eq_true rfl))
    refine wz_br (i3Le (rfl : i3 a1 = i3 a1) (i3A (zm_rd (Z := Z) (ν := ν) (k := 43) (rfl : ((a0b : Nat) : Int) = a0b) ea0i (show ((5 : Nat) : Int) = 5 from rfl)) (i3A (zm_rd (Z := Z) (ν := ν) (k := 43) (rfl : ((a0b : Nat) : Int) = a0b) ea0i (show ((2 : Nat) : Int) = 2 from rfl)) (zm_rd (Z := Z) (ν := ν) (k := 43) (rfl : ((a0b : Nat) : Int) = a0b) ea0i (show ((7 : Nat) : Int) = 7 from rfl)))) (by omega) (by omega) (by omega) (by omega)) (fun h108 => ?_) (fun h108 => ?_)
    · replace hP := zE_p hP h108
      have r109 := zH_k hZ 43 a0b a0ij 3 (lo := 0) (hi := 40) (by decide) rfl
      refine wz_br (i3Le (zm_rd (Z := Z) (ν := ν) (k := 43) (rfl : ((a0b : Nat) : Int) = a0b) ea0i (show ((3 : Nat) : Int) = 3 from rfl)) (rfl : i3 a1 = i3 a1) (by omega) (by omega) (by omega) (by omega)) (fun h110 => ?_) (fun h110 => ?_)
      · replace hP := zE_p hP h110
        have r111 := zH_k hZ 43 a0b a0ij 1 (lo := 0) (hi := 9) (by decide) rfl
        refine wz_br (i3Le (i3S (rfl : i3 a1 = i3 a1) (zm_rd (Z := Z) (ν := ν) (k := 43) (rfl : ((a0b : Nat) : Int) = a0b) ea0i (show ((1 : Nat) : Int) = 1 from rfl))) (zm_rd (Z := Z) (ν := ν) (k := 43) (rfl : ((a0b : Nat) : Int) = a0b) ea0i (show ((3 : Nat) : Int) = 3 from rfl)) (by omega) (by omega) (by omega) (by omega)) (fun h112 => ?_) (fun h112 => ?_)
        · replace hP := zE_p hP h112
          refine wz_br (i3E (zm_rd (Z := Z) (ν := ν) (k := 43) (rfl : ((a0b : Nat) : Int) = a0b) ea0i (show ((3 : Nat) : Int) = 3 from rfl)) (rfl : i3 a1 = i3 a1) (by omega) (by omega) (by omega) (by omega)) (fun h113 => ?_) (fun h113 => ?_)
          · replace hP := zE_p hP h113
            obtain ⟨Z114, hZ114⟩ := zx (zu Z 43 a0b a0ij 5 (Z 43 a0b a0ij 3))
            replace hP := zl_e hP hZ114
            have hZ114I := zH_u hZ hZ114 (lo := 0) (hi := 40) (by decide) rfl (by omega) ⟨by decide, by decide⟩ (Or.inl (by decide)) rfl
            have hZ114U : zU [a0b] Z Z114 := zU_u zU_r hZ114 (Or.inr (List.Mem.head _))
            have hZ114K : zC [43] Z Z114 := zC_u zC_r hZ114 (by decide)
            intro μ9 e9
            replace e9 := e9.trans (zm_wI (Z := Z) (ν := ν) hZ114 (rfl : ((a0b : Nat) : Int) = a0b) ea0i (show ((5 : Nat) : Int) = 5 from rfl) (zm_rd (Z := Z) (ν := ν) (k := 43) (rfl : ((a0b : Nat) : Int) = a0b) ea0i (show ((3 : Nat) : Int) = 3 from rfl)))
            subst e9
            obtain ⟨Z115, hZ115⟩ := zx (zu Z114 43 a0b a0ij 7 0)
            replace hP := zl_e hP hZ115
            have hZ115I := zH_0 hZ114I hZ115 (by decide) (Or.inl (by decide))
            have hZ115U : zU [a0b] Z Z115 := zU_u hZ114U hZ115 (Or.inr (List.Mem.head _))
            have hZ115K : zC [43] Z Z115 := zC_u hZ114K hZ115 (by decide)
            intro μ9 e9
            replace e9 := e9.trans (zm_wI (Z := Z114) (ν := ν) hZ115 (rfl : ((a0b : Nat) : Int) = a0b) ea0i (show ((7 : Nat) : Int) = 7 from rfl) (show (0 : Int32) = i3 0 from rfl))
            subst e9
            exact zlV hP ⟨hZ115I, hZ115K, hZ115U⟩
          · replace hP := zE_n hP h113
            have r116 := zH_f hZ 43 a0b a0ij 8
            have r117 := w3_r ((Z 43 a0b a0ij 8) + 1)
            obtain ⟨Z118, hZ118⟩ := zx (zu Z 43 a0b a0ij 8 (w3 ((Z 43 a0b a0ij 8) + 1)))
            replace hP := zl_e hP hZ118
            have hZ118I := zH_u hZ hZ118 (lo := -2147483648) (hi := 2147483647) (by decide) rfl (by omega) ⟨by decide, by decide⟩ (Or.inl (by decide)) rfl
            have hZ118U : zU [a0b] Z Z118 := zU_u zU_r hZ118 (Or.inr (List.Mem.head _))
            have hZ118K : zC [43] Z Z118 := zC_u zC_r hZ118 (by decide)
            intro μ9 e9
            replace e9 := e9.trans (zm_wI (Z := Z) (ν := ν) hZ118 (rfl : ((a0b : Nat) : Int) = a0b) ea0i (show ((8 : Nat) : Int) = 8 from rfl) (i3W (i3A (zm_rd (Z := Z) (ν := ν) (k := 43) (rfl : ((a0b : Nat) : Int) = a0b) ea0i (show ((8 : Nat) : Int) = 8 from rfl)) (show (1 : Int32) = i3 1 from rfl))))
            subst e9
            have r119 := zH_f hZ118I 43 a0b a0ij 9
            have r120 := w3_r ((Z118 43 a0b a0ij 9) + 1)
            obtain ⟨Z121, hZ121⟩ := zx (zu Z118 43 a0b a0ij 9 (w3 ((Z118 43 a0b a0ij 9) + 1)))
            replace hP := zl_e hP hZ121
            have hZ121I := zH_u hZ118I hZ121 (lo := -2147483648) (hi := 2147483647) (by decide) rfl (by omega) ⟨by decide, by decide⟩ (Or.inl (by decide)) rfl
            have hZ121U : zU [a0b] Z Z121 := zU_u hZ118U hZ121 (Or.inr (List.Mem.head _))
            have hZ121K : zC [43] Z Z121 := zC_u hZ118K hZ121 (by decide)
            intro μ9 e9
            replace e9 := e9.trans (zm_wI (Z := Z118) (ν := ν) hZ121 (rfl : ((a0b : Nat) : Int) = a0b) ea0i (show ((9 : Nat) : Int) = 9 from rfl) (i3W (i3A (zm_rd (Z := Z118) (ν := ν) (k := 43) (rfl : ((a0b : Nat) : Int) = a0b) ea0i (show ((9 : Nat) : Int) = 9 from rfl)) (show (1 : Int32) = i3 1 from rfl))))
            subst e9
            obtain ⟨Z122, hZ122⟩ := zx (zu Z121 43 a0b a0ij 5 (Z 43 a0b a0ij 3))
            replace hP := zl_e hP hZ122
            have hZ122I := zH_u hZ121I hZ122 (lo := 0) (hi := 40) (by decide) rfl (by omega) ⟨by decide, by decide⟩ (Or.inl (by decide)) rfl
            have hZ122U : zU [a0b] Z Z122 := zU_u hZ121U hZ122 (Or.inr (List.Mem.head _))
            have hZ122K : zC [43] Z Z122 := zC_u hZ121K hZ122 (by decide)
            intro μ9 e9
            replace e9 := e9.trans (zm_wI (Z := Z121) (ν := ν) hZ122 (rfl : ((a0b : Nat) : Int) = a0b) ea0i (show ((5 : Nat) : Int) = 5 from rfl) (zm_rd (Z := Z) (ν := ν) (k := 43) (rfl : ((a0b : Nat) : Int) = a0b) ea0i (show ((3 : Nat) : Int) = 3 from rfl)))
            subst e9
            obtain ⟨Z123, hZ123⟩ := zx (zu Z122 43 a0b a0ij 7 0)
            replace hP := zl_e hP hZ123
            have hZ123I := zH_0 hZ122I hZ123 (by decide) (Or.inl (by decide))
            have hZ123U : zU [a0b] Z Z123 := zU_u hZ122U hZ123 (Or.inr (List.Mem.head _))
            have hZ123K : zC [43] Z Z123 := zC_u hZ122K hZ123 (by decide)
            intro μ9 e9
            replace e9 := e9.trans (zm_wI (Z := Z122) (ν := ν) hZ123 (rfl : ((a0b : Nat) : Int) = a0b) ea0i (show ((7 : Nat) : Int) = 7 from rfl) (show (0 : Int32) = i3 0 from rfl))
            subst e9
            exact zlV hP ⟨hZ123I, hZ123K, hZ123U⟩
        · replace hP := zE_n hP h112
          refine wz_br (i3E (i3S (rfl : i3 a1 = i3 a1) (zm_rd (Z := Z) (ν := ν) (k := 43) (rfl : ((a0b : Nat) : Int) = a0b) ea0i (show ((1 : Nat) : Int) = 1 from rfl))) (rfl : i3 a1 = i3 a1) (by omega) (by omega) (by omega) (by omega)) (fun h124 => ?_) (fun h124 => ?_)
          · replace hP := zE_p hP h124
            obtain ⟨Z125, hZ125⟩ := zx (zu Z 43 a0b a0ij 5 (a1 - (Z 43 a0b a0ij 1)))
            replace hP := zl_e hP hZ125
            have hZ125I := zH_u hZ hZ125 (lo := 0) (hi := 40) (by decide) rfl (by omega) ⟨by decide, by decide⟩ (Or.inl (by decide)) rfl
            have hZ125U : zU [a0b] Z Z125 := zU_u zU_r hZ125 (Or.inr (List.Mem.head _))
            have hZ125K : zC [43] Z Z125 := zC_u zC_r hZ125 (by decide)
            intro μ9 e9
            replace e9 := e9.trans (zm_wI (Z := Z) (ν := ν) hZ125 (rfl : ((a0b : Nat) : Int) = a0b) ea0i (show ((5 : Nat) : Int) = 5 from rfl) (i3S (rfl : i3 a1 = i3 a1) (zm_rd (Z := Z) (ν := ν) (k := 43) (rfl : ((a0b : Nat) : Int) = a0b) ea0i (show ((1 : Nat) : Int) = 1 from rfl))))
            subst e9
            obtain ⟨Z126, hZ126⟩ := zx (zu Z125 43 a0b a0ij 7 0)
            replace hP := zl_e hP hZ126
            have hZ126I := zH_0 hZ125I hZ126 (by decide) (Or.inl (by decide))
            have hZ126U : zU [a0b] Z Z126 := zU_u hZ125U hZ126 (Or.inr (List.Mem.head _))
            have hZ126K : zC [43] Z Z126 := zC_u hZ125K hZ126 (by decide)
            intro μ9 e9
            replace e9 := e9.trans (zm_wI (Z := Z125) (ν := ν) hZ126 (rfl : ((a0b : Nat) : Int) = a0b) ea0i (show ((7 : Nat) : Int) = 7 from rfl) (show (0 : Int32) = i3 0 from rfl))
            subst e9
            exact zlV hP ⟨hZ126I, hZ126K, hZ126U⟩
          · replace hP := zE_n hP h124
            have r127 := zH_f hZ 43 a0b a0ij 8
            have r128 := w3_r ((Z 43 a0b a0ij 8) + 1)
            obtain ⟨Z129, hZ129⟩ := zx (zu Z 43 a0b a0ij 8 (w3 ((Z 43 a0b a0ij 8) + 1)))
            replace hP := zl_e hP hZ129
            have hZ129I := zH_u hZ hZ129 (lo := -2147483648) (hi := 2147483647) (by decide) rfl (by omega) ⟨by decide, by decide⟩ (Or.inl (by decide)) rfl
            have hZ129U : zU [a0b] Z Z129 := zU_u zU_r hZ129 (Or.inr (List.Mem.head _))
            have hZ129K : zC [43] Z Z129 := zC_u zC_r hZ129 (by decide)
            intro μ9 e9
            replace e9 := e9.trans (zm_wI (Z := Z) (ν := ν) hZ129 (rfl : ((a0b : Nat) : Int) = a0b) ea0i (show ((8 : Nat) : Int) = 8 from rfl) (i3W (i3A (zm_rd (Z := Z) (ν := ν) (k := 43) (rfl : ((a0b : Nat) : Int) = a0b) ea0i (show ((8 : Nat) : Int) = 8 from rfl)) (show (1 : Int32) = i3 1 from rfl))))
            subst e9
            have r130 := zH_f hZ129I 43 a0b a0ij 9
            have r131 := w3_r ((Z129 43 a0b a0ij 9) + 1)
            obtain ⟨Z132, hZ132⟩ := zx (zu Z129 43 a0b a0ij 9 (w3 ((Z129 43 a0b a0ij 9) + 1)))
            replace hP := zl_e hP hZ132
            have hZ132I := zH_u hZ129I hZ132 (lo := -2147483648) (hi := 2147483647) (by decide) rfl (by omega) ⟨by decide, by decide⟩ (Or.inl (by decide)) rfl
            have hZ132U : zU [a0b] Z Z132 := zU_u hZ129U hZ132 (Or.inr (List.Mem.head _))
            have hZ132K : zC [43] Z Z132 := zC_u hZ129K hZ132 (by decide)
            intro μ9 e9
            replace e9 := e9.trans (zm_wI (Z := Z129) (ν := ν) hZ132 (rfl : ((a0b : Nat) : Int) = a0b) ea0i (show ((9 : Nat) : Int) = 9 from rfl) (i3W (i3A (zm_rd (Z := Z129) (ν := ν) (k := 43) (rfl : ((a0b : Nat) : Int) = a0b) ea0i (show ((9 : Nat) : Int) = 9 from rfl)) (show (1 : Int32) = i3 1 from rfl))))
            subst e9
            obtain ⟨Z133, hZ133⟩ := zx (zu Z132 43 a0b a0ij 5 (a1 - (Z 43 a0b a0ij 1)))
            replace hP := zl_e hP hZ133
            have hZ133I := zH_u hZ132I hZ133 (lo := 0) (hi := 40) (by decide) rfl (by omega) ⟨by decide, by decide⟩ (Or.inl (by decide)) rfl
            have hZ133U : zU [a0b] Z Z133 := zU_u hZ132U hZ133 (Or.inr (List.Mem.head _))
            have hZ133K : zC [43] Z Z133 := zC_u hZ132K hZ133 (by decide)
            intro μ9 e9
            replace e9 := e9.trans (zm_wI (Z := Z132) (ν := ν) hZ133 (rfl : ((a0b : Nat) : Int) = a0b) ea0i (show ((5 : Nat) : Int) = 5 from rfl) (i3S (rfl : i3 a1 = i3 a1) (zm_rd (Z := Z) (ν := ν) (k := 43) (rfl : ((a0b : Nat) : Int) = a0b) ea0i (show ((1 : Nat) : Int) = 1 from rfl))))
            subst e9
            obtain ⟨Z134, hZ134⟩ := zx (zu Z133 43 a0b a0ij 7 0)
            replace hP := zl_e hP hZ134
            have hZ134I := zH_0 hZ133I hZ134 (by decide) (Or.inl (by decide))
            have hZ134U : zU [a0b] Z Z134 := zU_u hZ133U hZ134 (Or.inr (List.Mem.head _))
            have hZ134K : zC [43] Z Z134 := zC_u hZ133K hZ134 (by decide)
            intro μ9 e9
            replace e9 := e9.trans (zm_wI (Z := Z133) (ν := ν) hZ134 (rfl : ((a0b : Nat) : Int) = a0b) ea0i (show ((7 : Nat) : Int) = 7 from rfl) (show (0 : Int32) = i3 0 from rfl))
            subst e9
            exact zlV hP ⟨hZ134I, hZ134K, hZ134U⟩
      · replace hP := zE_n hP h110
        have r135 := zH_k hZ 43 a0b a0ij 1 (lo := 0) (hi := 9) (by decide) rfl
        refine wz_br (i3Le (zm_rd (Z := Z) (ν := ν) (k := 43) (rfl : ((a0b : Nat) : Int) = a0b) ea0i (show ((3 : Nat) : Int) = 3 from rfl)) (i3A (rfl : i3 a1 = i3 a1) (zm_rd (Z := Z) (ν := ν) (k := 43) (rfl : ((a0b : Nat) : Int) = a0b) ea0i (show ((1 : Nat) : Int) = 1 from rfl))) (by omega) (by omega) (by omega) (by omega)) (fun h136 => ?_) (fun h136 => ?_)
        · replace hP := zE_p hP h136
          refine wz_br (i3E (zm_rd (Z := Z) (ν := ν) (k := 43) (rfl : ((a0b : Nat) : Int) = a0b) ea0i (show ((3 : Nat) : Int) = 3 from rfl)) (rfl : i3 a1 = i3 a1) (by omega) (by omega) (by omega) (by omega)) (fun h137 => ?_) (fun h137 => ?_)
          · replace hP := zE_p hP h137
            obtain ⟨Z138, hZ138⟩ := zx (zu Z 43 a0b a0ij 5 (Z 43 a0b a0ij 3))
            replace hP := zl_e hP hZ138
            have hZ138I := zH_u hZ hZ138 (lo := 0) (hi := 40) (by decide) rfl (by omega) ⟨by decide, by decide⟩ (Or.inl (by decide)) rfl
            have hZ138U : zU [a0b] Z Z138 := zU_u zU_r hZ138 (Or.inr (List.Mem.head _))
            have hZ138K : zC [43] Z Z138 := zC_u zC_r hZ138 (by decide)
            intro μ9 e9
            replace e9 := e9.trans (zm_wI (Z := Z) (ν := ν) hZ138 (rfl : ((a0b : Nat) : Int) = a0b) ea0i (show ((5 : Nat) : Int) = 5 from rfl) (zm_rd (Z := Z) (ν := ν) (k := 43) (rfl : ((a0b : Nat) : Int) = a0b) ea0i (show ((3 : Nat) : Int) = 3 from rfl)))
            subst e9
            obtain ⟨Z139, hZ139⟩ := zx (zu Z138 43 a0b a0ij 7 0)
            replace hP := zl_e hP hZ139
            have hZ139I := zH_0 hZ138I hZ139 (by decide) (Or.inl (by decide))
            have hZ139U : zU [a0b] Z Z139 := zU_u hZ138U hZ139 (Or.inr (List.Mem.head _))
            have hZ139K : zC [43] Z Z139 := zC_u hZ138K hZ139 (by decide)
            intro μ9 e9
            replace e9 := e9.trans (zm_wI (Z := Z138) (ν := ν) hZ139 (rfl : ((a0b : Nat) : Int) = a0b) ea0i (show ((7 : Nat) : Int) = 7 from rfl) (show (0 : Int32) = i3 0 from rfl))
            subst e9
            exact zlV hP ⟨hZ139I, hZ139K, hZ139U⟩
          · replace hP := zE_n hP h137
            have r140 := zH_f hZ 43 a0b a0ij 8
            have r141 := w3_r ((Z 43 a0b a0ij 8) + 1)
            obtain ⟨Z142, hZ142⟩ := zx (zu Z 43 a0b a0ij 8 (w3 ((Z 43 a0b a0ij 8) + 1)))
            replace hP := zl_e hP hZ142
            have hZ142I := zH_u hZ hZ142 (lo := -2147483648) (hi := 2147483647) (by decide) rfl (by omega) ⟨by decide, by decide⟩ (Or.inl (by decide)) rfl
            have hZ142U : zU [a0b] Z Z142 := zU_u zU_r hZ142 (Or.inr (List.Mem.head _))
            have hZ142K : zC [43] Z Z142 := zC_u zC_r hZ142 (by decide)
            intro μ9 e9
            replace e9 := e9.trans (zm_wI (Z := Z) (ν := ν) hZ142 (rfl : ((a0b : Nat) : Int) = a0b) ea0i (show ((8 : Nat) : Int) = 8 from rfl) (i3W (i3A (zm_rd (Z := Z) (ν := ν) (k := 43) (rfl : ((a0b : Nat) : Int) = a0b) ea0i (show ((8 : Nat) : Int) = 8 from rfl)) (show (1 : Int32) = i3 1 from rfl))))
            subst e9
            have r143 := zH_f hZ142I 43 a0b a0ij 9
            have r144 := w3_r ((Z142 43 a0b a0ij 9) + 1)
            obtain ⟨Z145, hZ145⟩ := zx (zu Z142 43 a0b a0ij 9 (w3 ((Z142 43 a0b a0ij 9) + 1)))
            replace hP := zl_e hP hZ145
            have hZ145I := zH_u hZ142I hZ145 (lo := -2147483648) (hi := 2147483647) (by decide) rfl (by omega) ⟨by decide, by decide⟩ (Or.inl (by decide)) rfl
            have hZ145U : zU [a0b] Z Z145 := zU_u hZ142U hZ145 (Or.inr (List.Mem.head _))
            have hZ145K : zC [43] Z Z145 := zC_u hZ142K hZ145 (by decide)
            intro μ9 e9
            replace e9 := e9.trans (zm_wI (Z := Z142) (ν := ν) hZ145 (rfl : ((a0b : Nat) : Int) = a0b) ea0i (show ((9 : Nat) : Int) = 9 from rfl) (i3W (i3A (zm_rd (Z := Z142) (ν := ν) (k := 43) (rfl : ((a0b : Nat) : Int) = a0b) ea0i (show ((9 : Nat) : Int) = 9 from rfl)) (show (1 : Int32) = i3 1 from rfl))))
            subst e9
            obtain ⟨Z146, hZ146⟩ := zx (zu Z145 43 a0b a0ij 5 (Z 43 a0b a0ij 3))
            replace hP := zl_e hP hZ146
            have hZ146I := zH_u hZ145I hZ146 (lo := 0) (hi := 40) (by decide) rfl (by omega) ⟨by decide, by decide⟩ (Or.inl (by decide)) rfl
            have hZ146U : zU [a0b] Z Z146 := zU_u hZ145U hZ146 (Or.inr (List.Mem.head _))
            have hZ146K : zC [43] Z Z146 := zC_u hZ145K hZ146 (by decide)
            intro μ9 e9
            replace e9 := e9.trans (zm_wI (Z := Z145) (ν := ν) hZ146 (rfl : ((a0b : Nat) : Int) = a0b) ea0i (show ((5 : Nat) : Int) = 5 from rfl) (zm_rd (Z := Z) (ν := ν) (k := 43) (rfl : ((a0b : Nat) : Int) = a0b) ea0i (show ((3 : Nat) : Int) = 3 from rfl)))
            subst e9
            obtain ⟨Z147, hZ147⟩ := zx (zu Z146 43 a0b a0ij 7 0)
            replace hP := zl_e hP hZ147
            have hZ147I := zH_0 hZ146I hZ147 (by decide) (Or.inl (by decide))
            have hZ147U : zU [a0b] Z Z147 := zU_u hZ146U hZ147 (Or.inr (List.Mem.head _))
            have hZ147K : zC [43] Z Z147 := zC_u hZ146K hZ147 (by decide)
            intro μ9 e9
            replace e9 := e9.trans (zm_wI (Z := Z146) (ν := ν) hZ147 (rfl : ((a0b : Nat) : Int) = a0b) ea0i (show ((7 : Nat) : Int) = 7 from rfl) (show (0 : Int32) = i3 0 from rfl))
            subst e9
            exact zlV hP ⟨hZ147I, hZ147K, hZ147U⟩
        · replace hP := zE_n hP h136
          refine wz_br (i3E (i3A (rfl : i3 a1 = i3 a1) (zm_rd (Z := Z) (ν := ν) (k := 43) (rfl : ((a0b : Nat) : Int) = a0b) ea0i (show ((1 : Nat) : Int) = 1 from rfl))) (rfl : i3 a1 = i3 a1) (by omega) (by omega) (by omega) (by omega)) (fun h148 => ?_) (fun h148 => ?_)
          · replace hP := zE_p hP h148
            obtain ⟨Z149, hZ149⟩ := zx (zu Z 43 a0b a0ij 5 (a1 + (Z 43 a0b a0ij 1)))
            replace hP := zl_e hP hZ149
            have hZ149I := zH_u hZ hZ149 (lo := 0) (hi := 40) (by decide) rfl (by omega) ⟨by decide, by decide⟩ (Or.inl (by decide)) rfl
            have hZ149U : zU [a0b] Z Z149 := zU_u zU_r hZ149 (Or.inr (List.Mem.head _))
            have hZ149K : zC [43] Z Z149 := zC_u zC_r hZ149 (by decide)
            intro μ9 e9
            replace e9 := e9.trans (zm_wI (Z := Z) (ν := ν) hZ149 (rfl : ((a0b : Nat) : Int) = a0b) ea0i (show ((5 : Nat) : Int) = 5 from rfl) (i3A (rfl : i3 a1 = i3 a1) (zm_rd (Z := Z) (ν := ν) (k := 43) (rfl : ((a0b : Nat) : Int) = a0b) ea0i (show ((1 : Nat) : Int) = 1 from rfl))))
            subst e9
            obtain ⟨Z150, hZ150⟩ := zx (zu Z149 43 a0b a0ij 7 0)
            replace hP := zl_e hP hZ150
            have hZ150I := zH_0 hZ149I hZ150 (by decide) (Or.inl (by decide))
            have hZ150U : zU [a0b] Z Z150 := zU_u hZ149U hZ150 (Or.inr (List.Mem.head _))
            have hZ150K : zC [43] Z Z150 := zC_u hZ149K hZ150 (by decide)
            intro μ9 e9
            replace e9 := e9.trans (zm_wI (Z := Z149) (ν := ν) hZ150 (rfl : ((a0b : Nat) : Int) = a0b) ea0i (show ((7 : Nat) : Int) = 7 from rfl) (show (0 : Int32) = i3 0 from rfl))
            subst e9
            exact zlV hP ⟨hZ150I, hZ150K, hZ150U⟩
          · replace hP := zE_n hP h148
            have r151 := zH_f hZ 43 a0b a0ij 8
            have r152 := w3_r ((Z 43 a0b a0ij 8) + 1)
            obtain ⟨Z153, hZ153⟩ := zx (zu Z 43 a0b a0ij 8 (w3 ((Z 43 a0b a0ij 8) + 1)))
            replace hP := zl_e hP hZ153
            have hZ153I := zH_u hZ hZ153 (lo := -2147483648) (hi := 2147483647) (by decide) rfl (by omega) ⟨by decide, by decide⟩ (Or.inl (by decide)) rfl
            have hZ153U : zU [a0b] Z Z153 := zU_u zU_r hZ153 (Or.inr (List.Mem.head _))
            have hZ153K : zC [43] Z Z153 := zC_u zC_r hZ153 (by decide)
            intro μ9 e9
            replace e9 := e9.trans (zm_wI (Z := Z) (ν := ν) hZ153 (rfl : ((a0b : Nat) : Int) = a0b) ea0i (show ((8 : Nat) : Int) = 8 from rfl) (i3W (i3A (zm_rd (Z := Z) (ν := ν) (k := 43) (rfl : ((a0b : Nat) : Int) = a0b) ea0i (show ((8 : Nat) : Int) = 8 from rfl)) (show (1 : Int32) = i3 1 from rfl))))
            subst e9
            have r154 := zH_f hZ153I 43 a0b a0ij 9
            have r155 := w3_r ((Z153 43 a0b a0ij 9) + 1)
            obtain ⟨Z156, hZ156⟩ := zx (zu Z153 43 a0b a0ij 9 (w3 ((Z153 43 a0b a0ij 9) + 1)))
            replace hP := zl_e hP hZ156
            have hZ156I := zH_u hZ153I hZ156 (lo := -2147483648) (hi := 2147483647) (by decide) rfl (by omega) ⟨by decide, by decide⟩ (Or.inl (by decide)) rfl
            have hZ156U : zU [a0b] Z Z156 := zU_u hZ153U hZ156 (Or.inr (List.Mem.head _))
            have hZ156K : zC [43] Z Z156 := zC_u hZ153K hZ156 (by decide)
            intro μ9 e9
            replace e9 := e9.trans (zm_wI (Z := Z153) (ν := ν) hZ156 (rfl : ((a0b : Nat) : Int) = a0b) ea0i (show ((9 : Nat) : Int) = 9 from rfl) (i3W (i3A (zm_rd (Z := Z153) (ν := ν) (k := 43) (rfl : ((a0b : Nat) : Int) = a0b) ea0i (show ((9 : Nat) : Int) = 9 from rfl)) (show (1 : Int32) = i3 1 from rfl))))
            subst e9
            obtain ⟨Z157, hZ157⟩ := zx (zu Z156 43 a0b a0ij 5 (a1 + (Z 43 a0b a0ij 1)))
            replace hP := zl_e hP hZ157
            have hZ157I := zH_u hZ156I hZ157 (lo := 0) (hi := 40) (by decide) rfl (by omega) ⟨by decide, by decide⟩ (Or.inl (by decide)) rfl
            have hZ157U : zU [a0b] Z Z157 := zU_u hZ156U hZ157 (Or.inr (List.Mem.head _))
            have hZ157K : zC [43] Z Z157 := zC_u hZ156K hZ157 (by decide)
            intro μ9 e9
            replace e9 := e9.trans (zm_wI (Z := Z156) (ν := ν) hZ157 (rfl : ((a0b : Nat) : Int) = a0b) ea0i (show ((5 : Nat) : Int) = 5 from rfl) (i3A (rfl : i3 a1 = i3 a1) (zm_rd (Z := Z) (ν := ν) (k := 43) (rfl : ((a0b : Nat) : Int) = a0b) ea0i (show ((1 : Nat) : Int) = 1 from rfl))))
            subst e9
            obtain ⟨Z158, hZ158⟩ := zx (zu Z157 43 a0b a0ij 7 0)
            replace hP := zl_e hP hZ158
            have hZ158I := zH_0 hZ157I hZ158 (by decide) (Or.inl (by decide))
            have hZ158U : zU [a0b] Z Z158 := zU_u hZ157U hZ158 (Or.inr (List.Mem.head _))
            have hZ158K : zC [43] Z Z158 := zC_u hZ157K hZ158 (by decide)
            intro μ9 e9
            replace e9 := e9.trans (zm_wI (Z := Z157) (ν := ν) hZ158 (rfl : ((a0b : Nat) : Int) = a0b) ea0i (show ((7 : Nat) : Int) = 7 from rfl) (show (0 : Int32) = i3 0 from rfl))
            subst e9
            exact zlV hP ⟨hZ158I, hZ158K, hZ158U⟩
    · replace hP := zE_n hP h108
      have r159 := zH_k hZ 43 a0b a0ij 3 (lo := 0) (hi := 40) (by decide) rfl
      refine wz_br (i3Le (zm_rd (Z := Z) (ν := ν) (k := 43) (rfl : ((a0b : Nat) : Int) = a0b) ea0i (show ((3 : Nat) : Int) = 3 from rfl)) (i3A (zm_rd (Z := Z) (ν := ν) (k := 43) (rfl : ((a0b : Nat) : Int) = a0b) ea0i (show ((5 : Nat) : Int) = 5 from rfl)) (i3A (zm_rd (Z := Z) (ν := ν) (k := 43) (rfl : ((a0b : Nat) : Int) = a0b) ea0i (show ((2 : Nat) : Int) = 2 from rfl)) (zm_rd (Z := Z) (ν := ν) (k := 43) (rfl : ((a0b : Nat) : Int) = a0b) ea0i (show ((7 : Nat) : Int) = 7 from rfl)))) (by omega) (by omega) (by omega) (by omega)) (fun h160 => ?_) (fun h160 => ?_)
      · replace hP := zE_p hP h160
        have r161 := zH_k hZ 43 a0b a0ij 1 (lo := 0) (hi := 9) (by decide) rfl
        refine wz_br (i3Le (i3S (i3A (zm_rd (Z := Z) (ν := ν) (k := 43) (rfl : ((a0b : Nat) : Int) = a0b) ea0i (show ((5 : Nat) : Int) = 5 from rfl)) (i3A (zm_rd (Z := Z) (ν := ν) (k := 43) (rfl : ((a0b : Nat) : Int) = a0b) ea0i (show ((2 : Nat) : Int) = 2 from rfl)) (zm_rd (Z := Z) (ν := ν) (k := 43) (rfl : ((a0b : Nat) : Int) = a0b) ea0i (show ((7 : Nat) : Int) = 7 from rfl)))) (zm_rd (Z := Z) (ν := ν) (k := 43) (rfl : ((a0b : Nat) : Int) = a0b) ea0i (show ((1 : Nat) : Int) = 1 from rfl))) (zm_rd (Z := Z) (ν := ν) (k := 43) (rfl : ((a0b : Nat) : Int) = a0b) ea0i (show ((3 : Nat) : Int) = 3 from rfl)) (by omega) (by omega) (by omega) (by omega)) (fun h162 => ?_) (fun h162 => ?_)
        · replace hP := zE_p hP h162
          refine wz_br (i3E (zm_rd (Z := Z) (ν := ν) (k := 43) (rfl : ((a0b : Nat) : Int) = a0b) ea0i (show ((3 : Nat) : Int) = 3 from rfl)) (i3A (zm_rd (Z := Z) (ν := ν) (k := 43) (rfl : ((a0b : Nat) : Int) = a0b) ea0i (show ((5 : Nat) : Int) = 5 from rfl)) (i3A (zm_rd (Z := Z) (ν := ν) (k := 43) (rfl : ((a0b : Nat) : Int) = a0b) ea0i (show ((2 : Nat) : Int) = 2 from rfl)) (zm_rd (Z := Z) (ν := ν) (k := 43) (rfl : ((a0b : Nat) : Int) = a0b) ea0i (show ((7 : Nat) : Int) = 7 from rfl)))) (by omega) (by omega) (by omega) (by omega)) (fun h163 => ?_) (fun h163 => ?_)
          · replace hP := zE_p hP h163
            obtain ⟨Z164, hZ164⟩ := zx (zu Z 43 a0b a0ij 5 (Z 43 a0b a0ij 3))
            replace hP := zl_e hP hZ164
            have hZ164I := zH_u hZ hZ164 (lo := 0) (hi := 40) (by decide) rfl (by omega) ⟨by decide, by decide⟩ (Or.inl (by decide)) rfl
            have hZ164U : zU [a0b] Z Z164 := zU_u zU_r hZ164 (Or.inr (List.Mem.head _))
            have hZ164K : zC [43] Z Z164 := zC_u zC_r hZ164 (by decide)
            intro μ9 e9
            replace e9 := e9.trans (zm_wI (Z := Z) (ν := ν) hZ164 (rfl : ((a0b : Nat) : Int) = a0b) ea0i (show ((5 : Nat) : Int) = 5 from rfl) (zm_rd (Z := Z) (ν := ν) (k := 43) (rfl : ((a0b : Nat) : Int) = a0b) ea0i (show ((3 : Nat) : Int) = 3 from rfl)))
            subst e9
            obtain ⟨Z165, hZ165⟩ := zx (zu Z164 43 a0b a0ij 7 0)
            replace hP := zl_e hP hZ165
            have hZ165I := zH_0 hZ164I hZ165 (by decide) (Or.inl (by decide))
            have hZ165U : zU [a0b] Z Z165 := zU_u hZ164U hZ165 (Or.inr (List.Mem.head _))
            have hZ165K : zC [43] Z Z165 := zC_u hZ164K hZ165 (by decide)
            intro μ9 e9
            replace e9 := e9.trans (zm_wI (Z := Z164) (ν := ν) hZ165 (rfl : ((a0b : Nat) : Int) = a0b) ea0i (show ((7 : Nat) : Int) = 7 from rfl) (show (0 : Int32) = i3 0 from rfl))
            subst e9
            exact zlV hP ⟨hZ165I, hZ165K, hZ165U⟩
          · replace hP := zE_n hP h163
            have r166 := zH_f hZ 43 a0b a0ij 8
            have r167 := w3_r ((Z 43 a0b a0ij 8) + 1)
            obtain ⟨Z168, hZ168⟩ := zx (zu Z 43 a0b a0ij 8 (w3 ((Z 43 a0b a0ij 8) + 1)))
            replace hP := zl_e hP hZ168
            have hZ168I := zH_u hZ hZ168 (lo := -2147483648) (hi := 2147483647) (by decide) rfl (by omega) ⟨by decide, by decide⟩ (Or.inl (by decide)) rfl
            have hZ168U : zU [a0b] Z Z168 := zU_u zU_r hZ168 (Or.inr (List.Mem.head _))
            have hZ168K : zC [43] Z Z168 := zC_u zC_r hZ168 (by decide)
            intro μ9 e9
            replace e9 := e9.trans (zm_wI (Z := Z) (ν := ν) hZ168 (rfl : ((a0b : Nat) : Int) = a0b) ea0i (show ((8 : Nat) : Int) = 8 from rfl) (i3W (i3A (zm_rd (Z := Z) (ν := ν) (k := 43) (rfl : ((a0b : Nat) : Int) = a0b) ea0i (show ((8 : Nat) : Int) = 8 from rfl)) (show (1 : Int32) = i3 1 from rfl))))
            subst e9
            have r169 := zH_f hZ168I 43 a0b a0ij 9
            have r170 := w3_r ((Z168 43 a0b a0ij 9) + 1)
            obtain ⟨Z171, hZ171⟩ := zx (zu Z168 43 a0b a0ij 9 (w3 ((Z168 43 a0b a0ij 9) + 1)))
            replace hP := zl_e hP hZ171
            have hZ171I := zH_u hZ168I hZ171 (lo := -2147483648) (hi := 2147483647) (by decide) rfl (by omega) ⟨by decide, by decide⟩ (Or.inl (by decide)) rfl
            have hZ171U : zU [a0b] Z Z171 := zU_u hZ168U hZ171 (Or.inr (List.Mem.head _))
            have hZ171K : zC [43] Z Z171 := zC_u hZ168K hZ171 (by decide)
            intro μ9 e9
            replace e9 := e9.trans (zm_wI (Z := Z168) (ν := ν) hZ171 (rfl : ((a0b : Nat) : Int) = a0b) ea0i (show ((9 : Nat) : Int) = 9 from rfl) (i3W (i3A (zm_rd (Z := Z168) (ν := ν) (k := 43) (rfl : ((a0b : Nat) : Int) = a0b) ea0i (show ((9 : Nat) : Int) = 9 from rfl)) (show (1 : Int32) = i3 1 from rfl))))
            subst e9
            obtain ⟨Z172, hZ172⟩ := zx (zu Z171 43 a0b a0ij 5 (Z 43 a0b a0ij 3))
            replace hP := zl_e hP hZ172
            have hZ172I := zH_u hZ171I hZ172 (lo := 0) (hi := 40) (by decide) rfl (by omega) ⟨by decide, by decide⟩ (Or.inl (by decide)) rfl
            have hZ172U : zU [a0b] Z Z172 := zU_u hZ171U hZ172 (Or.inr (List.Mem.head _))
            have hZ172K : zC [43] Z Z172 := zC_u hZ171K hZ172 (by decide)
            intro μ9 e9
            replace e9 := e9.trans (zm_wI (Z := Z171) (ν := ν) hZ172 (rfl : ((a0b : Nat) : Int) = a0b) ea0i (show ((5 : Nat) : Int) = 5 from rfl) (zm_rd (Z := Z) (ν := ν) (k := 43) (rfl : ((a0b : Nat) : Int) = a0b) ea0i (show ((3 : Nat) : Int) = 3 from rfl)))
            subst e9
            obtain ⟨Z173, hZ173⟩ := zx (zu Z172 43 a0b a0ij 7 0)
            replace hP := zl_e hP hZ173
            have hZ173I := zH_0 hZ172I hZ173 (by decide) (Or.inl (by decide))
            have hZ173U : zU [a0b] Z Z173 := zU_u hZ172U hZ173 (Or.inr (List.Mem.head _))
            have hZ173K : zC [43] Z Z173 := zC_u hZ172K hZ173 (by decide)
            intro μ9 e9
            replace e9 := e9.trans (zm_wI (Z := Z172) (ν := ν) hZ173 (rfl : ((a0b : Nat) : Int) = a0b) ea0i (show ((7 : Nat) : Int) = 7 from rfl) (show (0 : Int32) = i3 0 from rfl))
            subst e9
            exact zlV hP ⟨hZ173I, hZ173K, hZ173U⟩
        · replace hP := zE_n hP h162
          refine wz_br (i3E (i3S (i3A (zm_rd (Z := Z) (ν := ν) (k := 43) (rfl : ((a0b : Nat) : Int) = a0b) ea0i (show ((5 : Nat) : Int) = 5 from rfl)) (i3A (zm_rd (Z := Z) (ν := ν) (k := 43) (rfl : ((a0b : Nat) : Int) = a0b) ea0i (show ((2 : Nat) : Int) = 2 from rfl)) (zm_rd (Z := Z) (ν := ν) (k := 43) (rfl : ((a0b : Nat) : Int) = a0b) ea0i (show ((7 : Nat) : Int) = 7 from rfl)))) (zm_rd (Z := Z) (ν := ν) (k := 43) (rfl : ((a0b : Nat) : Int) = a0b) ea0i (show ((1 : Nat) : Int) = 1 from rfl))) (i3A (zm_rd (Z := Z) (ν := ν) (k := 43) (rfl : ((a0b : Nat) : Int) = a0b) ea0i (show ((5 : Nat) : Int) = 5 from rfl)) (i3A (zm_rd (Z := Z) (ν := ν) (k := 43) (rfl : ((a0b : Nat) : Int) = a0b) ea0i (show ((2 : Nat) : Int) = 2 from rfl)) (zm_rd (Z := Z) (ν := ν) (k := 43) (rfl : ((a0b : Nat) : Int) = a0b) ea0i (show ((7 : Nat) : Int) = 7 from rfl)))) (by omega) (by omega) (by omega) (by omega)) (fun h174 => ?_) (fun h174 => ?_)
          · replace hP := zE_p hP h174
            obtain ⟨Z175, hZ175⟩ := zx (zu Z 43 a0b a0ij 5 (((Z 43 a0b a0ij 5) + ((Z 43 a0b a0ij 2) + (Z 43 a0b a0ij 7))) - (Z 43 a0b a0ij 1)))
            replace hP := zl_e hP hZ175
            have hZ175I := zH_u hZ hZ175 (lo := 0) (hi := 40) (by decide) rfl (by omega) ⟨by decide, by decide⟩ (Or.inl (by decide)) rfl
            have hZ175U : zU [a0b] Z Z175 := zU_u zU_r hZ175 (Or.inr (List.Mem.head _))
            have hZ175K : zC [43] Z Z175 := zC_u zC_r hZ175 (by decide)
            intro μ9 e9
            replace e9 := e9.trans (zm_wI (Z := Z) (ν := ν) hZ175 (rfl : ((a0b : Nat) : Int) = a0b) ea0i (show ((5 : Nat) : Int) = 5 from rfl) (i3S (i3A (zm_rd (Z := Z) (ν := ν) (k := 43) (rfl : ((a0b : Nat) : Int) = a0b) ea0i (show ((5 : Nat) : Int) = 5 from rfl)) (i3A (zm_rd (Z := Z) (ν := ν) (k := 43) (rfl : ((a0b : Nat) : Int) = a0b) ea0i (show ((2 : Nat) : Int) = 2 from rfl)) (zm_rd (Z := Z) (ν := ν) (k := 43) (rfl : ((a0b : Nat) : Int) = a0b) ea0i (show ((7 : Nat) : Int) = 7 from rfl)))) (zm_rd (Z := Z) (ν := ν) (k := 43) (rfl : ((a0b : Nat) : Int) = a0b) ea0i (show ((1 : Nat) : Int) = 1 from rfl))))
            subst e9
            obtain ⟨Z176, hZ176⟩ := zx (zu Z175 43 a0b a0ij 7 0)
            replace hP := zl_e hP hZ176
            have hZ176I := zH_0 hZ175I hZ176 (by decide) (Or.inl (by decide))
            have hZ176U : zU [a0b] Z Z176 := zU_u hZ175U hZ176 (Or.inr (List.Mem.head _))
            have hZ176K : zC [43] Z Z176 := zC_u hZ175K hZ176 (by decide)
            intro μ9 e9
            replace e9 := e9.trans (zm_wI (Z := Z175) (ν := ν) hZ176 (rfl : ((a0b : Nat) : Int) = a0b) ea0i (show ((7 : Nat) : Int) = 7 from rfl) (show (0 : Int32) = i3 0 from rfl))
            subst e9
            exact zlV hP ⟨hZ176I, hZ176K, hZ176U⟩
          · replace hP := zE_n hP h174
            have r177 := zH_f hZ 43 a0b a0ij 8
            have r178 := w3_r ((Z 43 a0b a0ij 8) + 1)
            obtain ⟨Z179, hZ179⟩ := zx (zu Z 43 a0b a0ij 8 (w3 ((Z 43 a0b a0ij 8) + 1)))
            replace hP := zl_e hP hZ179
            have hZ179I := zH_u hZ hZ179 (lo := -2147483648) (hi := 2147483647) (by decide) rfl (by omega) ⟨by decide, by decide⟩ (Or.inl (by decide)) rfl
            have hZ179U : zU [a0b] Z Z179 := zU_u zU_r hZ179 (Or.inr (List.Mem.head _))
            have hZ179K : zC [43] Z Z179 := zC_u zC_r hZ179 (by decide)
            intro μ9 e9
            replace e9 := e9.trans (zm_wI (Z := Z) (ν := ν) hZ179 (rfl : ((a0b : Nat) : Int) = a0b) ea0i (show ((8 : Nat) : Int) = 8 from rfl) (i3W (i3A (zm_rd (Z := Z) (ν := ν) (k := 43) (rfl : ((a0b : Nat) : Int) = a0b) ea0i (show ((8 : Nat) : Int) = 8 from rfl)) (show (1 : Int32) = i3 1 from rfl))))
            subst e9
            have r180 := zH_f hZ179I 43 a0b a0ij 9
            have r181 := w3_r ((Z179 43 a0b a0ij 9) + 1)
            obtain ⟨Z182, hZ182⟩ := zx (zu Z179 43 a0b a0ij 9 (w3 ((Z179 43 a0b a0ij 9) + 1)))
            replace hP := zl_e hP hZ182
            have hZ182I := zH_u hZ179I hZ182 (lo := -2147483648) (hi := 2147483647) (by decide) rfl (by omega) ⟨by decide, by decide⟩ (Or.inl (by decide)) rfl
            have hZ182U : zU [a0b] Z Z182 := zU_u hZ179U hZ182 (Or.inr (List.Mem.head _))
            have hZ182K : zC [43] Z Z182 := zC_u hZ179K hZ182 (by decide)
            intro μ9 e9
            replace e9 := e9.trans (zm_wI (Z := Z179) (ν := ν) hZ182 (rfl : ((a0b : Nat) : Int) = a0b) ea0i (show ((9 : Nat) : Int) = 9 from rfl) (i3W (i3A (zm_rd (Z := Z179) (ν := ν) (k := 43) (rfl : ((a0b : Nat) : Int) = a0b) ea0i (show ((9 : Nat) : Int) = 9 from rfl)) (show (1 : Int32) = i3 1 from rfl))))
            subst e9
            obtain ⟨Z183, hZ183⟩ := zx (zu Z182 43 a0b a0ij 5 (((Z 43 a0b a0ij 5) + ((Z 43 a0b a0ij 2) + (Z 43 a0b a0ij 7))) - (Z 43 a0b a0ij 1)))
            replace hP := zl_e hP hZ183
            have hZ183I := zH_u hZ182I hZ183 (lo := 0) (hi := 40) (by decide) rfl (by omega) ⟨by decide, by decide⟩ (Or.inl (by decide)) rfl
            have hZ183U : zU [a0b] Z Z183 := zU_u hZ182U hZ183 (Or.inr (List.Mem.head _))
            have hZ183K : zC [43] Z Z183 := zC_u hZ182K hZ183 (by decide)
            intro μ9 e9
            replace e9 := e9.trans (zm_wI (Z := Z182) (ν := ν) hZ183 (rfl : ((a0b : Nat) : Int) = a0b) ea0i (show ((5 : Nat) : Int) = 5 from rfl) (i3S (i3A (zm_rd (Z := Z) (ν := ν) (k := 43) (rfl : ((a0b : Nat) : Int) = a0b) ea0i (show ((5 : Nat) : Int) = 5 from rfl)) (i3A (zm_rd (Z := Z) (ν := ν) (k := 43) (rfl : ((a0b : Nat) : Int) = a0b) ea0i (show ((2 : Nat) : Int) = 2 from rfl)) (zm_rd (Z := Z) (ν := ν) (k := 43) (rfl : ((a0b : Nat) : Int) = a0b) ea0i (show ((7 : Nat) : Int) = 7 from rfl)))) (zm_rd (Z := Z) (ν := ν) (k := 43) (rfl : ((a0b : Nat) : Int) = a0b) ea0i (show ((1 : Nat) : Int) = 1 from rfl))))
            subst e9
            obtain ⟨Z184, hZ184⟩ := zx (zu Z183 43 a0b a0ij 7 0)
            replace hP := zl_e hP hZ184
            have hZ184I := zH_0 hZ183I hZ184 (by decide) (Or.inl (by decide))
            have hZ184U : zU [a0b] Z Z184 := zU_u hZ183U hZ184 (Or.inr (List.Mem.head _))
            have hZ184K : zC [43] Z Z184 := zC_u hZ183K hZ184 (by decide)
            intro μ9 e9
            replace e9 := e9.trans (zm_wI (Z := Z183) (ν := ν) hZ184 (rfl : ((a0b : Nat) : Int) = a0b) ea0i (show ((7 : Nat) : Int) = 7 from rfl) (show (0 : Int32) = i3 0 from rfl))
            subst e9
            exact zlV hP ⟨hZ184I, hZ184K, hZ184U⟩
      · replace hP := zE_n hP h160
        have r185 := zH_k hZ 43 a0b a0ij 1 (lo := 0) (hi := 9) (by decide) rfl
        refine wz_br (i3Le (zm_rd (Z := Z) (ν := ν) (k := 43) (rfl : ((a0b : Nat) : Int) = a0b) ea0i (show ((3 : Nat) : Int) = 3 from rfl)) (i3A (i3A (zm_rd (Z := Z) (ν := ν) (k := 43) (rfl : ((a0b : Nat) : Int) = a0b) ea0i (show ((5 : Nat) : Int) = 5 from rfl)) (i3A (zm_rd (Z := Z) (ν := ν) (k := 43) (rfl : ((a0b : Nat) : Int) = a0b) ea0i (show ((2 : Nat) : Int) = 2 from rfl)) (zm_rd (Z := Z) (ν := ν) (k := 43) (rfl : ((a0b : Nat) : Int) = a0b) ea0i (show ((7 : Nat) : Int) = 7 from rfl)))) (zm_rd (Z := Z) (ν := ν) (k := 43) (rfl : ((a0b : Nat) : Int) = a0b) ea0i (show ((1 : Nat) : Int) = 1 from rfl))) (by omega) (by omega) (by omega) (by omega)) (fun h186 => ?_) (fun h186 => ?_)
        · replace hP := zE_p hP h186
          refine wz_br (i3E (zm_rd (Z := Z) (ν := ν) (k := 43) (rfl : ((a0b : Nat) : Int) = a0b) ea0i (show ((3 : Nat) : Int) = 3 from rfl)) (i3A (zm_rd (Z := Z) (ν := ν) (k := 43) (rfl : ((a0b : Nat) : Int) = a0b) ea0i (show ((5 : Nat) : Int) = 5 from rfl)) (i3A (zm_rd (Z := Z) (ν := ν) (k := 43) (rfl : ((a0b : Nat) : Int) = a0b) ea0i (show ((2 : Nat) : Int) = 2 from rfl)) (zm_rd (Z := Z) (ν := ν) (k := 43) (rfl : ((a0b : Nat) : Int) = a0b) ea0i (show ((7 : Nat) : Int) = 7 from rfl)))) (by omega) (by omega) (by omega) (by omega)) (fun h187 => ?_) (fun h187 => ?_)
          · replace hP := zE_p hP h187
            obtain ⟨Z188, hZ188⟩ := zx (zu Z 43 a0b a0ij 5 (Z 43 a0b a0ij 3))
            replace hP := zl_e hP hZ188
            have hZ188I := zH_u hZ hZ188 (lo := 0) (hi := 40) (by decide) rfl (by omega) ⟨by decide, by decide⟩ (Or.inl (by decide)) rfl
            have hZ188U : zU [a0b] Z Z188 := zU_u zU_r hZ188 (Or.inr (List.Mem.head _))
            have hZ188K : zC [43] Z Z188 := zC_u zC_r hZ188 (by decide)
            intro μ9 e9
            replace e9 := e9.trans (zm_wI (Z := Z) (ν := ν) hZ188 (rfl : ((a0b : Nat) : Int) = a0b) ea0i (show ((5 : Nat) : Int) = 5 from rfl) (zm_rd (Z := Z) (ν := ν) (k := 43) (rfl : ((a0b : Nat) : Int) = a0b) ea0i (show ((3 : Nat) : Int) = 3 from rfl)))
            subst e9
            obtain ⟨Z189, hZ189⟩ := zx (zu Z188 43 a0b a0ij 7 0)
            replace hP := zl_e hP hZ189
            have hZ189I := zH_0 hZ188I hZ189 (by decide) (Or.inl (by decide))
            have hZ189U : zU [a0b] Z Z189 := zU_u hZ188U hZ189 (Or.inr (List.Mem.head _))
            have hZ189K : zC [43] Z Z189 := zC_u hZ188K hZ189 (by decide)
            intro μ9 e9
            replace e9 := e9.trans (zm_wI (Z := Z188) (ν := ν) hZ189 (rfl : ((a0b : Nat) : Int) = a0b) ea0i (show ((7 : Nat) : Int) = 7 from rfl) (show (0 : Int32) = i3 0 from rfl))
            subst e9
            exact zlV hP ⟨hZ189I, hZ189K, hZ189U⟩
          · replace hP := zE_n hP h187
            have r190 := zH_f hZ 43 a0b a0ij 8
            have r191 := w3_r ((Z 43 a0b a0ij 8) + 1)
            obtain ⟨Z192, hZ192⟩ := zx (zu Z 43 a0b a0ij 8 (w3 ((Z 43 a0b a0ij 8) + 1)))
            replace hP := zl_e hP hZ192
            have hZ192I := zH_u hZ hZ192 (lo := -2147483648) (hi := 2147483647) (by decide) rfl (by omega) ⟨by decide, by decide⟩ (Or.inl (by decide)) rfl
            have hZ192U : zU [a0b] Z Z192 := zU_u zU_r hZ192 (Or.inr (List.Mem.head _))
            have hZ192K : zC [43] Z Z192 := zC_u zC_r hZ192 (by decide)
            intro μ9 e9
            replace e9 := e9.trans (zm_wI (Z := Z) (ν := ν) hZ192 (rfl : ((a0b : Nat) : Int) = a0b) ea0i (show ((8 : Nat) : Int) = 8 from rfl) (i3W (i3A (zm_rd (Z := Z) (ν := ν) (k := 43) (rfl : ((a0b : Nat) : Int) = a0b) ea0i (show ((8 : Nat) : Int) = 8 from rfl)) (show (1 : Int32) = i3 1 from rfl))))
            subst e9
            have r193 := zH_f hZ192I 43 a0b a0ij 9
            have r194 := w3_r ((Z192 43 a0b a0ij 9) + 1)
            obtain ⟨Z195, hZ195⟩ := zx (zu Z192 43 a0b a0ij 9 (w3 ((Z192 43 a0b a0ij 9) + 1)))
            replace hP := zl_e hP hZ195
            have hZ195I := zH_u hZ192I hZ195 (lo := -2147483648) (hi := 2147483647) (by decide) rfl (by omega) ⟨by decide, by decide⟩ (Or.inl (by decide)) rfl
            have hZ195U : zU [a0b] Z Z195 := zU_u hZ192U hZ195 (Or.inr (List.Mem.head _))
            have hZ195K : zC [43] Z Z195 := zC_u hZ192K hZ195 (by decide)
            intro μ9 e9
            replace e9 := e9.trans (zm_wI (Z := Z192) (ν := ν) hZ195 (rfl : ((a0b : Nat) : Int) = a0b) ea0i (show ((9 : Nat) : Int) = 9 from rfl) (i3W (i3A (zm_rd (Z := Z192) (ν := ν) (k := 43) (rfl : ((a0b : Nat) : Int) = a0b) ea0i (show ((9 : Nat) : Int) = 9 from rfl)) (show (1 : Int32) = i3 1 from rfl))))
            subst e9
            obtain ⟨Z196, hZ196⟩ := zx (zu Z195 43 a0b a0ij 5 (Z 43 a0b a0ij 3))
            replace hP := zl_e hP hZ196
            have hZ196I := zH_u hZ195I hZ196 (lo := 0) (hi := 40) (by decide) rfl (by omega) ⟨by decide, by decide⟩ (Or.inl (by decide)) rfl
            have hZ196U : zU [a0b] Z Z196 := zU_u hZ195U hZ196 (Or.inr (List.Mem.head _))
            have hZ196K : zC [43] Z Z196 := zC_u hZ195K hZ196 (by decide)
            intro μ9 e9
            replace e9 := e9.trans (zm_wI (Z := Z195) (ν := ν) hZ196 (rfl : ((a0b : Nat) : Int) = a0b) ea0i (show ((5 : Nat) : Int) = 5 from rfl) (zm_rd (Z := Z) (ν := ν) (k := 43) (rfl : ((a0b : Nat) : Int) = a0b) ea0i (show ((3 : Nat) : Int) = 3 from rfl)))
            subst e9
            obtain ⟨Z197, hZ197⟩ := zx (zu Z196 43 a0b a0ij 7 0)
            replace hP := zl_e hP hZ197
            have hZ197I := zH_0 hZ196I hZ197 (by decide) (Or.inl (by decide))
            have hZ197U : zU [a0b] Z Z197 := zU_u hZ196U hZ197 (Or.inr (List.Mem.head _))
            have hZ197K : zC [43] Z Z197 := zC_u hZ196K hZ197 (by decide)
            intro μ9 e9
            replace e9 := e9.trans (zm_wI (Z := Z196) (ν := ν) hZ197 (rfl : ((a0b : Nat) : Int) = a0b) ea0i (show ((7 : Nat) : Int) = 7 from rfl) (show (0 : Int32) = i3 0 from rfl))
            subst e9
            exact zlV hP ⟨hZ197I, hZ197K, hZ197U⟩
        · replace hP := zE_n hP h186
          refine wz_br (i3E (i3A (i3A (zm_rd (Z := Z) (ν := ν) (k := 43) (rfl : ((a0b : Nat) : Int) = a0b) ea0i (show ((5 : Nat) : Int) = 5 from rfl)) (i3A (zm_rd (Z := Z) (ν := ν) (k := 43) (rfl : ((a0b : Nat) : Int) = a0b) ea0i (show ((2 : Nat) : Int) = 2 from rfl)) (zm_rd (Z := Z) (ν := ν) (k := 43) (rfl : ((a0b : Nat) : Int) = a0b) ea0i (show ((7 : Nat) : Int) = 7 from rfl)))) (zm_rd (Z := Z) (ν := ν) (k := 43) (rfl : ((a0b : Nat) : Int) = a0b) ea0i (show ((1 : Nat) : Int) = 1 from rfl))) (i3A (zm_rd (Z := Z) (ν := ν) (k := 43) (rfl : ((a0b : Nat) : Int) = a0b) ea0i (show ((5 : Nat) : Int) = 5 from rfl)) (i3A (zm_rd (Z := Z) (ν := ν) (k := 43) (rfl : ((a0b : Nat) : Int) = a0b) ea0i (show ((2 : Nat) : Int) = 2 from rfl)) (zm_rd (Z := Z) (ν := ν) (k := 43) (rfl : ((a0b : Nat) : Int) = a0b) ea0i (show ((7 : Nat) : Int) = 7 from rfl)))) (by omega) (by omega) (by omega) (by omega)) (fun h198 => ?_) (fun h198 => ?_)
          · replace hP := zE_p hP h198
            obtain ⟨Z199, hZ199⟩ := zx (zu Z 43 a0b a0ij 5 (((Z 43 a0b a0ij 5) + ((Z 43 a0b a0ij 2) + (Z 43 a0b a0ij 7))) + (Z 43 a0b a0ij 1)))
            replace hP := zl_e hP hZ199
            have hZ199I := zH_u hZ hZ199 (lo := 0) (hi := 40) (by decide) rfl (by omega) ⟨by decide, by decide⟩ (Or.inl (by decide)) rfl
            have hZ199U : zU [a0b] Z Z199 := zU_u zU_r hZ199 (Or.inr (List.Mem.head _))
            have hZ199K : zC [43] Z Z199 := zC_u zC_r hZ199 (by decide)
            intro μ9 e9
            replace e9 := e9.trans (zm_wI (Z := Z) (ν := ν) hZ199 (rfl : ((a0b : Nat) : Int) = a0b) ea0i (show ((5 : Nat) : Int) = 5 from rfl) (i3A (i3A (zm_rd (Z := Z) (ν := ν) (k := 43) (rfl : ((a0b : Nat) : Int) = a0b) ea0i (show ((5 : Nat) : Int) = 5 from rfl)) (i3A (zm_rd (Z := Z) (ν := ν) (k := 43) (rfl : ((a0b : Nat) : Int) = a0b) ea0i (show ((2 : Nat) : Int) = 2 from rfl)) (zm_rd (Z := Z) (ν := ν) (k := 43) (rfl : ((a0b : Nat) : Int) = a0b) ea0i (show ((7 : Nat) : Int) = 7 from rfl)))) (zm_rd (Z := Z) (ν := ν) (k := 43) (rfl : ((a0b : Nat) : Int) = a0b) ea0i (show ((1 : Nat) : Int) = 1 from rfl))))
            subst e9
            obtain ⟨Z200, hZ200⟩ := zx (zu Z199 43 a0b a0ij 7 0)
            replace hP := zl_e hP hZ200
            have hZ200I := zH_0 hZ199I hZ200 (by decide) (Or.inl (by decide))
            have hZ200U : zU [a0b] Z Z200 := zU_u hZ199U hZ200 (Or.inr (List.Mem.head _))
            have hZ200K : zC [43] Z Z200 := zC_u hZ199K hZ200 (by decide)
            intro μ9 e9
            replace e9 := e9.trans (zm_wI (Z := Z199) (ν := ν) hZ200 (rfl : ((a0b : Nat) : Int) = a0b) ea0i (show ((7 : Nat) : Int) = 7 from rfl) (show (0 : Int32) = i3 0 from rfl))
            subst e9
            exact zlV hP ⟨hZ200I, hZ200K, hZ200U⟩
          · replace hP := zE_n hP h198
            have r201 := zH_f hZ 43 a0b a0ij 8
            have r202 := w3_r ((Z 43 a0b a0ij 8) + 1)
            obtain ⟨Z203, hZ203⟩ := zx (zu Z 43 a0b a0ij 8 (w3 ((Z 43 a0b a0ij 8) + 1)))
            replace hP := zl_e hP hZ203
            have hZ203I := zH_u hZ hZ203 (lo := -2147483648) (hi := 2147483647) (by decide) rfl (by omega) ⟨by decide, by decide⟩ (Or.inl (by decide)) rfl
            have hZ203U : zU [a0b] Z Z203 := zU_u zU_r hZ203 (Or.inr (List.Mem.head _))
            have hZ203K : zC [43] Z Z203 := zC_u zC_r hZ203 (by decide)
            intro μ9 e9
            replace e9 := e9.trans (zm_wI (Z := Z) (ν := ν) hZ203 (rfl : ((a0b : Nat) : Int) = a0b) ea0i (show ((8 : Nat) : Int) = 8 from rfl) (i3W (i3A (zm_rd (Z := Z) (ν := ν) (k := 43) (rfl : ((a0b : Nat) : Int) = a0b) ea0i (show ((8 : Nat) : Int) = 8 from rfl)) (show (1 : Int32) = i3 1 from rfl))))
            subst e9
            have r204 := zH_f hZ203I 43 a0b a0ij 9
            have r205 := w3_r ((Z203 43 a0b a0ij 9) + 1)
            obtain ⟨Z206, hZ206⟩ := zx (zu Z203 43 a0b a0ij 9 (w3 ((Z203 43 a0b a0ij 9) + 1)))
            replace hP := zl_e hP hZ206
            have hZ206I := zH_u hZ203I hZ206 (lo := -2147483648) (hi := 2147483647) (by decide) rfl (by omega) ⟨by decide, by decide⟩ (Or.inl (by decide)) rfl
            have hZ206U : zU [a0b] Z Z206 := zU_u hZ203U hZ206 (Or.inr (List.Mem.head _))
            have hZ206K : zC [43] Z Z206 := zC_u hZ203K hZ206 (by decide)
            intro μ9 e9
            replace e9 := e9.trans (zm_wI (Z := Z203) (ν := ν) hZ206 (rfl : ((a0b : Nat) : Int) = a0b) ea0i (show ((9 : Nat) : Int) = 9 from rfl) (i3W (i3A (zm_rd (Z := Z203) (ν := ν) (k := 43) (rfl : ((a0b : Nat) : Int) = a0b) ea0i (show ((9 : Nat) : Int) = 9 from rfl)) (show (1 : Int32) = i3 1 from rfl))))
            subst e9
            obtain ⟨Z207, hZ207⟩ := zx (zu Z206 43 a0b a0ij 5 (((Z 43 a0b a0ij 5) + ((Z 43 a0b a0ij 2) + (Z 43 a0b a0ij 7))) + (Z 43 a0b a0ij 1)))
            replace hP := zl_e hP hZ207
            have hZ207I := zH_u hZ206I hZ207 (lo := 0) (hi := 40) (by decide) rfl (by omega) ⟨by decide, by decide⟩ (Or.inl (by decide)) rfl
            have hZ207U : zU [a0b] Z Z207 := zU_u hZ206U hZ207 (Or.inr (List.Mem.head _))
            have hZ207K : zC [43] Z Z207 := zC_u hZ206K hZ207 (by decide)
            intro μ9 e9
            replace e9 := e9.trans (zm_wI (Z := Z206) (ν := ν) hZ207 (rfl : ((a0b : Nat) : Int) = a0b) ea0i (show ((5 : Nat) : Int) = 5 from rfl) (i3A (i3A (zm_rd (Z := Z) (ν := ν) (k := 43) (rfl : ((a0b : Nat) : Int) = a0b) ea0i (show ((5 : Nat) : Int) = 5 from rfl)) (i3A (zm_rd (Z := Z) (ν := ν) (k := 43) (rfl : ((a0b : Nat) : Int) = a0b) ea0i (show ((2 : Nat) : Int) = 2 from rfl)) (zm_rd (Z := Z) (ν := ν) (k := 43) (rfl : ((a0b : Nat) : Int) = a0b) ea0i (show ((7 : Nat) : Int) = 7 from rfl)))) (zm_rd (Z := Z) (ν := ν) (k := 43) (rfl : ((a0b : Nat) : Int) = a0b) ea0i (show ((1 : Nat) : Int) = 1 from rfl))))
            subst e9
            obtain ⟨Z208, hZ208⟩ := zx (zu Z207 43 a0b a0ij 7 0)
            replace hP := zl_e hP hZ208
            have hZ208I := zH_0 hZ207I hZ208 (by decide) (Or.inl (by decide))
            have hZ208U : zU [a0b] Z Z208 := zU_u hZ207U hZ208 (Or.inr (List.Mem.head _))
            have hZ208K : zC [43] Z Z208 := zC_u hZ207K hZ208 (by decide)
            intro μ9 e9
            replace e9 := e9.trans (zm_wI (Z := Z207) (ν := ν) hZ208 (rfl : ((a0b : Nat) : Int) = a0b) ea0i (show ((7 : Nat) : Int) = 7 from rfl) (show (0 : Int32) = i3 0 from rfl))
            subst e9
            exact zlV hP ⟨hZ208I, hZ208K, hZ208U⟩
/- yX10_growOlder -/
def zl_171_1 (x0b : Int) (x1 : Int) : Nat → qz_Z → Int → qz_Z × Int
  | 0, Z, x2 => (Z, x2)
  | m + 1, Z, x2 => (if (Z 11 x0b 0 2) ≤ x2 then (Z, x2) else (zlet (zf_168 Z x0b x2 x1) (fun Z3 => zl_171_1 x0b x1 m Z3 (x2 + 1))))
theorem sl_171_1 {s : zSM} {Zs Z : qz_Z} {ν : qz_N} (hZ : zH s Z) (hM : s.2 + 0 ≤ 1000000000) (hK : zC [43] Zs Z) (x0b : Nat) {x1 : Int} (gx1 : 0 ≤ x1 ∧ x1 ≤ 40) {x2 : Int} (gx2 : 0 ≤ x2 ∧ x2 ≤ 6) (hU : zU [x0b] Zs Z) {k : wz_K} {R : wz_R} {L : qz_L} (hL : qz_fg [true, true, true, false, false, false, false, false] L = [some (.inr (.inr (some (10, x0b, 0)))), some (.inl (i3 x1)), some (.inl (i3 x2)), none, none, none, none, none]) {T : qz_Z × Int} (hP : zE T (zl_171_1 x0b x1 ((6 - x2).toNat + 1) Z x2)) (hk : ∀ (L9 : qz_L) (Z9 : qz_Z) (yx2 : Int), qz_fg [true, true, false, false, false, false, false, false] L9 = [some (.inr (.inr (some (10, x0b, 0)))), some (.inl (i3 x1)), none, none, none, none, none, none] → zH s Z9 → zC [43] Zs Z9 → zU [x0b] Zs Z9 → (0 ≤ yx2 ∧ yx2 ≤ 6) → zE T ((Z9, yx2)) → k 0 (L9, [], zm Z9 ν)) : wz_loop qb_171_1 65536 k R (L, [], zm Z ν) := by
  refine wz_lp sb_171_1 (fun m x => ∃ Z : qz_Z, ∃ x2 : Int, qz_fg [true, true, true, false, false, false, false, false] x.1 = [some (.inr (.inr (some (10, x0b, 0)))), some (.inl (i3 x1)), some (.inl (i3 x2)), none, none, none, none, none] ∧ x.2 = ([], zm Z ν) ∧ zH s Z ∧ zC [43] Zs Z ∧ zU [x0b] Zs Z ∧ m = (6 - x2).toNat ∧ (0 ≤ x2 ∧ x2 ≤ 6) ∧ zE T (zl_171_1 x0b x1 (m + 1) Z x2)) ?_ 65536 ((6 - x2).toNat) _ (by omega) ⟨Z, x2, hL, rfl, hZ, hK, hU, rfl, gx2, hP⟩
  clear hP gx2 hZ hK hU hL
  clear x2
  clear Z
  rintro m ⟨L, st, μ⟩ ⟨Z, x2, hL, hx, hZ, hK, hU, hm, gx2, hP⟩
  cases hx
  refine fb_171_1 x0b (i3 x1) (i3 x2) _ _ _ _ hL ?_
  have r1 := zH_k hZ 11 x0b 0 2 (lo := 0) (hi := 6) (by decide) rfl
  refine wz_br (i3Le (zm_rd (Z := Z) (ν := ν) (k := 11) (rfl : ((x0b : Nat) : Int) = x0b) (show ((0 : Nat) : Int) = 0 from rfl) (show ((2 : Nat) : Int) = 2 from rfl)) (rfl : i3 x2 = i3 x2) (by omega) (by omega) (by omega) (by omega)) (fun h2 => ?_) (fun h2 => ?_)
  · replace hP := zE_p hP h2
    exact hk _ _ _ (zconso rfl (zconso (zvo (rfl : i3 x1 = i3 x1)) (zconso rfl (zconso rfl (zconso rfl (zconso rfl (zconso rfl (zconso rfl rfl)))))))) hZ hK hU (by omega)  hP
  · replace hP := zE_n hP h2
    refine wz_i0 (i3O (n := 6) (rfl : i3 x2 = i3 x2) (by omega) (by omega) (by omega)) ?_
    obtain ⟨Z3, hZ3, c9, hZ3I, kZ3, jZ3⟩ := sp_168 (ν := ν) hZ x0b _ (i3I (y := x2) (rfl : i3 x2 = i3 x2) (by omega) (by omega) (by omega)) (by omega) (a1 := x1) (by omega) (zbh (c := 0) (k := 0) hM (Nat.le_of_ble_eq_true rfl))
    have hZ3U : zU [x0b] Zs Z3 := zU_t hU jZ3 (zU_b1 (List.Mem.head _) zU_b0)
    have hZ3K : zC [43] Zs Z3 := zC_t hK kZ3 (by decide)
    replace hP := zl_e hP hZ3
    refine wz_cV_of (zas (zcons rfl (zcons (zvi (rfl : i3 x1 = i3 x1)) rfl)) c9) ?_
    clear c9
    obtain ⟨m2, rfl⟩ : ∃ m2, m = m2 + 1 := ⟨m - 1, by omega⟩
    exact wz_k1 ⟨m2, by omega, Z3, (x2 + 1), (zconso rfl (zconso (zvo (rfl : i3 x1 = i3 x1)) (zconso (zvo (i3A (rfl : i3 x2 = i3 x2) (show (1 : Int32) = i3 1 from rfl))) (zconso rfl (zconso rfl (zconso rfl (zconso rfl (zconso rfl rfl)))))))), rfl, hZ3I, hZ3K, hZ3U, by omega, by omega,  hP⟩
/- yX10_growOlder -/
def zl_171_2 (x0b : Int) (x1 : Int) : Nat → qz_Z → Int → qz_Z × Int
  | 0, Z, x2 => (Z, x2)
  | m + 1, Z, x2 => (if (Z 11 x0b 0 3) ≤ x2 then (Z, x2) else (if (Z 44 x0b x2 12) = (-1) then zl_171_2 x0b x1 m Z (x2 + 1) else (if (Z 44 x0b x2 12) ≠ 6 then (if (Z 43 x0b (Z 44 x0b x2 12) 4) ≠ 1 then (zlet (zu Z 44 x0b x2 7 (min ((Z 44 x0b x2 7) + (((Z 41 x0b (Z 44 x0b x2 1) 0) * (max 0 ((Z 43 x0b (Z 44 x0b x2 12) 5) - (Z 41 x0b (Z 44 x0b x2 1) 1)))) / 8)) 2000)) (fun Z14 => (if (Z14 41 x0b (Z 44 x0b x2 1) 2) ≤ (Z 43 x0b (Z 44 x0b x2 12) 5) then (zlet (zu Z14 44 x0b x2 8 (Z14 44 x0b x2 8)) (fun Z18 => zl_171_2 x0b x1 m Z18 (x2 + 1))) else (zlet (zu Z14 44 x0b x2 8 (min ((Z14 44 x0b x2 8) + 1) 999)) (fun Z20 => zl_171_2 x0b x1 m Z20 (x2 + 1)))))) else (zlet (zu Z 44 x0b x2 7 (min ((Z 44 x0b x2 7) + (2 * (((Z 41 x0b (Z 44 x0b x2 1) 0) * (max 0 ((Z 43 x0b (Z 44 x0b x2 12) 5) - (Z 41 x0b (Z 44 x0b x2 1) 1)))) / 8))) 2000)) (fun Z26 => (if (Z26 41 x0b (Z 44 x0b x2 1) 2) ≤ (Z 43 x0b (Z 44 x0b x2 12) 5) then (zlet (zu Z26 44 x0b x2 8 (Z26 44 x0b x2 8)) (fun Z30 => zl_171_2 x0b x1 m Z30 (x2 + 1))) else (zlet (zu Z26 44 x0b x2 8 (min ((Z26 44 x0b x2 8) + 1) 999)) (fun Z32 => zl_171_2 x0b x1 m Z32 (x2 + 1))))))) else (zlet (zu Z 44 x0b x2 7 (min ((Z 44 x0b x2 7) + (((Z 41 x0b (Z 44 x0b x2 1) 0) * (max 0 (x1 - (Z 41 x0b (Z 44 x0b x2 1) 1)))) / 8)) 2000)) (fun Z37 => (if (Z37 41 x0b (Z 44 x0b x2 1) 2) ≤ x1 then (zlet (zu Z37 44 x0b x2 8 (Z37 44 x0b x2 8)) (fun Z41 => zl_171_2 x0b x1 m Z41 (x2 + 1))) else (zlet (zu Z37 44 x0b x2 8 (min ((Z37 44 x0b x2 8) + 1) 999)) (fun Z43 => zl_171_2 x0b x1 m Z43 (x2 + 1)))))))))
theorem sl_171_2 {s : zSM} {Zs Z : qz_Z} {ν : qz_N} (hZ : zH s Z) (hM : s.2 + 0 ≤ 1000000000) (hK : zC [44] Zs Z) (x0b : Nat) {x1 : Int} (gx1 : 0 ≤ x1 ∧ x1 ≤ 40) {x2 : Int} (gx2 : 0 ≤ x2 ∧ x2 ≤ 48) (hU : zU [x0b] Zs Z) {k : wz_K} {R : wz_R} {L : qz_L} (hL : qz_fg [true, true, true, false, false, false, false, false] L = [some (.inr (.inr (some (10, x0b, 0)))), some (.inl (i3 x1)), some (.inl (i3 x2)), none, none, none, none, none]) {T : qz_Z × Int} (hP : zE T (zl_171_2 x0b x1 ((48 - x2).toNat + 1) Z x2)) (hk : ∀ (L9 : qz_L) (Z9 : qz_Z) (yx2 : Int), qz_fg [true, false, false, false, false, false, false, false] L9 = [some (.inr (.inr (some (10, x0b, 0)))), none, none, none, none, none, none, none] → zH s Z9 → zC [44] Zs Z9 → zU [x0b] Zs Z9 → (0 ≤ yx2 ∧ yx2 ≤ 48) → zE T ((Z9, yx2)) → k 0 (L9, [], zm Z9 ν)) : wz_loop qb_171_2 65536 k R (L, [], zm Z ν) := by
  refine wz_lp sb_171_2 (fun m x => ∃ Z : qz_Z, ∃ x2 : Int, qz_fg [true, true, true, false, false, false, false, false] x.1 = [some (.inr (.inr (some (10, x0b, 0)))), some (.inl (i3 x1)), some (.inl (i3 x2)), none, none, none, none, none] ∧ x.2 = ([], zm Z ν) ∧ zH s Z ∧ zC [44] Zs Z ∧ zU [x0b] Zs Z ∧ m = (48 - x2).toNat ∧ (0 ≤ x2 ∧ x2 ≤ 48) ∧ zE T (zl_171_2 x0b x1 (m + 1) Z x2)) ?_ 65536 ((48 - x2).toNat) _ (by omega) ⟨Z, x2, hL, rfl, hZ, hK, hU, rfl, gx2, hP⟩
  clear hP gx2 hZ hK hU hL
  clear x2
  clear Z
  rintro m ⟨L, st, μ⟩ ⟨Z, x2, hL, hx, hZ, hK, hU, hm, gx2, hP⟩
  cases hx
  refine fb_171_2 x0b (i3 x1) (i3 x2) _ _ _ _ hL ?_
  have r1 := zH_k hZ 11 x0b 0 3 (lo := 0) (hi := 48) (by decide) rfl
  refine wz_br (i3Le (zm_rd (Z := Z) (ν := ν) (k := 11) (rfl : ((x0b : Nat) : Int) = x0b) (show ((0 : Nat) : Int) = 0 from rfl) (show ((3 : Nat) : Int) = 3 from rfl)) (rfl : i3 x2 = i3 x2) (by omega) (by omega) (by omega) (by omega)) (fun h2 => ?_) (fun h2 => ?_)
  · replace hP := zE_p hP h2
    exact hk _ _ _ (zconso rfl (zconso rfl (zconso rfl (zconso rfl (zconso rfl (zconso rfl (zconso rfl (zconso rfl rfl)))))))) hZ hK hU (by omega)  hP
  · replace hP := zE_n hP h2
    refine wz_i0 (i3O (n := 48) (rfl : i3 x2 = i3 x2) (by omega) (by omega) (by omega)) ?_
    have r3 := zH_k hZ 44 x0b x2 12 (lo := -1) (hi := 6) (by decide) rfl
    refine wz_br (i3E (zm_rd (Z := Z) (ν := ν) (k := 44) (rfl : ((x0b : Nat) : Int) = x0b) (i3I (y := x2) (rfl : i3 x2 = i3 x2) (by omega) (by omega) (by omega)) (show ((12 : Nat) : Int) = 12 from rfl)) (show (-1 : Int32) = i3 (-1) from rfl) (by omega) (by omega) (by omega) (by omega)) (fun h4 => ?_) (fun h4 => ?_)
    · replace hP := zE_p hP h4
      obtain ⟨m2, rfl⟩ : ∃ m2, m = m2 + 1 := ⟨m - 1, by omega⟩
      exact wz_k1 ⟨m2, by omega, Z, (x2 + 1), (zconso rfl (zconso (zvo (rfl : i3 x1 = i3 x1)) (zconso (zvo (i3A (rfl : i3 x2 = i3 x2) (show (1 : Int32) = i3 1 from rfl))) (zconso rfl (zconso rfl (zconso rfl (zconso rfl (zconso rfl rfl)))))))), rfl, hZ, hK, hU, by omega, by omega,  hP⟩
    · replace hP := zE_n hP h4
      have r5 := zH_k hZ 44 x0b x2 1 (lo := 0) (hi := 4) (by decide) rfl
      refine wz_i0 (i3O (n := 5) (zm_rd (Z := Z) (ν := ν) (k := 44) (rfl : ((x0b : Nat) : Int) = x0b) (i3I (y := x2) (rfl : i3 x2 = i3 x2) (by omega) (by omega) (by omega)) (show ((1 : Nat) : Int) = 1 from rfl)) (by omega) (by omega) (by omega)) ?_
      refine wz_br (i3NE (zm_rd (Z := Z) (ν := ν) (k := 44) (rfl : ((x0b : Nat) : Int) = x0b) (i3I (y := x2) (rfl : i3 x2 = i3 x2) (by omega) (by omega) (by omega)) (show ((12 : Nat) : Int) = 12 from rfl)) (show (6 : Int32) = i3 6 from rfl) (by omega) (by omega) (by omega) (by omega)) (fun h6 => ?_) (fun h6 => ?_)
      · replace hP := zE_p hP h6
        refine wz_i0 (i3O (n := 6) (zm_rd (Z := Z) (ν := ν) (k := 44) (rfl : ((x0b : Nat) : Int) = x0b) (i3I (y := x2) (rfl : i3 x2 = i3 x2) (by omega) (by omega) (by omega)) (show ((12 : Nat) : Int) = 12 from rfl)) (by omega) (by omega) (by omega)) ?_
        refine wz_i0 (Eq.trans (i3E (zm_rd (Z := Z) (ν := ν) (k := 44) (rfl : ((x0b : Nat) : Int) = x0b) (i3I (y := x2) (rfl : i3 x2 = i3 x2) (by omega) (by omega) (by omega)) (show ((12 : Nat) : Int) = 12 from rfl)) (show (6 : Int32) = i3 6 from rfl) (by omega) (by omega) (by omega) (by omega)) (decide_eq_false (by omega))) ?_
        refine wz_i0 (i3O (n := 6) (zm_rd (Z := Z) (ν := ν) (k := 44) (rfl : ((x0b : Nat) : Int) = x0b) (i3I (y := x2) (rfl : i3 x2 = i3 x2) (by omega) (by omega) (by omega)) (show ((12 : Nat) : Int) = 12 from rfl)) (by omega) (by omega) (by omega)) ?_
        have r7 := zH_k hZ 43 x0b (Z 44 x0b x2 12) 4 (lo := 0) (hi := 1) (by decide) rfl
        refine wz_br (i3NE (zm_rd (Z := Z) (ν := ν) (k := 43) (rfl : ((x0b : Nat) : Int) = x0b) (i3I (y := (Z 44 x0b x2 12)) (zm_rd (Z := Z) (ν := ν) (k := 44) (rfl : ((x0b : Nat) : Int) = x0b) (i3I (y := x2) (rfl : i3 x2 = i3 x2) (by omega) (by omega) (by omega)) (show ((12 : Nat) : Int) = 12 from rfl)) (by omega) (by omega) (by omega)) (show ((4 : Nat) : Int) = 4 from rfl)) (show (1 : Int32) = i3 1 from rfl) (by omega) (by omega) (by omega) (by omega)) (fun h8 => ?_) (fun h8 => ?_)
        · replace hP := zE_p hP h8
          have r9 := zH_k hZ 44 x0b x2 7 (lo := 0) (hi := 2000) (by decide) rfl
          have r10 := zH_k hZ 41 x0b (Z 44 x0b x2 1) 0 (lo := 0) (hi := 9) (by decide) rfl
          have r11 := zH_k hZ 43 x0b (Z 44 x0b x2 12) 5 (lo := 0) (hi := 40) (by decide) rfl
          have r12 := zH_k hZ 41 x0b (Z 44 x0b x2 1) 1 (lo := 0) (hi := 12) (by decide) rfl
          have r13 := z_mul (x := (Z 41 x0b (Z 44 x0b x2 1) 0)) (y := (max 0 ((Z 43 x0b (Z 44 x0b x2 12) 5) - (Z 41 x0b (Z 44 x0b x2 1) 1)))) (a := 9) (b := 40) (by omega) (by omega) (by omega) (by omega)
          obtain ⟨Z14, hZ14⟩ := zx (zu Z 44 x0b x2 7 (min ((Z 44 x0b x2 7) + (((Z 41 x0b (Z 44 x0b x2 1) 0) * (max 0 ((Z 43 x0b (Z 44 x0b x2 12) 5) - (Z 41 x0b (Z 44 x0b x2 1) 1)))) / 8)) 2000))
          replace hP := zl_e hP hZ14
          have hZ14I := zH_u hZ hZ14 (lo := 0) (hi := 2000) (by decide) rfl (by omega) ⟨by decide, by decide⟩ (Or.inl (by decide)) rfl
          have hZ14U : zU [x0b] Zs Z14 := zU_u hU hZ14 (Or.inr (List.Mem.head _))
          have hZ14K : zC [44] Zs Z14 := zC_u hK hZ14 (by decide)
          intro μ9 e9
          replace e9 := e9.trans (zm_wI (Z := Z) (ν := ν) hZ14 (rfl : ((x0b : Nat) : Int) = x0b) (i3I (y := x2) (rfl : i3 x2 = i3 x2) (by omega) (by omega) (by omega)) (show ((7 : Nat) : Int) = 7 from rfl) (i3Mn (i3A (zm_rd (Z := Z) (ν := ν) (k := 44) (rfl : ((x0b : Nat) : Int) = x0b) (i3I (y := x2) (rfl : i3 x2 = i3 x2) (by omega) (by omega) (by omega)) (show ((7 : Nat) : Int) = 7 from rfl)) (i3D (i3M (zm_rd (Z := Z) (ν := ν) (k := 41) (rfl : ((x0b : Nat) : Int) = x0b) (i3I (y := (Z 44 x0b x2 1)) (zm_rd (Z := Z) (ν := ν) (k := 44) (rfl : ((x0b : Nat) : Int) = x0b) (i3I (y := x2) (rfl : i3 x2 = i3 x2) (by omega) (by omega) (by omega)) (show ((1 : Nat) : Int) = 1 from rfl)) (by omega) (by omega) (by omega)) (show ((0 : Nat) : Int) = 0 from rfl)) (i3Mx (show (0 : Int32) = i3 0 from rfl) (i3S (zm_rd (Z := Z) (ν := ν) (k := 43) (rfl : ((x0b : Nat) : Int) = x0b) (i3I (y := (Z 44 x0b x2 12)) (zm_rd (Z := Z) (ν := ν) (k := 44) (rfl : ((x0b : Nat) : Int) = x0b) (i3I (y := x2) (rfl : i3 x2 = i3 x2) (by omega) (by omega) (by omega)) (show ((12 : Nat) : Int) = 12 from rfl)) (by omega) (by omega) (by omega)) (show ((5 : Nat) : Int) = 5 from rfl)) (zm_rd (Z := Z) (ν := ν) (k := 41) (rfl : ((x0b : Nat) : Int) = x0b) (i3I (y := (Z 44 x0b x2 1)) (zm_rd (Z := Z) (ν := ν) (k := 44) (rfl : ((x0b : Nat) : Int) = x0b) (i3I (y := x2) (rfl : i3 x2 = i3 x2) (by omega) (by omega) (by omega)) (show ((1 : Nat) : Int) = 1 from rfl)) (by omega) (by omega) (by omega)) (show ((1 : Nat) : Int) = 1 from rfl))) (by omega) (by omega) (by omega) (by omega))) (show (8 : Int32) = i3 8 from rfl) (by omega) (by omega) (by omega) (by omega))) (show (2000 : Int32) = i3 2000 from rfl) (by omega) (by omega) (by omega) (by omega)))
          subst e9
          have r15 := zH_k hZ14I 41 x0b (Z 44 x0b x2 1) 2 (lo := 0) (hi := 12) (by decide) rfl
          refine wz_br (i3Le (zm_rd (Z := Z14) (ν := ν) (k := 41) (rfl : ((x0b : Nat) : Int) = x0b) (i3I (y := (Z 44 x0b x2 1)) (zm_rd (Z := Z) (ν := ν) (k := 44) (rfl : ((x0b : Nat) : Int) = x0b) (i3I (y := x2) (rfl : i3 x2 = i3 x2) (by omega) (by omega) (by omega)) (show ((1 : Nat) : Int) = 1 from rfl)) (by omega) (by omega) (by omega)) (show ((2 : Nat) : Int) = 2 from rfl)) (zm_rd (Z := Z) (ν := ν) (k := 43) (rfl : ((x0b : Nat) : Int) = x0b) (i3I (y := (Z 44 x0b x2 12)) (zm_rd (Z := Z) (ν := ν) (k := 44) (rfl : ((x0b : Nat) : Int) = x0b) (i3I (y := x2) (rfl : i3 x2 = i3 x2) (by omega) (by omega) (by omega)) (show ((12 : Nat) : Int) = 12 from rfl)) (by omega) (by omega) (by omega)) (show ((5 : Nat) : Int) = 5 from rfl)) (by omega) (by omega) (by omega) (by omega)) (fun h16 => ?_) (fun h16 => ?_)
          · replace hP := zE_p hP h16
            have r17 := zH_k hZ14I 44 x0b x2 8 (lo := 0) (hi := 999) (by decide) rfl
            obtain ⟨Z18, hZ18⟩ := zx (zu Z14 44 x0b x2 8 (Z14 44 x0b x2 8))
            replace hP := zl_e hP hZ18
            have hZ18I := zH_u hZ14I hZ18 (lo := 0) (hi := 999) (by decide) rfl (by omega) ⟨by decide, by decide⟩ (Or.inl (by decide)) rfl
            have hZ18U : zU [x0b] Zs Z18 := zU_u hZ14U hZ18 (Or.inr (List.Mem.head _))
            have hZ18K : zC [44] Zs Z18 := zC_u hZ14K hZ18 (by decide)
            intro μ9 e9
            replace e9 := e9.trans (zm_wI (Z := Z14) (ν := ν) hZ18 (rfl : ((x0b : Nat) : Int) = x0b) (i3I (y := x2) (rfl : i3 x2 = i3 x2) (by omega) (by omega) (by omega)) (show ((8 : Nat) : Int) = 8 from rfl) (zm_rd (Z := Z14) (ν := ν) (k := 44) (rfl : ((x0b : Nat) : Int) = x0b) (i3I (y := x2) (rfl : i3 x2 = i3 x2) (by omega) (by omega) (by omega)) (show ((8 : Nat) : Int) = 8 from rfl)))
            subst e9
            obtain ⟨m2, rfl⟩ : ∃ m2, m = m2 + 1 := ⟨m - 1, by omega⟩
            exact wz_k1 ⟨m2, by omega, Z18, (x2 + 1), (zconso rfl (zconso (zvo (rfl : i3 x1 = i3 x1)) (zconso (zvo (i3A (rfl : i3 x2 = i3 x2) (show (1 : Int32) = i3 1 from rfl))) (zconso rfl (zconso rfl (zconso rfl (zconso rfl (zconso rfl rfl)))))))), rfl, hZ18I, hZ18K, hZ18U, by omega, by omega,  hP⟩
          · replace hP := zE_n hP h16
            have r19 := zH_k hZ14I 44 x0b x2 8 (lo := 0) (hi := 999) (by decide) rfl
            obtain ⟨Z20, hZ20⟩ := zx (zu Z14 44 x0b x2 8 (min ((Z14 44 x0b x2 8) + 1) 999))
            replace hP := zl_e hP hZ20
            have hZ20I := zH_u hZ14I hZ20 (lo := 0) (hi := 999) (by decide) rfl (by omega) ⟨by decide, by decide⟩ (Or.inl (by decide)) rfl
            have hZ20U : zU [x0b] Zs Z20 := zU_u hZ14U hZ20 (Or.inr (List.Mem.head _))
            have hZ20K : zC [44] Zs Z20 := zC_u hZ14K hZ20 (by decide)
            intro μ9 e9
            replace e9 := e9.trans (zm_wI (Z := Z14) (ν := ν) hZ20 (rfl : ((x0b : Nat) : Int) = x0b) (i3I (y := x2) (rfl : i3 x2 = i3 x2) (by omega) (by omega) (by omega)) (show ((8 : Nat) : Int) = 8 from rfl) (i3Mn (i3A (zm_rd (Z := Z14) (ν := ν) (k := 44) (rfl : ((x0b : Nat) : Int) = x0b) (i3I (y := x2) (rfl : i3 x2 = i3 x2) (by omega) (by omega) (by omega)) (show ((8 : Nat) : Int) = 8 from rfl)) (show (1 : Int32) = i3 1 from rfl)) (show (999 : Int32) = i3 999 from rfl) (by omega) (by omega) (by omega) (by omega)))
            subst e9
            obtain ⟨m2, rfl⟩ : ∃ m2, m = m2 + 1 := ⟨m - 1, by omega⟩
            exact wz_k1 ⟨m2, by omega, Z20, (x2 + 1), (zconso rfl (zconso (zvo (rfl : i3 x1 = i3 x1)) (zconso (zvo (i3A (rfl : i3 x2 = i3 x2) (show (1 : Int32) = i3 1 from rfl))) (zconso rfl (zconso rfl (zconso rfl (zconso rfl (zconso rfl rfl)))))))), rfl, hZ20I, hZ20K, hZ20U, by omega, by omega,  hP⟩
        · replace hP := zE_n hP h8
          have r21 := zH_k hZ 44 x0b x2 7 (lo := 0) (hi := 2000) (by decide) rfl
          have r22 := zH_k hZ 41 x0b (Z 44 x0b x2 1) 0 (lo := 0) (hi := 9) (by decide) rfl
          have r23 := zH_k hZ 43 x0b (Z 44 x0b x2 12) 5 (lo := 0) (hi := 40) (by decide) rfl
          have r24 := zH_k hZ 41 x0b (Z 44 x0b x2 1) 1 (lo := 0) (hi := 12) (by decide) rfl
          have r25 := z_mul (x := (Z 41 x0b (Z 44 x0b x2 1) 0)) (y := (max 0 ((Z 43 x0b (Z 44 x0b x2 12) 5) - (Z 41 x0b (Z 44 x0b x2 1) 1)))) (a := 9) (b := 40) (by omega) (by omega) (by omega) (by omega)
          obtain ⟨Z26, hZ26⟩ := zx (zu Z 44 x0b x2 7 (min ((Z 44 x0b x2 7) + (2 * (((Z 41 x0b (Z 44 x0b x2 1) 0) * (max 0 ((Z 43 x0b (Z 44 x0b x2 12) 5) - (Z 41 x0b (Z 44 x0b x2 1) 1)))) / 8))) 2000))
          replace hP := zl_e hP hZ26
          have hZ26I := zH_u hZ hZ26 (lo := 0) (hi := 2000) (by decide) rfl (by omega) ⟨by decide, by decide⟩ (Or.inl (by decide)) rfl
          have hZ26U : zU [x0b] Zs Z26 := zU_u hU hZ26 (Or.inr (List.Mem.head _))
          have hZ26K : zC [44] Zs Z26 := zC_u hK hZ26 (by decide)
          intro μ9 e9
          replace e9 := e9.trans (zm_wI (Z := Z) (ν := ν) hZ26 (rfl : ((x0b : Nat) : Int) = x0b) (i3I (y := x2) (rfl : i3 x2 = i3 x2) (by omega) (by omega) (by omega)) (show ((7 : Nat) : Int) = 7 from rfl) (i3Mn (i3A (zm_rd (Z := Z) (ν := ν) (k := 44) (rfl : ((x0b : Nat) : Int) = x0b) (i3I (y := x2) (rfl : i3 x2 = i3 x2) (by omega) (by omega) (by omega)) (show ((7 : Nat) : Int) = 7 from rfl)) (i3M (show (2 : Int32) = i3 2 from rfl) (i3D (i3M (zm_rd (Z := Z) (ν := ν) (k := 41) (rfl : ((x0b : Nat) : Int) = x0b) (i3I (y := (Z 44 x0b x2 1)) (zm_rd (Z := Z) (ν := ν) (k := 44) (rfl : ((x0b : Nat) : Int) = x0b) (i3I (y := x2) (rfl : i3 x2 = i3 x2) (by omega) (by omega) (by omega)) (show ((1 : Nat) : Int) = 1 from rfl)) (by omega) (by omega) (by omega)) (show ((0 : Nat) : Int) = 0 from rfl)) (i3Mx (show (0 : Int32) = i3 0 from rfl) (i3S (zm_rd (Z := Z) (ν := ν) (k := 43) (rfl : ((x0b : Nat) : Int) = x0b) (i3I (y := (Z 44 x0b x2 12)) (zm_rd (Z := Z) (ν := ν) (k := 44) (rfl : ((x0b : Nat) : Int) = x0b) (i3I (y := x2) (rfl : i3 x2 = i3 x2) (by omega) (by omega) (by omega)) (show ((12 : Nat) : Int) = 12 from rfl)) (by omega) (by omega) (by omega)) (show ((5 : Nat) : Int) = 5 from rfl)) (zm_rd (Z := Z) (ν := ν) (k := 41) (rfl : ((x0b : Nat) : Int) = x0b) (i3I (y := (Z 44 x0b x2 1)) (zm_rd (Z := Z) (ν := ν) (k := 44) (rfl : ((x0b : Nat) : Int) = x0b) (i3I (y := x2) (rfl : i3 x2 = i3 x2) (by omega) (by omega) (by omega)) (show ((1 : Nat) : Int) = 1 from rfl)) (by omega) (by omega) (by omega)) (show ((1 : Nat) : Int) = 1 from rfl))) (by omega) (by omega) (by omega) (by omega))) (show (8 : Int32) = i3 8 from rfl) (by omega) (by omega) (by omega) (by omega)))) (show (2000 : Int32) = i3 2000 from rfl) (by omega) (by omega) (by omega) (by omega)))
          subst e9
          have r27 := zH_k hZ26I 41 x0b (Z 44 x0b x2 1) 2 (lo := 0) (hi := 12) (by decide) rfl
          refine wz_br (i3Le (zm_rd (Z := Z26) (ν := ν) (k := 41) (rfl : ((x0b : Nat) : Int) = x0b) (i3I (y := (Z 44 x0b x2 1)) (zm_rd (Z := Z) (ν := ν) (k := 44) (rfl : ((x0b : Nat) : Int) = x0b) (i3I (y := x2) (rfl : i3 x2 = i3 x2) (by omega) (by omega) (by omega)) (show ((1 : Nat) : Int) = 1 from rfl)) (by omega) (by omega) (by omega)) (show ((2 : Nat) : Int) = 2 from rfl)) (zm_rd (Z := Z) (ν := ν) (k := 43) (rfl : ((x0b : Nat) : Int) = x0b) (i3I (y := (Z 44 x0b x2 12)) (zm_rd (Z := Z) (ν := ν) (k := 44) (rfl : ((x0b : Nat) : Int) = x0b) (i3I (y := x2) (rfl : i3 x2 = i3 x2) (by omega) (by omega) (by omega)) (show ((12 : Nat) : Int) = 12 from rfl)) (by omega) (by omega) (by omega)) (show ((5 : Nat) : Int) = 5 from rfl)) (by omega) (by omega) (by omega) (by omega)) (fun h28 => ?_) (fun h28 => ?_)
          · replace hP := zE_p hP h28
            have r29 := zH_k hZ26I 44 x0b x2 8 (lo := 0) (hi := 999) (by decide) rfl
            obtain ⟨Z30, hZ30⟩ := zx (zu Z26 44 x0b x2 8 (Z26 44 x0b x2 8))
            replace hP := zl_e hP hZ30
            have hZ30I := zH_u hZ26I hZ30 (lo := 0) (hi := 999) (by decide) rfl (by omega) ⟨by decide, by decide⟩ (Or.inl (by decide)) rfl
            have hZ30U : zU [x0b] Zs Z30 := zU_u hZ26U hZ30 (Or.inr (List.Mem.head _))
            have hZ30K : zC [44] Zs Z30 := zC_u hZ26K hZ30 (by decide)
            intro μ9 e9
            replace e9 := e9.trans (zm_wI (Z := Z26) (ν := ν) hZ30 (rfl : ((x0b : Nat) : Int) = x0b) (i3I (y := x2) (rfl : i3 x2 = i3 x2) (by omega) (by omega) (by omega)) (show ((8 : Nat) : Int) = 8 from rfl) (zm_rd (Z := Z26) (ν := ν) (k := 44) (rfl : ((x0b : Nat) : Int) = x0b) (i3I (y := x2) (rfl : i3 x2 = i3 x2) (by omega) (by omega) (by omega)) (show ((8 : Nat) : Int) = 8 from rfl)))
            subst e9
            obtain ⟨m2, rfl⟩ : ∃ m2, m = m2 + 1 := ⟨m - 1, by omega⟩
            exact wz_k1 ⟨m2, by omega, Z30, (x2 + 1), (zconso rfl (zconso (zvo (rfl : i3 x1 = i3 x1)) (zconso (zvo (i3A (rfl : i3 x2 = i3 x2) (show (1 : Int32) = i3 1 from rfl))) (zconso rfl (zconso rfl (zconso rfl (zconso rfl (zconso rfl rfl)))))))), rfl, hZ30I, hZ30K, hZ30U, by omega, by omega,  hP⟩
          · replace hP := zE_n hP h28
            have r31 := zH_k hZ26I 44 x0b x2 8 (lo := 0) (hi := 999) (by decide) rfl
            obtain ⟨Z32, hZ32⟩ := zx (zu Z26 44 x0b x2 8 (min ((Z26 44 x0b x2 8) + 1) 999))
            replace hP := zl_e hP hZ32
            have hZ32I := zH_u hZ26I hZ32 (lo := 0) (hi := 999) (by decide) rfl (by omega) ⟨by decide, by decide⟩ (Or.inl (by decide)) rfl
            have hZ32U : zU [x0b] Zs Z32 := zU_u hZ26U hZ32 (Or.inr (List.Mem.head _))
            have hZ32K : zC [44] Zs Z32 := zC_u hZ26K hZ32 (by decide)
            intro μ9 e9
            replace e9 := e9.trans (zm_wI (Z := Z26) (ν := ν) hZ32 (rfl : ((x0b : Nat) : Int) = x0b) (i3I (y := x2) (rfl : i3 x2 = i3 x2) (by omega) (by omega) (by omega)) (show ((8 : Nat) : Int) = 8 from rfl) (i3Mn (i3A (zm_rd (Z := Z26) (ν := ν) (k := 44) (rfl : ((x0b : Nat) : Int) = x0b) (i3I (y := x2) (rfl : i3 x2 = i3 x2) (by omega) (by omega) (by omega)) (show ((8 : Nat) : Int) = 8 from rfl)) (show (1 : Int32) = i3 1 from rfl)) (show (999 : Int32) = i3 999 from rfl) (by omega) (by omega) (by omega) (by omega)))
            subst e9
            obtain ⟨m2, rfl⟩ : ∃ m2, m = m2 + 1 := ⟨m - 1, by omega⟩
            exact wz_k1 ⟨m2, by omega, Z32, (x2 + 1), (zconso rfl (zconso (zvo (rfl : i3 x1 = i3 x1)) (zconso (zvo (i3A (rfl : i3 x2 = i3 x2) (show (1 : Int32) = i3 1 from rfl))) (zconso rfl (zconso rfl (zconso rfl (zconso rfl (zconso rfl rfl)))))))), rfl, hZ32I, hZ32K, hZ32U, by omega, by omega,  hP⟩
      · replace hP := zE_n hP h6
        refine wz_i1 (Eq.trans (i3E (zm_rd (Z := Z) (ν := ν) (k := 44) (rfl : ((x0b : Nat) : Int) = x0b) (i3I (y := x2) (rfl : i3 x2 = i3 x2) (by omega) (by omega) (by omega)) (show ((12 : Nat) : Int) = 12 from rfl)) (show (6 : Int32) = i3 6 from rfl) (by omega) (by omega) (by omega) (by omega)) (decide_eq_true (by omega))) ?_
        have r33 := zH_k hZ 44 x0b x2 7 (lo := 0) (hi := 2000) (by decide) rfl
        have r34 := zH_k hZ 41 x0b (Z 44 x0b x2 1) 0 (lo := 0) (hi := 9) (by decide) rfl
        have r35 := zH_k hZ 41 x0b (Z 44 x0b x2 1) 1 (lo := 0) (hi := 12) (by decide) rfl
        have r36 := z_mul (x := (Z 41 x0b (Z 44 x0b x2 1) 0)) (y := (max 0 (x1 - (Z 41 x0b (Z 44 x0b x2 1) 1)))) (a := 9) (b := 40) (by omega) (by omega) (by omega) (by omega)
        obtain ⟨Z37, hZ37⟩ := zx (zu Z 44 x0b x2 7 (min ((Z 44 x0b x2 7) + (((Z 41 x0b (Z 44 x0b x2 1) 0) * (max 0 (x1 - (Z 41 x0b (Z 44 x0b x2 1) 1)))) / 8)) 2000))
        replace hP := zl_e hP hZ37
        have hZ37I := zH_u hZ hZ37 (lo := 0) (hi := 2000) (by decide) rfl (by omega) ⟨by decide, by decide⟩ (Or.inl (by decide)) rfl
        have hZ37U : zU [x0b] Zs Z37 := zU_u hU hZ37 (Or.inr (List.Mem.head _))
        have hZ37K : zC [44] Zs Z37 := zC_u hK hZ37 (by decide)
        intro μ9 e9
        replace e9 := e9.trans (zm_wI (Z := Z) (ν := ν) hZ37 (rfl : ((x0b : Nat) : Int) = x0b) (i3I (y := x2) (rfl : i3 x2 = i3 x2) (by omega) (by omega) (by omega)) (show ((7 : Nat) : Int) = 7 from rfl) (i3Mn (i3A (zm_rd (Z := Z) (ν := ν) (k := 44) (rfl : ((x0b : Nat) : Int) = x0b) (i3I (y := x2) (rfl : i3 x2 = i3 x2) (by omega) (by omega) (by omega)) (show ((7 : Nat) : Int) = 7 from rfl)) (i3D (i3M (zm_rd (Z := Z) (ν := ν) (k := 41) (rfl : ((x0b : Nat) : Int) = x0b) (i3I (y := (Z 44 x0b x2 1)) (zm_rd (Z := Z) (ν := ν) (k := 44) (rfl : ((x0b : Nat) : Int) = x0b) (i3I (y := x2) (rfl : i3 x2 = i3 x2) (by omega) (by omega) (by omega)) (show ((1 : Nat) : Int) = 1 from rfl)) (by omega) (by omega) (by omega)) (show ((0 : Nat) : Int) = 0 from rfl)) (i3Mx (show (0 : Int32) = i3 0 from rfl) (i3S (rfl : i3 x1 = i3 x1) (zm_rd (Z := Z) (ν := ν) (k := 41) (rfl : ((x0b : Nat) : Int) = x0b) (i3I (y := (Z 44 x0b x2 1)) (zm_rd (Z := Z) (ν := ν) (k := 44) (rfl : ((x0b : Nat) : Int) = x0b) (i3I (y := x2) (rfl : i3 x2 = i3 x2) (by omega) (by omega) (by omega)) (show ((1 : Nat) : Int) = 1 from rfl)) (by omega) (by omega) (by omega)) (show ((1 : Nat) : Int) = 1 from rfl))) (by omega) (by omega) (by omega) (by omega))) (show (8 : Int32) = i3 8 from rfl) (by omega) (by omega) (by omega) (by omega))) (show (2000 : Int32) = i3 2000 from rfl) (by omega) (by omega) (by omega) (by omega)))
        subst e9
        have r38 := zH_k hZ37I 41 x0b (Z 44 x0b x2 1) 2 (lo := 0) (hi := 12) (by decide) rfl
        refine wz_br (i3Le (zm_rd (Z := Z37) (ν := ν) (k := 41) (rfl : ((x0b : Nat) : Int) = x0b) (i3I (y := (Z 44 x0b x2 1)) (zm_rd (Z := Z) (ν := ν) (k := 44) (rfl : ((x0b : Nat) : Int) = x0b) (i3I (y := x2) (rfl : i3 x2 = i3 x2) (by omega) (by omega) (by omega)) (show ((1 : Nat) : Int) = 1 from rfl)) (by omega) (by omega) (by omega)) (show ((2 : Nat) : Int) = 2 from rfl)) (rfl : i3 x1 = i3 x1) (by omega) (by omega) (by omega) (by omega)) (fun h39 => ?_) (fun h39 => ?_)
        · replace hP := zE_p hP h39
          have r40 := zH_k hZ37I 44 x0b x2 8 (lo := 0) (hi := 999) (by decide) rfl
          obtain ⟨Z41, hZ41⟩ := zx (zu Z37 44 x0b x2 8 (Z37 44 x0b x2 8))
          replace hP := zl_e hP hZ41
          have hZ41I := zH_u hZ37I hZ41 (lo := 0) (hi := 999) (by decide) rfl (by omega) ⟨by decide, by decide⟩ (Or.inl (by decide)) rfl
          have hZ41U : zU [x0b] Zs Z41 := zU_u hZ37U hZ41 (Or.inr (List.Mem.head _))
          have hZ41K : zC [44] Zs Z41 := zC_u hZ37K hZ41 (by decide)
          intro μ9 e9
          replace e9 := e9.trans (zm_wI (Z := Z37) (ν := ν) hZ41 (rfl : ((x0b : Nat) : Int) = x0b) (i3I (y := x2) (rfl : i3 x2 = i3 x2) (by omega) (by omega) (by omega)) (show ((8 : Nat) : Int) = 8 from rfl) (zm_rd (Z := Z37) (ν := ν) (k := 44) (rfl : ((x0b : Nat) : Int) = x0b) (i3I (y := x2) (rfl : i3 x2 = i3 x2) (by omega) (by omega) (by omega)) (show ((8 : Nat) : Int) = 8 from rfl)))
          subst e9
          obtain ⟨m2, rfl⟩ : ∃ m2, m = m2 + 1 := ⟨m - 1, by omega⟩
          exact wz_k1 ⟨m2, by omega, Z41, (x2 + 1), (zconso rfl (zconso (zvo (rfl : i3 x1 = i3 x1)) (zconso (zvo (i3A (rfl : i3 x2 = i3 x2) (show (1 : Int32) = i3 1 from rfl))) (zconso rfl (zconso rfl (zconso rfl (zconso rfl (zconso rfl rfl)))))))), rfl, hZ41I, hZ41K, hZ41U, by omega, by omega,  hP⟩
        · replace hP := zE_n hP h39
          have r42 := zH_k hZ37I 44 x0b x2 8 (lo := 0) (hi := 999) (by decide) rfl
          obtain ⟨Z43, hZ43⟩ := zx (zu Z37 44 x0b x2 8 (min ((Z37 44 x0b x2 8) + 1) 999))
          replace hP := zl_e hP hZ43
          have hZ43I := zH_u hZ37I hZ43 (lo := 0) (hi := 999) (by decide) rfl (by omega) ⟨by decide, by decide⟩ (Or.inl (by decide)) rfl
          have hZ43U : zU [x0b] Zs Z43 := zU_u hZ37U hZ43 (Or.inr (List.Mem.head _))
          have hZ43K : zC [44] Zs Z43 := zC_u hZ37K hZ43 (by decide)
          intro μ9 e9
          replace e9 := e9.trans (zm_wI (Z := Z37) (ν := ν) hZ43 (rfl : ((x0b : Nat) : Int) = x0b) (i3I (y := x2) (rfl : i3 x2 = i3 x2) (by omega) (by omega) (by omega)) (show ((8 : Nat) : Int) = 8 from rfl) (i3Mn (i3A (zm_rd (Z := Z37) (ν := ν) (k := 44) (rfl : ((x0b : Nat) : Int) = x0b) (i3I (y := x2) (rfl : i3 x2 = i3 x2) (by omega) (by omega) (by omega)) (show ((8 : Nat) : Int) = 8 from rfl)) (show (1 : Int32) = i3 1 from rfl)) (show (999 : Int32) = i3 999 from rfl) (by omega) (by omega) (by omega) (by omega)))
          subst e9
          obtain ⟨m2, rfl⟩ : ∃ m2, m = m2 + 1 := ⟨m - 1, by omega⟩
          exact wz_k1 ⟨m2, by omega, Z43, (x2 + 1), (zconso rfl (zconso (zvo (rfl : i3 x1 = i3 x1)) (zconso (zvo (i3A (rfl : i3 x2 = i3 x2) (show (1 : Int32) = i3 1 from rfl))) (zconso rfl (zconso rfl (zconso rfl (zconso rfl (zconso rfl rfl)))))))), rfl, hZ43I, hZ43K, hZ43U, by omega, by omega,  hP⟩
/- yX10_growOlder -/
def zl_171_3 (x0b : Int) : Nat → qz_Z → Int → qz_Z × Int
  | 0, Z, x2 => (Z, x2)
  | m + 1, Z, x2 => (if (Z 11 x0b 0 6) ≤ x2 then (Z, x2) else (if (Z 47 x0b x2 9) ≠ 1 then zl_171_3 x0b m Z (x2 + 1) else (zlet (zu Z 47 x0b x2 11 (min ((Z 47 x0b x2 11) + (((Z 41 x0b (Z 44 x0b (Z 47 x0b x2 0) 1) 0) * (max 0 ((Z 50 x0b (Z 47 x0b x2 10) 1) - (Z 41 x0b (Z 44 x0b (Z 47 x0b x2 0) 1) 1)))) / 8)) 2000)) (fun Z14 => (if (Z14 41 x0b (Z 44 x0b (Z 47 x0b x2 0) 1) 2) ≤ (Z 50 x0b (Z 47 x0b x2 10) 1) then (zlet (zu Z14 47 x0b x2 12 (Z14 47 x0b x2 12)) (fun Z18 => zl_171_3 x0b m Z18 (x2 + 1))) else (zlet (zu Z14 47 x0b x2 12 (min ((Z14 47 x0b x2 12) + 1) 999)) (fun Z20 => zl_171_3 x0b m Z20 (x2 + 1))))))))
theorem sl_171_3 {s : zSM} {Zs Z : qz_Z} {ν : qz_N} (hZ : zH s Z) (hM : s.2 + 0 ≤ 1000000000) (hK : zC [47] Zs Z) (x0b : Nat) {x2 : Int} (gx2 : 0 ≤ x2 ∧ x2 ≤ 60) (hU : zU [x0b] Zs Z) {k : wz_K} {R : wz_R} {L : qz_L} (hL : qz_fg [true, false, true, false, false, false, false, false] L = [some (.inr (.inr (some (10, x0b, 0)))), none, some (.inl (i3 x2)), none, none, none, none, none]) {T : qz_Z × Int} (hP : zE T (zl_171_3 x0b ((60 - x2).toNat + 1) Z x2)) (hk : ∀ (L9 : qz_L) (Z9 : qz_Z) (yx2 : Int), qz_fg [false, false, false, false, false, false, false, false] L9 = [none, none, none, none, none, none, none, none] → zH s Z9 → zC [47] Zs Z9 → zU [x0b] Zs Z9 → (0 ≤ yx2 ∧ yx2 ≤ 60) → zE T ((Z9, yx2)) → k 0 (L9, [], zm Z9 ν)) : wz_loop qb_171_3 65536 k R (L, [], zm Z ν) := by
  refine wz_lp sb_171_3 (fun m x => ∃ Z : qz_Z, ∃ x2 : Int, qz_fg [true, false, true, false, false, false, false, false] x.1 = [some (.inr (.inr (some (10, x0b, 0)))), none, some (.inl (i3 x2)), none, none, none, none, none] ∧ x.2 = ([], zm Z ν) ∧ zH s Z ∧ zC [47] Zs Z ∧ zU [x0b] Zs Z ∧ m = (60 - x2).toNat ∧ (0 ≤ x2 ∧ x2 ≤ 60) ∧ zE T (zl_171_3 x0b (m + 1) Z x2)) ?_ 65536 ((60 - x2).toNat) _ (by omega) ⟨Z, x2, hL, rfl, hZ, hK, hU, rfl, gx2, hP⟩
  clear hP gx2 hZ hK hU hL
  clear x2
  clear Z
  rintro m ⟨L, st, μ⟩ ⟨Z, x2, hL, hx, hZ, hK, hU, hm, gx2, hP⟩
  cases hx
  refine fb_171_3 x0b (i3 x2) _ _ _ _ hL ?_
  have r1 := zH_k hZ 11 x0b 0 6 (lo := 0) (hi := 60) (by decide) rfl
  refine wz_br (i3Le (zm_rd (Z := Z) (ν := ν) (k := 11) (rfl : ((x0b : Nat) : Int) = x0b) (show ((0 : Nat) : Int) = 0 from rfl) (show ((6 : Nat) : Int) = 6 from rfl)) (rfl : i3 x2 = i3 x2) (by omega) (by omega) (by omega) (by omega)) (fun h2 => ?_) (fun h2 => ?_)
  · replace hP := zE_p hP h2
    exact hk _ _ _ (zconso rfl (zconso rfl (zconso rfl (zconso rfl (zconso rfl (zconso rfl (zconso rfl (zconso rfl rfl)))))))) hZ hK hU (by omega)  hP
  · replace hP := zE_n hP h2
    refine wz_i0 (i3O (n := 60) (rfl : i3 x2 = i3 x2) (by omega) (by omega) (by omega)) ?_
    have r3 := zH_k hZ 47 x0b x2 9 (lo := 0) (hi := 3) (by decide) rfl
    have r4 := zH_lt hZ x0b x2
    refine wz_br (i3NE (zm_rd (Z := Z) (ν := ν) (k := 47) (rfl : ((x0b : Nat) : Int) = x0b) (i3I (y := x2) (rfl : i3 x2 = i3 x2) (by omega) (by omega) (by omega)) (show ((9 : Nat) : Int) = 9 from rfl)) (show (1 : Int32) = i3 1 from rfl) (by omega) (by omega) (by omega) (by omega)) (fun h5 => ?_) (fun h5 => ?_)
    · replace hP := zE_p hP h5
      obtain ⟨m2, rfl⟩ : ∃ m2, m = m2 + 1 := ⟨m - 1, by omega⟩
      exact wz_k1 ⟨m2, by omega, Z, (x2 + 1), (zconso rfl (zconso rfl (zconso (zvo (i3A (rfl : i3 x2 = i3 x2) (show (1 : Int32) = i3 1 from rfl))) (zconso rfl (zconso rfl (zconso rfl (zconso rfl (zconso rfl rfl)))))))), rfl, hZ, hK, hU, by omega, by omega,  hP⟩
    · replace hP := zE_n hP h5
      have r6 := zH_k hZ 47 x0b x2 0 (lo := 0) (hi := 47) (by decide) rfl
      refine wz_i0 (i3O (n := 48) (zm_rd (Z := Z) (ν := ν) (k := 47) (rfl : ((x0b : Nat) : Int) = x0b) (i3I (y := x2) (rfl : i3 x2 = i3 x2) (by omega) (by omega) (by omega)) (show ((0 : Nat) : Int) = 0 from rfl)) (by omega) (by omega) (by omega)) ?_
      have r7 := zH_k hZ 44 x0b (Z 47 x0b x2 0) 1 (lo := 0) (hi := 4) (by decide) rfl
      refine wz_i0 (i3O (n := 5) (zm_rd (Z := Z) (ν := ν) (k := 44) (rfl : ((x0b : Nat) : Int) = x0b) (i3I (y := (Z 47 x0b x2 0)) (zm_rd (Z := Z) (ν := ν) (k := 47) (rfl : ((x0b : Nat) : Int) = x0b) (i3I (y := x2) (rfl : i3 x2 = i3 x2) (by omega) (by omega) (by omega)) (show ((0 : Nat) : Int) = 0 from rfl)) (by omega) (by omega) (by omega)) (show ((1 : Nat) : Int) = 1 from rfl)) (by omega) (by omega) (by omega)) ?_
      have r8 := zH_k hZ 47 x0b x2 10 (lo := -1) (hi := 3) (by decide) rfl
      refine wz_i0 (i3O (n := 4) (zm_rd (Z := Z) (ν := ν) (k := 47) (rfl : ((x0b : Nat) : Int) = x0b) (i3I (y := x2) (rfl : i3 x2 = i3 x2) (by omega) (by omega) (by omega)) (show ((10 : Nat) : Int) = 10 from rfl)) (by omega) (by omega) (by omega)) ?_
      have r9 := zH_k hZ 47 x0b x2 11 (lo := 0) (hi := 2000) (by decide) rfl
      have r10 := zH_k hZ 41 x0b (Z 44 x0b (Z 47 x0b x2 0) 1) 0 (lo := 0) (hi := 9) (by decide) rfl
      have r11 := zH_k hZ 50 x0b (Z 47 x0b x2 10) 1 (lo := 0) (hi := 40) (by decide) rfl
      have r12 := zH_k hZ 41 x0b (Z 44 x0b (Z 47 x0b x2 0) 1) 1 (lo := 0) (hi := 12) (by decide) rfl
      have r13 := z_mul (x := (Z 41 x0b (Z 44 x0b (Z 47 x0b x2 0) 1) 0)) (y := (max 0 ((Z 50 x0b (Z 47 x0b x2 10) 1) - (Z 41 x0b (Z 44 x0b (Z 47 x0b x2 0) 1) 1)))) (a := 9) (b := 40) (by omega) (by omega) (by omega) (by omega)
      obtain ⟨Z14, hZ14⟩ := zx (zu Z 47 x0b x2 11 (min ((Z 47 x0b x2 11) + (((Z 41 x0b (Z 44 x0b (Z 47 x0b x2 0) 1) 0) * (max 0 ((Z 50 x0b (Z 47 x0b x2 10) 1) - (Z 41 x0b (Z 44 x0b (Z 47 x0b x2 0) 1) 1)))) / 8)) 2000))
      replace hP := zl_e hP hZ14
      have hZ14I := zH_u hZ hZ14 (lo := 0) (hi := 2000) (by decide) rfl (by omega) ⟨by decide, by decide⟩ (Or.inl (by decide)) rfl
      have hZ14U : zU [x0b] Zs Z14 := zU_u hU hZ14 (Or.inr (List.Mem.head _))
      have hZ14K : zC [47] Zs Z14 := zC_u hK hZ14 (by decide)
      intro μ9 e9
      replace e9 := e9.trans (zm_wI (Z := Z) (ν := ν) hZ14 (rfl : ((x0b : Nat) : Int) = x0b) (i3I (y := x2) (rfl : i3 x2 = i3 x2) (by omega) (by omega) (by omega)) (show ((11 : Nat) : Int) = 11 from rfl) (i3Mn (i3A (zm_rd (Z := Z) (ν := ν) (k := 47) (rfl : ((x0b : Nat) : Int) = x0b) (i3I (y := x2) (rfl : i3 x2 = i3 x2) (by omega) (by omega) (by omega)) (show ((11 : Nat) : Int) = 11 from rfl)) (i3D (i3M (zm_rd (Z := Z) (ν := ν) (k := 41) (rfl : ((x0b : Nat) : Int) = x0b) (i3I (y := (Z 44 x0b (Z 47 x0b x2 0) 1)) (zm_rd (Z := Z) (ν := ν) (k := 44) (rfl : ((x0b : Nat) : Int) = x0b) (i3I (y := (Z 47 x0b x2 0)) (zm_rd (Z := Z) (ν := ν) (k := 47) (rfl : ((x0b : Nat) : Int) = x0b) (i3I (y := x2) (rfl : i3 x2 = i3 x2) (by omega) (by omega) (by omega)) (show ((0 : Nat) : Int) = 0 from rfl)) (by omega) (by omega) (by omega)) (show ((1 : Nat) : Int) = 1 from rfl)) (by omega) (by omega) (by omega)) (show ((0 : Nat) : Int) = 0 from rfl)) (i3Mx (show (0 : Int32) = i3 0 from rfl) (i3S (zm_rd (Z := Z) (ν := ν) (k := 50) (rfl : ((x0b : Nat) : Int) = x0b) (i3I (y := (Z 47 x0b x2 10)) (zm_rd (Z := Z) (ν := ν) (k := 47) (rfl : ((x0b : Nat) : Int) = x0b) (i3I (y := x2) (rfl : i3 x2 = i3 x2) (by omega) (by omega) (by omega)) (show ((10 : Nat) : Int) = 10 from rfl)) (by omega) (by omega) (by omega)) (show ((1 : Nat) : Int) = 1 from rfl)) (zm_rd (Z := Z) (ν := ν) (k := 41) (rfl : ((x0b : Nat) : Int) = x0b) (i3I (y := (Z 44 x0b (Z 47 x0b x2 0) 1)) (zm_rd (Z := Z) (ν := ν) (k := 44) (rfl : ((x0b : Nat) : Int) = x0b) (i3I (y := (Z 47 x0b x2 0)) (zm_rd (Z := Z) (ν := ν) (k := 47) (rfl : ((x0b : Nat) : Int) = x0b) (i3I (y := x2) (rfl : i3 x2 = i3 x2) (by omega) (by omega) (by omega)) (show ((0 : Nat) : Int) = 0 from rfl)) (by omega) (by omega) (by omega)) (show ((1 : Nat) : Int) = 1 from rfl)) (by omega) (by omega) (by omega)) (show ((1 : Nat) : Int) = 1 from rfl))) (by omega) (by omega) (by omega) (by omega))) (show (8 : Int32) = i3 8 from rfl) (by omega) (by omega) (by omega) (by omega))) (show (2000 : Int32) = i3 2000 from rfl) (by omega) (by omega) (by omega) (by omega)))
      subst e9
      have r15 := zH_k hZ14I 41 x0b (Z 44 x0b (Z 47 x0b x2 0) 1) 2 (lo := 0) (hi := 12) (by decide) rfl
      refine wz_br (i3Le (zm_rd (Z := Z14) (ν := ν) (k := 41) (rfl : ((x0b : Nat) : Int) = x0b) (i3I (y := (Z 44 x0b (Z 47 x0b x2 0) 1)) (zm_rd (Z := Z) (ν := ν) (k := 44) (rfl : ((x0b : Nat) : Int) = x0b) (i3I (y := (Z 47 x0b x2 0)) (zm_rd (Z := Z) (ν := ν) (k := 47) (rfl : ((x0b : Nat) : Int) = x0b) (i3I (y := x2) (rfl : i3 x2 = i3 x2) (by omega) (by omega) (by omega)) (show ((0 : Nat) : Int) = 0 from rfl)) (by omega) (by omega) (by omega)) (show ((1 : Nat) : Int) = 1 from rfl)) (by omega) (by omega) (by omega)) (show ((2 : Nat) : Int) = 2 from rfl)) (zm_rd (Z := Z) (ν := ν) (k := 50) (rfl : ((x0b : Nat) : Int) = x0b) (i3I (y := (Z 47 x0b x2 10)) (zm_rd (Z := Z) (ν := ν) (k := 47) (rfl : ((x0b : Nat) : Int) = x0b) (i3I (y := x2) (rfl : i3 x2 = i3 x2) (by omega) (by omega) (by omega)) (show ((10 : Nat) : Int) = 10 from rfl)) (by omega) (by omega) (by omega)) (show ((1 : Nat) : Int) = 1 from rfl)) (by omega) (by omega) (by omega) (by omega)) (fun h16 => ?_) (fun h16 => ?_)
      · replace hP := zE_p hP h16
        have r17 := zH_k hZ14I 47 x0b x2 12 (lo := 0) (hi := 999) (by decide) rfl
        obtain ⟨Z18, hZ18⟩ := zx (zu Z14 47 x0b x2 12 (Z14 47 x0b x2 12))
        replace hP := zl_e hP hZ18
        have hZ18I := zH_u hZ14I hZ18 (lo := 0) (hi := 999) (by decide) rfl (by omega) ⟨by decide, by decide⟩ (Or.inl (by decide)) rfl
        have hZ18U : zU [x0b] Zs Z18 := zU_u hZ14U hZ18 (Or.inr (List.Mem.head _))
        have hZ18K : zC [47] Zs Z18 := zC_u hZ14K hZ18 (by decide)
        intro μ9 e9
        replace e9 := e9.trans (zm_wI (Z := Z14) (ν := ν) hZ18 (rfl : ((x0b : Nat) : Int) = x0b) (i3I (y := x2) (rfl : i3 x2 = i3 x2) (by omega) (by omega) (by omega)) (show ((12 : Nat) : Int) = 12 from rfl) (zm_rd (Z := Z14) (ν := ν) (k := 47) (rfl : ((x0b : Nat) : Int) = x0b) (i3I (y := x2) (rfl : i3 x2 = i3 x2) (by omega) (by omega) (by omega)) (show ((12 : Nat) : Int) = 12 from rfl)))
        subst e9
        obtain ⟨m2, rfl⟩ : ∃ m2, m = m2 + 1 := ⟨m - 1, by omega⟩
        exact wz_k1 ⟨m2, by omega, Z18, (x2 + 1), (zconso rfl (zconso rfl (zconso (zvo (i3A (rfl : i3 x2 = i3 x2) (show (1 : Int32) = i3 1 from rfl))) (zconso rfl (zconso rfl (zconso rfl (zconso rfl (zconso rfl rfl)))))))), rfl, hZ18I, hZ18K, hZ18U, by omega, by omega,  hP⟩
      · replace hP := zE_n hP h16
        have r19 := zH_k hZ14I 47 x0b x2 12 (lo := 0) (hi := 999) (by decide) rfl
        obtain ⟨Z20, hZ20⟩ := zx (zu Z14 47 x0b x2 12 (min ((Z14 47 x0b x2 12) + 1) 999))
        replace hP := zl_e hP hZ20
        have hZ20I := zH_u hZ14I hZ20 (lo := 0) (hi := 999) (by decide) rfl (by omega) ⟨by decide, by decide⟩ (Or.inl (by decide)) rfl
        have hZ20U : zU [x0b] Zs Z20 := zU_u hZ14U hZ20 (Or.inr (List.Mem.head _))
        have hZ20K : zC [47] Zs Z20 := zC_u hZ14K hZ20 (by decide)
        intro μ9 e9
        replace e9 := e9.trans (zm_wI (Z := Z14) (ν := ν) hZ20 (rfl : ((x0b : Nat) : Int) = x0b) (i3I (y := x2) (rfl : i3 x2 = i3 x2) (by omega) (by omega) (by omega)) (show ((12 : Nat) : Int) = 12 from rfl) (i3Mn (i3A (zm_rd (Z := Z14) (ν := ν) (k := 47) (rfl : ((x0b : Nat) : Int) = x0b) (i3I (y := x2) (rfl : i3 x2 = i3 x2) (by omega) (by omega) (by omega)) (show ((12 : Nat) : Int) = 12 from rfl)) (show (1 : Int32) = i3 1 from rfl)) (show (999 : Int32) = i3 999 from rfl) (by omega) (by omega) (by omega) (by omega)))
        subst e9
        obtain ⟨m2, rfl⟩ : ∃ m2, m = m2 + 1 := ⟨m - 1, by omega⟩
        exact wz_k1 ⟨m2, by omega, Z20, (x2 + 1), (zconso rfl (zconso rfl (zconso (zvo (i3A (rfl : i3 x2 = i3 x2) (show (1 : Int32) = i3 1 from rfl))) (zconso rfl (zconso rfl (zconso rfl (zconso rfl (zconso rfl rfl)))))))), rfl, hZ20I, hZ20K, hZ20U, by omega, by omega,  hP⟩
/- yX10_growOlder -/
def zf_171 (Z : qz_Z) (a0b : Int) : qz_Z := (zlet2 (zl_171_1 a0b (Z 12 a0b 0 ((Z 11 a0b 0 13) / 24)) 7 Z 0) (fun Z4 y3 => (zlet2 (zl_171_2 a0b (Z 12 a0b 0 ((Z 11 a0b 0 13) / 24)) 49 Z4 0) (fun Z7 y6 => (zlet2 (zl_171_3 a0b 61 Z7 0) (fun Z10 y9 => Z10))))))
theorem sp_171 {s : zSM} {Z : qz_Z} {ν : qz_N} (hZ : zH s Z) (a0b : Nat) (hM : s.2 + 0 ≤ 1000000000) : ∃ P : qz_Z, P = zf_171 Z a0b ∧ (qf_171 [.inr (.inr (some (10, a0b, 0)))] (zm Z ν) = some (zm P ν, .inl none) ∧ zH s P ∧ zC [43, 44, 47] Z P ∧ zU [a0b] Z P) := by
  obtain ⟨P, hP⟩ := zx (zf_171 Z a0b)
  refine zc_V (Q := fun P => zH s P ∧ zC [43, 44, 47] Z P ∧ zU [a0b] Z P) hP (fw_171 a0b _ _ ?_)
  replace hP : zE P (zf_171 Z a0b) := hP
  unfold zf_171 at hP
  have r1 := zH_k hZ 11 a0b 0 13 (lo := 0) (hi := 671) (by decide) rfl
  refine wz_i0 (i3O (n := 28) (i3D (zm_rd (Z := Z) (ν := ν) (k := 11) (rfl : ((a0b : Nat) : Int) = a0b) (show ((0 : Nat) : Int) = 0 from rfl) (show ((13 : Nat) : Int) = 13 from rfl)) (show (24 : Int32) = i3 24 from rfl) (by omega) (by omega) (by omega) (by omega)) (by omega) (by omega) (by omega)) ?_
  have r2 := zH_k hZ 12 a0b 0 ((Z 11 a0b 0 13) / 24) (lo := 0) (hi := 40) (by decide) (zrc_12 (by omega) (by omega))
  refine sl_171_1 (ν := ν) hZ (zbh (c := 0) (k := 0) hM (Nat.le_of_ble_eq_true rfl)) zC_r a0b (x1 := (Z 12 a0b 0 ((Z 11 a0b 0 13) / 24))) (by omega) (x2 := 0) (by omega) zU_r  (zconso rfl (zconso (zvo (zm_rd (Z := Z) (ν := ν) (k := 12) (rfl : ((a0b : Nat) : Int) = a0b) (show ((0 : Nat) : Int) = 0 from rfl) (i3I (y := ((Z 11 a0b 0 13) / 24)) (i3D (zm_rd (Z := Z) (ν := ν) (k := 11) (rfl : ((a0b : Nat) : Int) = a0b) (show ((0 : Nat) : Int) = 0 from rfl) (show ((13 : Nat) : Int) = 13 from rfl)) (show (24 : Int32) = i3 24 from rfl) (by omega) (by omega) (by omega) (by omega)) (by omega) (by omega) (by omega)))) (zconso (zvo (show (0 : Int32) = i3 0 from rfl)) (zconso rfl (zconso rfl (zconso rfl (zconso rfl (zconso rfl rfl)))))))) rfl ?_
  intro L5 Z4 y3 hL5 hZ4I kZ4 jZ4 gy3 q9
  replace hP := zl_e2 hP (Eq.symm q9)
  clear q9
  have hZ4U : zU [a0b] Z Z4 := zU_t zU_r jZ4 (zU_b1 (List.Mem.head _) zU_b0)
  have hZ4K : zC [43, 44, 47] Z Z4 := zC_t zC_r kZ4 (by decide)
  refine fc_171_6 _ (i3 (Z 12 a0b 0 ((Z 11 a0b 0 13) / 24))) _ _ _ _ hL5 ?_
  refine sl_171_2 (ν := ν) hZ4I (zbh (c := 0) (k := 0) hM (Nat.le_of_ble_eq_true rfl)) zC_r a0b (x1 := (Z 12 a0b 0 ((Z 11 a0b 0 13) / 24))) (by omega) (x2 := 0) (by omega) zU_r  (zconso rfl (zconso (zvo (rfl : i3 (Z 12 a0b 0 ((Z 11 a0b 0 13) / 24)) = i3 (Z 12 a0b 0 ((Z 11 a0b 0 13) / 24)))) (zconso (zvo (show (0 : Int32) = i3 0 from rfl)) (zconso rfl (zconso rfl (zconso rfl (zconso rfl (zconso rfl rfl)))))))) rfl ?_
  intro L8 Z7 y6 hL8 hZ7I kZ7 jZ7 gy6 q9
  replace hP := zl_e2 hP (Eq.symm q9)
  clear q9
  have hZ7U : zU [a0b] Z Z7 := zU_t hZ4U jZ7 (zU_b1 (List.Mem.head _) zU_b0)
  have hZ7K : zC [43, 44, 47] Z Z7 := zC_t hZ4K kZ7 (by decide)
  refine fc_171_5 _ _ _ _ _ hL8 ?_
  refine sl_171_3 (ν := ν) hZ7I (zbh (c := 0) (k := 0) hM (Nat.le_of_ble_eq_true rfl)) zC_r a0b (x2 := 0) (by omega) zU_r  (zconso rfl (zconso rfl (zconso (zvo (show (0 : Int32) = i3 0 from rfl)) (zconso rfl (zconso rfl (zconso rfl (zconso rfl (zconso rfl rfl)))))))) rfl ?_
  intro L11 Z10 y9 hL11 hZ10I kZ10 jZ10 gy9 q9
  replace hP := zl_e2 hP (Eq.symm q9)
  clear q9
  have hZ10U : zU [a0b] Z Z10 := zU_t hZ7U jZ10 (zU_b1 (List.Mem.head _) zU_b0)
  have hZ10K : zC [43, 44, 47] Z Z10 := zC_t hZ7K kZ10 (by decide)
  refine fc_171_4  _ _ _ _ hL11 ?_
  exact zlV hP ⟨hZ10I, hZ10K, hZ10U⟩
/- yX6_letHours -/
def zl_118_1 (x0b : Int) (x1 : Int) (x2 : Int) : Nat → qz_Z → Int → qz_Z × Int
  | 0, Z, x3 => (Z, x3)
  | m + 1, Z, x3 => (if (Z 11 x0b 0 9) ≤ x3 then (Z, x3) else (zlet (zf_139 Z x0b x3 (Z 11 x0b 0 13)) (fun v4 => (if v4 = (-1) then zl_118_1 x0b x1 x2 m Z (x3 + 1) else (zlet2 (zf_136 Z x0b x3 v4) (fun Z6 v7 => zl_118_1 x0b x1 x2 m Z6 (x3 + 1)))))))
theorem sl_118_1 {s : zSM} {xM9 : Nat} {Zs Z : qz_Z} {ν : qz_N} (hZ : zH (zb s xM9) Z) (hM : s.2 + 9555 ≤ 1000000000) (hK : zC [14, 43, 44, 45, 46, 47, 48, 49, 51, 52, 53, 1111, 1112] Zs Z) (x0b : Nat) {x1 : Int} (gx1 : 1 ≤ x1 ∧ x1 ≤ 72) {x2 : Int} (gx2 : 0 ≤ x2 ∧ x2 ≤ 71) {x3 : Int} (gx3 : 0 ≤ x3 ∧ x3 ≤ 2) (hU : zU [x0b] Zs Z) (hx9 : xM9 + 3185 * ((2 - x3).toNat) + 3185 ≤ 9555) {k : wz_K} {R : wz_R} {L : qz_L} (hL : qz_fg [true, true, true, true, false, false] L = [some (.inr (.inr (some (10, x0b, 0)))), some (.inl (i3 x1)), some (.inl (i3 x2)), some (.inl (i3 x3)), none, none]) {T : qz_Z × Int} (hP : zE T (zl_118_1 x0b x1 x2 ((2 - x3).toNat + 1) Z x3)) (hk : ∀ (L9 : qz_L) (Z9 : qz_Z) (yx3 : Int), qz_fg [true, true, true, false, false, false] L9 = [some (.inr (.inr (some (10, x0b, 0)))), some (.inl (i3 x1)), some (.inl (i3 x2)), none, none, none] → zH (zb s 9555) Z9 → zC [14, 43, 44, 45, 46, 47, 48, 49, 51, 52, 53, 1111, 1112] Zs Z9 → zU [x0b] Zs Z9 → (0 ≤ yx3 ∧ yx3 ≤ 2) → zE T ((Z9, yx3)) → k 0 (L9, [], zm Z9 ν)) : wz_loop qb_118_1 65536 k R (L, [], zm Z ν) := by sorry
/- yX11_buyer -/
def zx_191 (Z : qz_Z) (a1 : Int) (a2 : Int) (a3 : Int) : qz_Z × Int × Int := (if 0 ≤ a1 ∧ a1 < 5 then (if 0 ≤ a2 ∧ a2 ≤ 9999999 then (if 0 ≤ a3 ∧ a3 ≤ 14 then (if 8 ≤ (Z 11 0 0 4) then (Z, 0, 15) else (zlet (zdd Z 10 a1 a2 a3 0 0 0) (fun Z8 => (zlet (zu Z8 45 0 (Z8 11 0 0 4) 0 a1) (fun Z11 => (zlet (zu Z11 45 0 (Z8 11 0 0 4) 1 a2) (fun Z12 => (zlet (zu Z12 45 0 (Z8 11 0 0 4) 2 a3) (fun Z13 => (zlet (zu Z13 11 0 0 4 ((Z13 11 0 0 4) + 1)) (fun Z16 => (Z16, (Z13 11 0 0 4), 0)))))))))))) else (Z, 0, 13)) else (Z, 0, 13)) else (Z, 0, 24))
theorem sx_191 {M : Nat} {Z : qz_Z} {ν : qz_N} (hZ : zH ((none, M) : zSM) Z) (hM : ((none, M) : zSM).2 + 0 ≤ 1000000000) {a1 : Int} (ga1 : -2147483648 ≤ a1 ∧ a1 ≤ 2147483647) {a2 : Int} (ga2 : -2147483648 ≤ a2 ∧ a2 ≤ 2147483647) {a3 : Int} (ga3 : -2147483648 ≤ a3 ∧ a3 ≤ 2147483647) : ∃ (Z1 : qz_Z) (ν1 : qz_N) (v E : Int), (Z1, v, E) = zx_191 Z a1 a2 a3 ∧ qf_191 [.inr (.inr (some (0, 0, 0))), .inl (i3 a1), .inl (i3 a2), .inl (i3 a3)] (zm Z ν) = some (zm Z1 ν1, zoX v E) ∧ (fun Z1 ν1 => zH ((none, M) : zSM) Z1 ∧ zC [3, 12, 13, 14, 40, 41, 42, 43, 44, 45, 46, 47, 48, 49, 50, 51, 52, 53, 54, 61, 68, 1099, 1100, 1101, 1102, 1103, 1104, 1105, 1106, 1107, 1108, 1109, 1110, 1111, 1112, 1113, 1114, 1115, 1116] Z Z1 ∧ zU [0, 2, 3, 4, 5, 6, 7, 8, 9] Z Z1 ∧ zG 1 6 ν ν1) Z1 ν1 := by
  obtain ⟨P, hP⟩ := zx (zx_191 Z a1 a2 a3)
  refine zc_G (Q := fun Z1 ν1 => zH ((none, M) : zSM) Z1 ∧ zC [3, 12, 13, 14, 40, 41, 42, 43, 44, 45, 46, 47, 48, 49, 50, 51, 52, 53, 54, 61, 68, 1099, 1100, 1101, 1102, 1103, 1104, 1105, 1106, 1107, 1108, 1109, 1110, 1111, 1112, 1113, 1114, 1115, 1116] Z Z1 ∧ zU [0, 2, 3, 4, 5, 6, 7, 8, 9] Z Z1 ∧ zG 1 6 ν ν1) hP (fw_191 (i3 a1) (i3 a2) (i3 a3) _ _ ?_)
  replace hP : zE P (zx_191 Z a1 a2 a3) := hP
  unfold zx_191 at hP
  refine wz_thing (rfl : i3 a1 = i3 a1) (show (5 : Int32) = i3 5 from rfl) (by omega) (by omega) (by omega) (by omega) (fun h1 => ?_) (fun h1 => ?_)
  · replace hP := zE_p hP h1
    refine wz_inR (rfl : i3 a2 = i3 a2) (show (0 : Int32) = i3 0 from rfl) (show (9999999 : Int32) = i3 9999999 from rfl) (by omega) (by omega) (by omega) (by omega) (by omega) (by omega) (fun h2 => ?_) (fun h2 => ?_)
    · replace hP := zE_p hP h2
      refine wz_inR (rfl : i3 a3 = i3 a3) (show (0 : Int32) = i3 0 from rfl) (show (14 : Int32) = i3 14 from rfl) (by omega) (by omega) (by omega) (by omega) (by omega) (by omega) (fun h3 => ?_) (fun h3 => ?_)
      · replace hP := zE_p hP h3
        have r4 := zH_k hZ 11 0 0 4 (lo := 0) (hi := 8) (by decide) rfl
        refine wz_br (i3Le (show (8 : Int32) = i3 8 from rfl) (zm_rd (Z := Z) (ν := ν) (k := 11) (show ((0 : Nat) : Int) = 0 from rfl) (show ((0 : Nat) : Int) = 0 from rfl) (show ((4 : Nat) : Int) = 4 from rfl)) (by omega) (by omega) (by omega) (by omega)) (fun h5 => ?_) (fun h5 => ?_)
        · replace hP := zE_p hP h5
          refine wz_inT_n (show (0 : Int32) = i3 0 from rfl) (by omega) (by omega) (by omega) ?_
          exact zlGe (E := 14) hP ⟨hZ, zC_r, zU_r, zG_w (zG_k rfl) (Nat.le_of_ble_eq_true rfl) (Nat.le_of_ble_eq_true rfl)⟩
        · replace hP := zE_n hP h5
          refine wz_inT_y (show (1 : Int32) = i3 1 from rfl) (by omega) (by omega) (by omega) ?_
          refine dc_J (zcons rfl (zcons (zvi (show (10 : Int32) = i3 10 from rfl)) (zcons (zvi (rfl : i3 a1 = i3 a1)) (zcons (zvi (rfl : i3 a2 = i3 a2)) (zcons (zvi (rfl : i3 a3 = i3 a3)) (zcons (zvi (show (0 : Int32) = i3 0 from rfl)) (zcons (zvi (show (0 : Int32) = i3 0 from rfl)) (zcons (zvi (show (0 : Int32) = i3 0 from rfl)) rfl)))))))) (dg (hZ).1 (by omega) (by omega) (by omega) (by omega) (by omega) (by omega) (by omega) ?_)
          have hZ8I := zH_dd hZ (a1 := 10) (a2 := a1) (a3 := a2) (a4 := a3) (a5 := 0) (a6 := 0) (a7 := 0) (by omega) (by omega) (by omega) (by omega) (by omega) (by omega) (by omega)
          have kZ8 : zC [3, 12, 13, 14, 40, 41, 42, 43, 44, 45, 46, 47, 48, 49, 50, 51, 52, 53, 54, 61, 68, 1099, 1100, 1101, 1102, 1103, 1104, 1105, 1106, 1107, 1108, 1109, 1110, 1111, 1112, 1113, 1114, 1115, 1116] Z (zdd Z 10 a1 a2 a3 0 0 0) := zC_k zdd_K (by decide) (by decide)
          have hZ8A : (zdd Z 10 a1 a2 a3 0 0 0) 68 0 0 0 = 10 ∧ (zdd Z 10 a1 a2 a3 0 0 0) 68 0 0 1 = a1 ∧ (zdd Z 10 a1 a2 a3 0 0 0) 68 0 0 2 = a2 ∧ (zdd Z 10 a1 a2 a3 0 0 0) 68 0 0 3 = a3 ∧ (zdd Z 10 a1 a2 a3 0 0 0) 68 0 0 4 = 0 ∧ (zdd Z 10 a1 a2 a3 0 0 0) 68 0 0 5 = 0 ∧ (zdd Z 10 a1 a2 a3 0 0 0) 68 0 0 6 = 0 := ⟨zdd_68, zdd_68, zdd_68, zdd_68, zdd_68, zdd_68, zdd_68⟩
          obtain ⟨Z8, hZ8⟩ := zx (zdd Z 10 a1 a2 a3 0 0 0)
          have dZ8 : ∀ {k : Nat} {i j : Int}, zhall k = true → ¬ (k = 11 ∧ (j = 15 ∨ j = 16)) → Z8 k 0 i j = Z k 0 i j := fun hk hj => by rw [hZ8]; exact zdd_h (hZ).1 hk hj
          have jZ8 : zU [0, 2, 3, 4, 5, 6, 7, 8, 9] Z (zdd Z 10 a1 a2 a3 0 0 0) := zU_dd (hZ).1
          rw [← hZ8] at hZ8I kZ8 jZ8 hZ8A ⊢
          have hZ8U : zU [0, 2, 3, 4, 5, 6, 7, 8, 9] Z Z8 := zU_t zU_r jZ8 (zU_b1 (List.Mem.head _) (zU_b1 (List.Mem.tail _ (List.Mem.head _)) (zU_b1 (List.Mem.tail _ (List.Mem.tail _ (List.Mem.head _))) (zU_b1 (List.Mem.tail _ (List.Mem.tail _ (List.Mem.tail _ (List.Mem.head _)))) (zU_b1 (List.Mem.tail _ (List.Mem.tail _ (List.Mem.tail _ (List.Mem.tail _ (List.Mem.head _))))) (zU_b1 (List.Mem.tail _ (List.Mem.tail _ (List.Mem.tail _ (List.Mem.tail _ (List.Mem.tail _ (List.Mem.head _)))))) (zU_b1 (List.Mem.tail _ (List.Mem.tail _ (List.Mem.tail _ (List.Mem.tail _ (List.Mem.tail _ (List.Mem.tail _ (List.Mem.head _))))))) (zU_b1 (List.Mem.tail _ (List.Mem.tail _ (List.Mem.tail _ (List.Mem.tail _ (List.Mem.tail _ (List.Mem.tail _ (List.Mem.tail _ (List.Mem.head _)))))))) (zU_b1 (List.Mem.tail _ (List.Mem.tail _ (List.Mem.tail _ (List.Mem.tail _ (List.Mem.tail _ (List.Mem.tail _ (List.Mem.tail _ (List.Mem.tail _ (List.Mem.head _))))))))) zU_b0)))))))))
          replace hP := zl_e hP hZ8
          have hZ8K : zC [3, 12, 13, 14, 40, 41, 42, 43, 44, 45, 46, 47, 48, 49, 50, 51, 52, 53, 54, 61, 68, 1099, 1100, 1101, 1102, 1103, 1104, 1105, 1106, 1107, 1108, 1109, 1110, 1111, 1112, 1113, 1114, 1115, 1116] Z Z8 := zC_t zC_r kZ8 (by decide)
          clear kZ8 hZ8
          refine fw_121 _ _ _ _ ?_
          refine wz_i1 rfl ?_
          refine wz_i0 (i3O (n := 7) (show (0 : Int32) = i3 0 from rfl) (by omega) (by omega) (by omega)) ?_
          refine wz_i0 (Eq.trans (i3To (Eq.trans (zm_rd (Z := Z8) (ν := ν) (k := 68) (show ((0 : Nat) : Int) = 0 from rfl) (show ((0 : Nat) : Int) = 0 from rfl) (show ((0 : Nat) : Int) = 0 from rfl)) (congrArg i3 ((hZ8A.1)))) (by omega) (by omega)) (decide_eq_false (by omega))) ?_
          refine wz_i0 (Eq.trans (i3T (Eq.trans (zm_rd (Z := Z8) (ν := ν) (k := 68) (show ((0 : Nat) : Int) = 0 from rfl) (show ((0 : Nat) : Int) = 0 from rfl) (show ((0 : Nat) : Int) = 0 from rfl)) (congrArg i3 ((hZ8A.1)))) (by omega) (by omega)) (decide_eq_false (by omega))) ?_
          refine wz_i0 (Eq.trans (i3T (Eq.trans (zm_rd (Z := Z8) (ν := ν) (k := 68) (show ((0 : Nat) : Int) = 0 from rfl) (show ((0 : Nat) : Int) = 0 from rfl) (show ((0 : Nat) : Int) = 0 from rfl)) (congrArg i3 ((hZ8A.1)))) (by omega) (by omega)) (decide_eq_false (by omega))) ?_
          refine wz_i0 (Eq.trans (i3T (Eq.trans (zm_rd (Z := Z8) (ν := ν) (k := 68) (show ((0 : Nat) : Int) = 0 from rfl) (show ((0 : Nat) : Int) = 0 from rfl) (show ((0 : Nat) : Int) = 0 from rfl)) (congrArg i3 ((hZ8A.1)))) (by omega) (by omega)) (decide_eq_false (by omega))) ?_
          refine wz_i0 (Eq.trans (i3T (Eq.trans (zm_rd (Z := Z8) (ν := ν) (k := 68) (show ((0 : Nat) : Int) = 0 from rfl) (show ((0 : Nat) : Int) = 0 from rfl) (show ((0 : Nat) : Int) = 0 from rfl)) (congrArg i3 ((hZ8A.1)))) (by omega) (by omega)) (decide_eq_false (by omega))) ?_
          refine wz_i0 (Eq.trans (i3T (Eq.trans (zm_rd (Z := Z8) (ν := ν) (k := 68) (show ((0 : Nat) : Int) = 0 from rfl) (show ((0 : Nat) : Int) = 0 from rfl) (show ((0 : Nat) : Int) = 0 from rfl)) (congrArg i3 ((hZ8A.1)))) (by omega) (by omega)) (decide_eq_false (by omega))) ?_
          refine wz_i0 (Eq.trans (i3T (Eq.trans (zm_rd (Z := Z8) (ν := ν) (k := 68) (show ((0 : Nat) : Int) = 0 from rfl) (show ((0 : Nat) : Int) = 0 from rfl) (show ((0 : Nat) : Int) = 0 from rfl)) (congrArg i3 ((hZ8A.1)))) (by omega) (by omega)) (decide_eq_false (by omega))) ?_
          refine wz_i0 (Eq.trans (i3T (Eq.trans (zm_rd (Z := Z8) (ν := ν) (k := 68) (show ((0 : Nat) : Int) = 0 from rfl) (show ((0 : Nat) : Int) = 0 from rfl) (show ((0 : Nat) : Int) = 0 from rfl)) (congrArg i3 ((hZ8A.1)))) (by omega) (by omega)) (decide_eq_false (by omega))) ?_
          refine wz_i0 (Eq.trans (i3T (Eq.trans (zm_rd (Z := Z8) (ν := ν) (k := 68) (show ((0 : Nat) : Int) = 0 from rfl) (show ((0 : Nat) : Int) = 0 from rfl) (show ((0 : Nat) : Int) = 0 from rfl)) (congrArg i3 ((hZ8A.1)))) (by omega) (by omega)) (decide_eq_false (by omega))) ?_
          refine wz_i0 (Eq.trans (i3T (Eq.trans (zm_rd (Z := Z8) (ν := ν) (k := 68) (show ((0 : Nat) : Int) = 0 from rfl) (show ((0 : Nat) : Int) = 0 from rfl) (show ((0 : Nat) : Int) = 0 from rfl)) (congrArg i3 ((hZ8A.1)))) (by omega) (by omega)) (decide_eq_false (by omega))) ?_
          refine wz_i0 (Eq.trans (i3T (Eq.trans (zm_rd (Z := Z8) (ν := ν) (k := 68) (show ((0 : Nat) : Int) = 0 from rfl) (show ((0 : Nat) : Int) = 0 from rfl) (show ((0 : Nat) : Int) = 0 from rfl)) (congrArg i3 ((hZ8A.1)))) (by omega) (by omega)) (decide_eq_false (by omega))) ?_
          refine wz_i1 (Eq.trans (i3T (Eq.trans (zm_rd (Z := Z8) (ν := ν) (k := 68) (show ((0 : Nat) : Int) = 0 from rfl) (show ((0 : Nat) : Int) = 0 from rfl) (show ((0 : Nat) : Int) = 0 from rfl)) (congrArg i3 ((hZ8A.1)))) (by omega) (by omega)) (decide_eq_true (by omega))) ?_
          refine wz_i1 rfl ?_
          refine wz_i0 (i3O (n := 7) (show (1 : Int32) = i3 1 from rfl) (by omega) (by omega) (by omega)) ?_
          refine wz_i1 rfl ?_
          refine wz_i0 (i3O (n := 7) (show (2 : Int32) = i3 2 from rfl) (by omega) (by omega) (by omega)) ?_
          refine wz_i1 rfl ?_
          refine wz_i0 (i3O (n := 7) (show (3 : Int32) = i3 3 from rfl) (by omega) (by omega) (by omega)) ?_
          have r9 := zH_k hZ8I 11 0 0 4 (lo := 0) (hi := 8) (by decide) rfl
          have q10 := dZ8 (k := 11) (i := 0) (j := 4) (by decide) (by omega)
          refine wz_i0 (i3O (n := 8) (zm_rd (Z := Z8) (ν := ν) (k := 11) (show ((0 : Nat) : Int) = 0 from rfl) (show ((0 : Nat) : Int) = 0 from rfl) (show ((4 : Nat) : Int) = 4 from rfl)) (by omega) (by omega) (by omega)) ?_
          obtain ⟨Z11, hZ11⟩ := zx (zu Z8 45 0 (Z8 11 0 0 4) 0 a1)
          replace hP := zl_e hP hZ11
          have hZ11I := zH_u hZ8I hZ11 (lo := 0) (hi := 4) (by decide) rfl (by omega) ⟨by decide, by decide⟩ (Or.inl (by decide)) rfl
          have hZ11U : zU [0, 2, 3, 4, 5, 6, 7, 8, 9] Z Z11 := zU_u hZ8U hZ11 (Or.inr (List.Mem.head _))
          have hZ11K : zC [3, 12, 13, 14, 40, 41, 42, 43, 44, 45, 46, 47, 48, 49, 50, 51, 52, 53, 54, 61, 68, 1099, 1100, 1101, 1102, 1103, 1104, 1105, 1106, 1107, 1108, 1109, 1110, 1111, 1112, 1113, 1114, 1115, 1116] Z Z11 := zC_u hZ8K hZ11 (by decide)
          intro μ9 e9
          replace e9 := e9.trans (zm_wI (Z := Z8) (ν := ν) hZ11 (show ((0 : Nat) : Int) = 0 from rfl) (i3I (y := (Z8 11 0 0 4)) (zm_rd (Z := Z8) (ν := ν) (k := 11) (show ((0 : Nat) : Int) = 0 from rfl) (show ((0 : Nat) : Int) = 0 from rfl) (show ((4 : Nat) : Int) = 4 from rfl)) (by omega) (by omega) (by omega)) (show ((0 : Nat) : Int) = 0 from rfl) (Eq.trans (zm_rd (Z := Z8) (ν := ν) (k := 68) (show ((0 : Nat) : Int) = 0 from rfl) (show ((0 : Nat) : Int) = 0 from rfl) (show ((1 : Nat) : Int) = 1 from rfl)) (congrArg i3 ((hZ8A.2.1)))))
          subst e9
          obtain ⟨Z12, hZ12⟩ := zx (zu Z11 45 0 (Z8 11 0 0 4) 1 a2)
          replace hP := zl_e hP hZ12
          have hZ12I := zH_u hZ11I hZ12 (lo := 0) (hi := 9999999) (by decide) rfl (by omega) ⟨by decide, by decide⟩ (Or.inl (by decide)) rfl
          have hZ12U : zU [0, 2, 3, 4, 5, 6, 7, 8, 9] Z Z12 := zU_u hZ11U hZ12 (Or.inr (List.Mem.head _))
          have hZ12K : zC [3, 12, 13, 14, 40, 41, 42, 43, 44, 45, 46, 47, 48, 49, 50, 51, 52, 53, 54, 61, 68, 1099, 1100, 1101, 1102, 1103, 1104, 1105, 1106, 1107, 1108, 1109, 1110, 1111, 1112, 1113, 1114, 1115, 1116] Z Z12 := zC_u hZ11K hZ12 (by decide)
          intro μ9 e9
          replace e9 := e9.trans (zm_wI (Z := Z11) (ν := ν) hZ12 (show ((0 : Nat) : Int) = 0 from rfl) (i3I (y := (Z8 11 0 0 4)) (zm_rd (Z := Z8) (ν := ν) (k := 11) (show ((0 : Nat) : Int) = 0 from rfl) (show ((0 : Nat) : Int) = 0 from rfl) (show ((4 : Nat) : Int) = 4 from rfl)) (by omega) (by omega) (by omega)) (show ((1 : Nat) : Int) = 1 from rfl) (Eq.trans (zm_rd (Z := Z8) (ν := ν) (k := 68) (show ((0 : Nat) : Int) = 0 from rfl) (show ((0 : Nat) : Int) = 0 from rfl) (show ((2 : Nat) : Int) = 2 from rfl)) (congrArg i3 ((hZ8A.2.2.1)))))
          subst e9
          obtain ⟨Z13, hZ13⟩ := zx (zu Z12 45 0 (Z8 11 0 0 4) 2 a3)
          replace hP := zl_e hP hZ13
          have hZ13I := zH_u hZ12I hZ13 (lo := 0) (hi := 14) (by decide) rfl (by omega) ⟨by decide, by decide⟩ (Or.inl (by decide)) rfl
          have hZ13U : zU [0, 2, 3, 4, 5, 6, 7, 8, 9] Z Z13 := zU_u hZ12U hZ13 (Or.inr (List.Mem.head _))
          have hZ13K : zC [3, 12, 13, 14, 40, 41, 42, 43, 44, 45, 46, 47, 48, 49, 50, 51, 52, 53, 54, 61, 68, 1099, 1100, 1101, 1102, 1103, 1104, 1105, 1106, 1107, 1108, 1109, 1110, 1111, 1112, 1113, 1114, 1115, 1116] Z Z13 := zC_u hZ12K hZ13 (by decide)
          intro μ9 e9
          replace e9 := e9.trans (zm_wI (Z := Z12) (ν := ν) hZ13 (show ((0 : Nat) : Int) = 0 from rfl) (i3I (y := (Z8 11 0 0 4)) (zm_rd (Z := Z8) (ν := ν) (k := 11) (show ((0 : Nat) : Int) = 0 from rfl) (show ((0 : Nat) : Int) = 0 from rfl) (show ((4 : Nat) : Int) = 4 from rfl)) (by omega) (by omega) (by omega)) (show ((2 : Nat) : Int) = 2 from rfl) (Eq.trans (zm_rd (Z := Z8) (ν := ν) (k := 68) (show ((0 : Nat) : Int) = 0 from rfl) (show ((0 : Nat) : Int) = 0 from rfl) (show ((3 : Nat) : Int) = 3 from rfl)) (congrArg i3 ((hZ8A.2.2.2.1)))))
          subst e9
          have r14 := zH_k hZ13I 11 0 0 4 (lo := 0) (hi := 8) (by decide) rfl
          have q15 := (zu_ne (k' := 11) (b' := 0) (i' := 0) (j' := 4) hZ13 (fun q => absurd q.1 (by decide))).trans ((zu_ne (k' := 11) (b' := 0) (i' := 0) (j' := 4) hZ12 (fun q => absurd q.1 (by decide))).trans (zu_ne (k' := 11) (b' := 0) (i' := 0) (j' := 4) hZ11 (fun q => absurd q.1 (by decide))))
          obtain ⟨Z16, hZ16⟩ := zx (zu Z13 11 0 0 4 ((Z13 11 0 0 4) + 1))
          replace hP := zl_e hP hZ16
          have hZ16I := zH_u hZ13I hZ16 (lo := 0) (hi := 8) (by decide) rfl (by omega) ⟨by decide, by decide⟩ (Or.inl (by decide)) rfl
          have hZ16U : zU [0, 2, 3, 4, 5, 6, 7, 8, 9] Z Z16 := zU_u hZ13U hZ16 (Or.inr (List.Mem.head _))
          have hZ16K : zC [3, 12, 13, 14, 40, 41, 42, 43, 44, 45, 46, 47, 48, 49, 50, 51, 52, 53, 54, 61, 68, 1099, 1100, 1101, 1102, 1103, 1104, 1105, 1106, 1107, 1108, 1109, 1110, 1111, 1112, 1113, 1114, 1115, 1116] Z Z16 := zC_u hZ13K hZ16 (by decide)
          intro μ9 e9
          replace e9 := e9.trans (zm_wI (Z := Z13) (ν := ν) hZ16 (show ((0 : Nat) : Int) = 0 from rfl) (show ((0 : Nat) : Int) = 0 from rfl) (show ((4 : Nat) : Int) = 4 from rfl) (i3A (zm_rd (Z := Z13) (ν := ν) (k := 11) (show ((0 : Nat) : Int) = 0 from rfl) (show ((0 : Nat) : Int) = 0 from rfl) (show ((4 : Nat) : Int) = 4 from rfl)) (show (1 : Int32) = i3 1 from rfl)))
          subst e9
          exact zlG hP (zm_rd (Z := Z13) (ν := ν) (k := 11) (show ((0 : Nat) : Int) = 0 from rfl) (show ((0 : Nat) : Int) = 0 from rfl) (show ((4 : Nat) : Int) = 4 from rfl)) ⟨hZ16I, hZ16K, hZ16U, zG_w zG_r (Nat.le_of_ble_eq_true rfl) (Nat.le_of_ble_eq_true rfl)⟩
      · replace hP := zE_n hP h3
        exact zlGe (E := 12) hP ⟨hZ, zC_r, zU_r, zG_w (zG_k rfl) (Nat.le_of_ble_eq_true rfl) (Nat.le_of_ble_eq_true rfl)⟩
    · replace hP := zE_n hP h2
      exact zlGe (E := 12) hP ⟨hZ, zC_r, zU_r, zG_w (zG_k rfl) (Nat.le_of_ble_eq_true rfl) (Nat.le_of_ble_eq_true rfl)⟩
  · replace hP := zE_n hP h1
    exact zlGe (E := 23) hP ⟨hZ, zC_r, zU_r, zG_w (zG_k rfl) (Nat.le_of_ble_eq_true rfl) (Nat.le_of_ble_eq_true rfl)⟩
/- yX11_cancel -/
def zx_192 (Z : qz_Z) (a1 : Int) : qz_Z × Int × Int := (if a1 < 0 then (Z, 0, 24) else (if a1 < (Z 11 0 0 5) then (if (Z 46 0 a1 7) ≠ 0 then (Z, 0, 15) else (zlet (zdd Z 12 a1 0 0 0 0 0) (fun Z6 => (zlet (zu Z6 46 0 a1 6 0) (fun Z7 => (zlet (zu Z7 46 0 a1 7 1) (fun Z8 => (Z8, (Z6 46 0 a1 6), 0)))))))) else (Z, 0, 24)))
theorem sx_192 {M : Nat} {Z : qz_Z} {ν : qz_N} (hZ : zH ((none, M) : zSM) Z) (hM : ((none, M) : zSM).2 + 0 ≤ 1000000000) {a1 : Int} (ga1 : -2147483648 ≤ a1 ∧ a1 ≤ 2147483647) : ∃ (Z1 : qz_Z) (ν1 : qz_N) (v E : Int), (Z1, v, E) = zx_192 Z a1 ∧ qf_192 [.inr (.inr (some (0, 0, 0))), .inl (i3 a1)] (zm Z ν) = some (zm Z1 ν1, zoX v E) ∧ (fun Z1 ν1 => zH ((none, M) : zSM) Z1 ∧ zC [3, 12, 13, 14, 40, 41, 42, 43, 44, 45, 46, 47, 48, 49, 50, 51, 52, 53, 54, 61, 68, 1099, 1100, 1101, 1102, 1103, 1104, 1105, 1106, 1107, 1108, 1109, 1110, 1111, 1112, 1113, 1114, 1115, 1116] Z Z1 ∧ zU [0, 2, 3, 4, 5, 6, 7, 8, 9] Z Z1 ∧ zG 1 6 ν ν1) Z1 ν1 := by
  obtain ⟨P, hP⟩ := zx (zx_192 Z a1)
  refine zc_G (Q := fun Z1 ν1 => zH ((none, M) : zSM) Z1 ∧ zC [3, 12, 13, 14, 40, 41, 42, 43, 44, 45, 46, 47, 48, 49, 50, 51, 52, 53, 54, 61, 68, 1099, 1100, 1101, 1102, 1103, 1104, 1105, 1106, 1107, 1108, 1109, 1110, 1111, 1112, 1113, 1114, 1115, 1116] Z Z1 ∧ zU [0, 2, 3, 4, 5, 6, 7, 8, 9] Z Z1 ∧ zG 1 6 ν ν1) hP (fw_192 (i3 a1) _ _ ?_)
  replace hP : zE P (zx_192 Z a1) := hP
  unfold zx_192 at hP
  refine wz_br (i3L (rfl : i3 a1 = i3 a1) (show (0 : Int32) = i3 0 from rfl) (by omega) (by omega) (by omega) (by omega)) (fun h1 => ?_) (fun h1 => ?_)
  · replace hP := zE_p hP h1
    exact zlGe (E := 23) hP ⟨hZ, zC_r, zU_r, zG_w (zG_k rfl) (Nat.le_of_ble_eq_true rfl) (Nat.le_of_ble_eq_true rfl)⟩
  · replace hP := zE_n hP h1
    have r2 := zH_k hZ 11 0 0 5 (lo := 0) (hi := 24) (by decide) rfl
    refine wz_br (i3L (rfl : i3 a1 = i3 a1) (zm_rd (Z := Z) (ν := ν) (k := 11) (show ((0 : Nat) : Int) = 0 from rfl) (show ((0 : Nat) : Int) = 0 from rfl) (show ((5 : Nat) : Int) = 5 from rfl)) (by omega) (by omega) (by omega) (by omega)) (fun h3 => ?_) (fun h3 => ?_)
    · replace hP := zE_p hP h3
      refine wz_i0 (i3O (n := 24) (rfl : i3 a1 = i3 a1) (by omega) (by omega) (by omega)) ?_
      have r4 := zH_k hZ 46 0 a1 7 (lo := 0) (hi := 1) (by decide) rfl
      refine wz_br (i3NE (zm_rd (Z := Z) (ν := ν) (k := 46) (show ((0 : Nat) : Int) = 0 from rfl) (i3I (y := a1) (rfl : i3 a1 = i3 a1) (by omega) (by omega) (by omega)) (show ((7 : Nat) : Int) = 7 from rfl)) (show (0 : Int32) = i3 0 from rfl) (by omega) (by omega) (by omega) (by omega)) (fun h5 => ?_) (fun h5 => ?_)
      · replace hP := zE_p hP h5
        exact zlGe (E := 14) hP ⟨hZ, zC_r, zU_r, zG_w (zG_k rfl) (Nat.le_of_ble_eq_true rfl) (Nat.le_of_ble_eq_true rfl)⟩
      · replace hP := zE_n hP h5
        refine dc_J (zcons rfl (zcons (zvi (show (12 : Int32) = i3 12 from rfl)) (zcons (zvi (rfl : i3 a1 = i3 a1)) (zcons (zvi (show (0 : Int32) = i3 0 from rfl)) (zcons (zvi (show (0 : Int32) = i3 0 from rfl)) (zcons (zvi (show (0 : Int32) = i3 0 from rfl)) (zcons (zvi (show (0 : Int32) = i3 0 from rfl)) (zcons (zvi (show (0 : Int32) = i3 0 from rfl)) rfl)))))))) (dg (hZ).1 (by omega) (by omega) (by omega) (by omega) (by omega) (by omega) (by omega) ?_)
        have hZ6I := zH_dd hZ (a1 := 12) (a2 := a1) (a3 := 0) (a4 := 0) (a5 := 0) (a6 := 0) (a7 := 0) (by omega) (by omega) (by omega) (by omega) (by omega) (by omega) (by omega)
        have kZ6 : zC [3, 12, 13, 14, 40, 41, 42, 43, 44, 45, 46, 47, 48, 49, 50, 51, 52, 53, 54, 61, 68, 1099, 1100, 1101, 1102, 1103, 1104, 1105, 1106, 1107, 1108, 1109, 1110, 1111, 1112, 1113, 1114, 1115, 1116] Z (zdd Z 12 a1 0 0 0 0 0) := zC_k zdd_K (by decide) (by decide)
        have hZ6A : (zdd Z 12 a1 0 0 0 0 0) 68 0 0 0 = 12 ∧ (zdd Z 12 a1 0 0 0 0 0) 68 0 0 1 = a1 ∧ (zdd Z 12 a1 0 0 0 0 0) 68 0 0 2 = 0 ∧ (zdd Z 12 a1 0 0 0 0 0) 68 0 0 3 = 0 ∧ (zdd Z 12 a1 0 0 0 0 0) 68 0 0 4 = 0 ∧ (zdd Z 12 a1 0 0 0 0 0) 68 0 0 5 = 0 ∧ (zdd Z 12 a1 0 0 0 0 0) 68 0 0 6 = 0 := ⟨zdd_68, zdd_68, zdd_68, zdd_68, zdd_68, zdd_68, zdd_68⟩
        obtain ⟨Z6, hZ6⟩ := zx (zdd Z 12 a1 0 0 0 0 0)
        have dZ6 : ∀ {k : Nat} {i j : Int}, zhall k = true → ¬ (k = 11 ∧ (j = 15 ∨ j = 16)) → Z6 k 0 i j = Z k 0 i j := fun hk hj => by rw [hZ6]; exact zdd_h (hZ).1 hk hj
        have jZ6 : zU [0, 2, 3, 4, 5, 6, 7, 8, 9] Z (zdd Z 12 a1 0 0 0 0 0) := zU_dd (hZ).1
        rw [← hZ6] at hZ6I kZ6 jZ6 hZ6A ⊢
        have hZ6U : zU [0, 2, 3, 4, 5, 6, 7, 8, 9] Z Z6 := zU_t zU_r jZ6 (zU_b1 (List.Mem.head _) (zU_b1 (List.Mem.tail _ (List.Mem.head _)) (zU_b1 (List.Mem.tail _ (List.Mem.tail _ (List.Mem.head _))) (zU_b1 (List.Mem.tail _ (List.Mem.tail _ (List.Mem.tail _ (List.Mem.head _)))) (zU_b1 (List.Mem.tail _ (List.Mem.tail _ (List.Mem.tail _ (List.Mem.tail _ (List.Mem.head _))))) (zU_b1 (List.Mem.tail _ (List.Mem.tail _ (List.Mem.tail _ (List.Mem.tail _ (List.Mem.tail _ (List.Mem.head _)))))) (zU_b1 (List.Mem.tail _ (List.Mem.tail _ (List.Mem.tail _ (List.Mem.tail _ (List.Mem.tail _ (List.Mem.tail _ (List.Mem.head _))))))) (zU_b1 (List.Mem.tail _ (List.Mem.tail _ (List.Mem.tail _ (List.Mem.tail _ (List.Mem.tail _ (List.Mem.tail _ (List.Mem.tail _ (List.Mem.head _)))))))) (zU_b1 (List.Mem.tail _ (List.Mem.tail _ (List.Mem.tail _ (List.Mem.tail _ (List.Mem.tail _ (List.Mem.tail _ (List.Mem.tail _ (List.Mem.tail _ (List.Mem.head _))))))))) zU_b0)))))))))
        replace hP := zl_e hP hZ6
        have hZ6K : zC [3, 12, 13, 14, 40, 41, 42, 43, 44, 45, 46, 47, 48, 49, 50, 51, 52, 53, 54, 61, 68, 1099, 1100, 1101, 1102, 1103, 1104, 1105, 1106, 1107, 1108, 1109, 1110, 1111, 1112, 1113, 1114, 1115, 1116] Z Z6 := zC_t zC_r kZ6 (by decide)
        clear kZ6 hZ6
        refine fw_121 _ _ _ _ ?_
        refine wz_i1 rfl ?_
        refine wz_i0 (i3O (n := 7) (show (0 : Int32) = i3 0 from rfl) (by omega) (by omega) (by omega)) ?_
        refine wz_i0 (Eq.trans (i3To (Eq.trans (zm_rd (Z := Z6) (ν := ν) (k := 68) (show ((0 : Nat) : Int) = 0 from rfl) (show ((0 : Nat) : Int) = 0 from rfl) (show ((0 : Nat) : Int) = 0 from rfl)) (congrArg i3 ((hZ6A.1)))) (by omega) (by omega)) (decide_eq_false (by omega))) ?_
        refine wz_i0 (Eq.trans (i3T (Eq.trans (zm_rd (Z := Z6) (ν := ν) (k := 68) (show ((0 : Nat) : Int) = 0 from rfl) (show ((0 : Nat) : Int) = 0 from rfl) (show ((0 : Nat) : Int) = 0 from rfl)) (congrArg i3 ((hZ6A.1)))) (by omega) (by omega)) (decide_eq_false (by omega))) ?_
        refine wz_i0 (Eq.trans (i3T (Eq.trans (zm_rd (Z := Z6) (ν := ν) (k := 68) (show ((0 : Nat) : Int) = 0 from rfl) (show ((0 : Nat) : Int) = 0 from rfl) (show ((0 : Nat) : Int) = 0 from rfl)) (congrArg i3 ((hZ6A.1)))) (by omega) (by omega)) (decide_eq_false (by omega))) ?_
        refine wz_i0 (Eq.trans (i3T (Eq.trans (zm_rd (Z := Z6) (ν := ν) (k := 68) (show ((0 : Nat) : Int) = 0 from rfl) (show ((0 : Nat) : Int) = 0 from rfl) (show ((0 : Nat) : Int) = 0 from rfl)) (congrArg i3 ((hZ6A.1)))) (by omega) (by omega)) (decide_eq_false (by omega))) ?_
        refine wz_i0 (Eq.trans (i3T (Eq.trans (zm_rd (Z := Z6) (ν := ν) (k := 68) (show ((0 : Nat) : Int) = 0 from rfl) (show ((0 : Nat) : Int) = 0 from rfl) (show ((0 : Nat) : Int) = 0 from rfl)) (congrArg i3 ((hZ6A.1)))) (by omega) (by omega)) (decide_eq_false (by omega))) ?_
        refine wz_i0 (Eq.trans (i3T (Eq.trans (zm_rd (Z := Z6) (ν := ν) (k := 68) (show ((0 : Nat) : Int) = 0 from rfl) (show ((0 : Nat) : Int) = 0 from rfl) (show ((0 : Nat) : Int) = 0 from rfl)) (congrArg i3 ((hZ6A.1)))) (by omega) (by omega)) (decide_eq_false (by omega))) ?_
        refine wz_i0 (Eq.trans (i3T (Eq.trans (zm_rd (Z := Z6) (ν := ν) (k := 68) (show ((0 : Nat) : Int) = 0 from rfl) (show ((0 : Nat) : Int) = 0 from rfl) (show ((0 : Nat) : Int) = 0 from rfl)) (congrArg i3 ((hZ6A.1)))) (by omega) (by omega)) (decide_eq_false (by omega))) ?_
        refine wz_i0 (Eq.trans (i3T (Eq.trans (zm_rd (Z := Z6) (ν := ν) (k := 68) (show ((0 : Nat) : Int) = 0 from rfl) (show ((0 : Nat) : Int) = 0 from rfl) (show ((0 : Nat) : Int) = 0 from rfl)) (congrArg i3 ((hZ6A.1)))) (by omega) (by omega)) (decide_eq_false (by omega))) ?_
        refine wz_i0 (Eq.trans (i3T (Eq.trans (zm_rd (Z := Z6) (ν := ν) (k := 68) (show ((0 : Nat) : Int) = 0 from rfl) (show ((0 : Nat) : Int) = 0 from rfl) (show ((0 : Nat) : Int) = 0 from rfl)) (congrArg i3 ((hZ6A.1)))) (by omega) (by omega)) (decide_eq_false (by omega))) ?_
        refine wz_i0 (Eq.trans (i3T (Eq.trans (zm_rd (Z := Z6) (ν := ν) (k := 68) (show ((0 : Nat) : Int) = 0 from rfl) (show ((0 : Nat) : Int) = 0 from rfl) (show ((0 : Nat) : Int) = 0 from rfl)) (congrArg i3 ((hZ6A.1)))) (by omega) (by omega)) (decide_eq_false (by omega))) ?_
        refine wz_i0 (Eq.trans (i3T (Eq.trans (zm_rd (Z := Z6) (ν := ν) (k := 68) (show ((0 : Nat) : Int) = 0 from rfl) (show ((0 : Nat) : Int) = 0 from rfl) (show ((0 : Nat) : Int) = 0 from rfl)) (congrArg i3 ((hZ6A.1)))) (by omega) (by omega)) (decide_eq_false (by omega))) ?_
        refine wz_i0 (Eq.trans (i3T (Eq.trans (zm_rd (Z := Z6) (ν := ν) (k := 68) (show ((0 : Nat) : Int) = 0 from rfl) (show ((0 : Nat) : Int) = 0 from rfl) (show ((0 : Nat) : Int) = 0 from rfl)) (congrArg i3 ((hZ6A.1)))) (by omega) (by omega)) (decide_eq_false (by omega))) ?_
        refine wz_i0 (Eq.trans (i3T (Eq.trans (zm_rd (Z := Z6) (ν := ν) (k := 68) (show ((0 : Nat) : Int) = 0 from rfl) (show ((0 : Nat) : Int) = 0 from rfl) (show ((0 : Nat) : Int) = 0 from rfl)) (congrArg i3 ((hZ6A.1)))) (by omega) (by omega)) (decide_eq_false (by omega))) ?_
        refine wz_i1 (Eq.trans (i3T (Eq.trans (zm_rd (Z := Z6) (ν := ν) (k := 68) (show ((0 : Nat) : Int) = 0 from rfl) (show ((0 : Nat) : Int) = 0 from rfl) (show ((0 : Nat) : Int) = 0 from rfl)) (congrArg i3 ((hZ6A.1)))) (by omega) (by omega)) (decide_eq_true (by omega))) ?_
        refine wz_i1 rfl ?_
        refine wz_i0 (i3O (n := 7) (show (1 : Int32) = i3 1 from rfl) (by omega) (by omega) (by omega)) ?_
        refine wz_i0 (i3O (n := 24) (Eq.trans (zm_rd (Z := Z6) (ν := ν) (k := 68) (show ((0 : Nat) : Int) = 0 from rfl) (show ((0 : Nat) : Int) = 0 from rfl) (show ((1 : Nat) : Int) = 1 from rfl)) (congrArg i3 ((hZ6A.2.1)))) (by omega) (by omega) (by omega)) ?_
        obtain ⟨Z7, hZ7⟩ := zx (zu Z6 46 0 a1 6 0)
        replace hP := zl_e hP hZ7
        have hZ7I := zH_0 hZ6I hZ7 (by decide) (Or.inl (by decide))
        have hZ7U : zU [0, 2, 3, 4, 5, 6, 7, 8, 9] Z Z7 := zU_u hZ6U hZ7 (Or.inr (List.Mem.head _))
        have hZ7K : zC [3, 12, 13, 14, 40, 41, 42, 43, 44, 45, 46, 47, 48, 49, 50, 51, 52, 53, 54, 61, 68, 1099, 1100, 1101, 1102, 1103, 1104, 1105, 1106, 1107, 1108, 1109, 1110, 1111, 1112, 1113, 1114, 1115, 1116] Z Z7 := zC_u hZ6K hZ7 (by decide)
        intro μ9 e9
        replace e9 := e9.trans (zm_wI (Z := Z6) (ν := ν) hZ7 (show ((0 : Nat) : Int) = 0 from rfl) (i3I (y := a1) (Eq.trans (zm_rd (Z := Z6) (ν := ν) (k := 68) (show ((0 : Nat) : Int) = 0 from rfl) (show ((0 : Nat) : Int) = 0 from rfl) (show ((1 : Nat) : Int) = 1 from rfl)) (congrArg i3 ((hZ6A.2.1)))) (by omega) (by omega) (by omega)) (show ((6 : Nat) : Int) = 6 from rfl) (show (0 : Int32) = i3 0 from rfl))
        subst e9
        obtain ⟨Z8, hZ8⟩ := zx (zu Z7 46 0 a1 7 1)
        replace hP := zl_e hP hZ8
        have hZ8I := zH_u hZ7I hZ8 (lo := 0) (hi := 1) (by decide) rfl (by omega) ⟨by decide, by decide⟩ (Or.inl (by decide)) rfl
        have hZ8U : zU [0, 2, 3, 4, 5, 6, 7, 8, 9] Z Z8 := zU_u hZ7U hZ8 (Or.inr (List.Mem.head _))
        have hZ8K : zC [3, 12, 13, 14, 40, 41, 42, 43, 44, 45, 46, 47, 48, 49, 50, 51, 52, 53, 54, 61, 68, 1099, 1100, 1101, 1102, 1103, 1104, 1105, 1106, 1107, 1108, 1109, 1110, 1111, 1112, 1113, 1114, 1115, 1116] Z Z8 := zC_u hZ7K hZ8 (by decide)
        intro μ9 e9
        replace e9 := e9.trans (zm_wI (Z := Z7) (ν := ν) hZ8 (show ((0 : Nat) : Int) = 0 from rfl) (i3I (y := a1) (Eq.trans (zm_rd (Z := Z6) (ν := ν) (k := 68) (show ((0 : Nat) : Int) = 0 from rfl) (show ((0 : Nat) : Int) = 0 from rfl) (show ((1 : Nat) : Int) = 1 from rfl)) (congrArg i3 ((hZ6A.2.1)))) (by omega) (by omega) (by omega)) (show ((7 : Nat) : Int) = 7 from rfl) (show (1 : Int32) = i3 1 from rfl))
        subst e9
        have r9 := zH_k hZ6I 46 0 a1 6 (lo := 0) (hi := 99) (by decide) rfl
        exact zlG hP (zm_rd (Z := Z6) (ν := ν) (k := 46) (show ((0 : Nat) : Int) = 0 from rfl) (i3I (y := a1) (Eq.trans (zm_rd (Z := Z6) (ν := ν) (k := 68) (show ((0 : Nat) : Int) = 0 from rfl) (show ((0 : Nat) : Int) = 0 from rfl) (show ((1 : Nat) : Int) = 1 from rfl)) (congrArg i3 ((hZ6A.2.1)))) (by omega) (by omega) (by omega)) (show ((6 : Nat) : Int) = 6 from rfl)) ⟨hZ8I, hZ8K, hZ8U, zG_w zG_r (Nat.le_of_ble_eq_true rfl) (Nat.le_of_ble_eq_true rfl)⟩
    · replace hP := zE_n hP h3
      exact zlGe (E := 23) hP ⟨hZ, zC_r, zU_r, zG_w (zG_k rfl) (Nat.le_of_ble_eq_true rfl) (Nat.le_of_ble_eq_true rfl)⟩
/- yX11_clock -/
def zx_193 (Z : qz_Z) (a1 : Int) (a2 : Int) (a3 : Int) (a4 : Int) (a5 : Int) : qz_Z × Int × Int := (if 0 ≤ a1 ∧ a1 ≤ 23 then (if 1 ≤ a2 ∧ a2 ≤ (min (24 - a1) 6) then (if 1 ≤ a3 ∧ a3 ≤ 6 then (if 1 ≤ a4 ∧ a4 ≤ 500 then (if 0 ≤ a5 ∧ a5 ≤ 9 then (if 2 ≤ (Z 11 0 0 7) then (Z, 0, 15) else (zlet (zdd Z 14 a1 a2 a3 a4 a5 0) (fun Z10 => (zlet (zu Z10 48 0 (Z10 11 0 0 7) 0 a1) (fun Z13 => (zlet (zu Z13 48 0 (Z10 11 0 0 7) 1 a2) (fun Z14 => (zlet (zu Z14 48 0 (Z10 11 0 0 7) 2 a3) (fun Z15 => (zlet (zu Z15 48 0 (Z10 11 0 0 7) 3 a4) (fun Z16 => (zlet (zu Z16 48 0 (Z10 11 0 0 7) 4 a5) (fun Z17 => (zlet (zu Z17 48 0 (Z10 11 0 0 7) 6 (-1)) (fun Z18 => (zlet (zu Z18 48 0 (Z10 11 0 0 7) 7 (-1)) (fun Z19 => (zlet (zu Z19 11 0 0 7 ((Z19 11 0 0 7) + 1)) (fun Z22 => (Z22, (Z19 11 0 0 7), 0)))))))))))))))))))) else (Z, 0, 13)) else (Z, 0, 13)) else (Z, 0, 13)) else (Z, 0, 13)) else (Z, 0, 13))
theorem sx_193 {M : Nat} {Z : qz_Z} {ν : qz_N} (hZ : zH ((none, M) : zSM) Z) (hM : ((none, M) : zSM).2 + 0 ≤ 1000000000) {a1 : Int} (ga1 : -2147483648 ≤ a1 ∧ a1 ≤ 2147483647) {a2 : Int} (ga2 : -2147483648 ≤ a2 ∧ a2 ≤ 2147483647) {a3 : Int} (ga3 : -2147483648 ≤ a3 ∧ a3 ≤ 2147483647) {a4 : Int} (ga4 : -2147483648 ≤ a4 ∧ a4 ≤ 2147483647) {a5 : Int} (ga5 : -2147483648 ≤ a5 ∧ a5 ≤ 2147483647) : ∃ (Z1 : qz_Z) (ν1 : qz_N) (v E : Int), (Z1, v, E) = zx_193 Z a1 a2 a3 a4 a5 ∧ qf_193 [.inr (.inr (some (0, 0, 0))), .inl (i3 a1), .inl (i3 a2), .inl (i3 a3), .inl (i3 a4), .inl (i3 a5)] (zm Z ν) = some (zm Z1 ν1, zoX v E) ∧ (fun Z1 ν1 => zH ((none, M) : zSM) Z1 ∧ zC [3, 12, 13, 14, 40, 41, 42, 43, 44, 45, 46, 47, 48, 49, 50, 51, 52, 53, 54, 61, 68, 1099, 1100, 1101, 1102, 1103, 1104, 1105, 1106, 1107, 1108, 1109, 1110, 1111, 1112, 1113, 1114, 1115, 1116] Z Z1 ∧ zU [0, 2, 3, 4, 5, 6, 7, 8, 9] Z Z1 ∧ zG 1 6 ν ν1) Z1 ν1 := by
  obtain ⟨P, hP⟩ := zx (zx_193 Z a1 a2 a3 a4 a5)
  refine zc_G (Q := fun Z1 ν1 => zH ((none, M) : zSM) Z1 ∧ zC [3, 12, 13, 14, 40, 41, 42, 43, 44, 45, 46, 47, 48, 49, 50, 51, 52, 53, 54, 61, 68, 1099, 1100, 1101, 1102, 1103, 1104, 1105, 1106, 1107, 1108, 1109, 1110, 1111, 1112, 1113, 1114, 1115, 1116] Z Z1 ∧ zU [0, 2, 3, 4, 5, 6, 7, 8, 9] Z Z1 ∧ zG 1 6 ν ν1) hP (fw_193 (i3 a1) (i3 a2) (i3 a3) (i3 a4) (i3 a5) _ _ ?_)
  replace hP : zE P (zx_193 Z a1 a2 a3 a4 a5) := hP
  unfold zx_193 at hP
  refine wz_inR (rfl : i3 a1 = i3 a1) (show (0 : Int32) = i3 0 from rfl) (show (23 : Int32) = i3 23 from rfl) (by omega) (by omega) (by omega) (by omega) (by omega) (by omega) (fun h1 => ?_) (fun h1 => ?_)
  · replace hP := zE_p hP h1
    refine wz_inR (rfl : i3 a2 = i3 a2) (show (1 : Int32) = i3 1 from rfl) (i3Mn (i3S (show (24 : Int32) = i3 24 from rfl) (rfl : i3 a1 = i3 a1)) (show (6 : Int32) = i3 6 from rfl) (by omega) (by omega) (by omega) (by omega)) (by omega) (by omega) (by omega) (by omega) (by omega) (by omega) (fun h2 => ?_) (fun h2 => ?_)
    · replace hP := zE_p hP h2
      refine wz_inR (rfl : i3 a3 = i3 a3) (show (1 : Int32) = i3 1 from rfl) (show (6 : Int32) = i3 6 from rfl) (by omega) (by omega) (by omega) (by omega) (by omega) (by omega) (fun h3 => ?_) (fun h3 => ?_)
      · replace hP := zE_p hP h3
        refine wz_inR (rfl : i3 a4 = i3 a4) (show (1 : Int32) = i3 1 from rfl) (show (500 : Int32) = i3 500 from rfl) (by omega) (by omega) (by omega) (by omega) (by omega) (by omega) (fun h4 => ?_) (fun h4 => ?_)
        · replace hP := zE_p hP h4
          refine wz_inR (rfl : i3 a5 = i3 a5) (show (0 : Int32) = i3 0 from rfl) (show (9 : Int32) = i3 9 from rfl) (by omega) (by omega) (by omega) (by omega) (by omega) (by omega) (fun h5 => ?_) (fun h5 => ?_)
          · replace hP := zE_p hP h5
            have r6 := zH_k hZ 11 0 0 7 (lo := 0) (hi := 2) (by decide) rfl
            refine wz_br (i3Le (show (2 : Int32) = i3 2 from rfl) (zm_rd (Z := Z) (ν := ν) (k := 11) (show ((0 : Nat) : Int) = 0 from rfl) (show ((0 : Nat) : Int) = 0 from rfl) (show ((7 : Nat) : Int) = 7 from rfl)) (by omega) (by omega) (by omega) (by omega)) (fun h7 => ?_) (fun h7 => ?_)
            · replace hP := zE_p hP h7
              refine wz_inT_n (show (0 : Int32) = i3 0 from rfl) (by omega) (by omega) (by omega) ?_
              exact zlGe (E := 14) hP ⟨hZ, zC_r, zU_r, zG_w (zG_k rfl) (Nat.le_of_ble_eq_true rfl) (Nat.le_of_ble_eq_true rfl)⟩
            · replace hP := zE_n hP h7
              refine wz_inT_y (show (1 : Int32) = i3 1 from rfl) (by omega) (by omega) (by omega) ?_
              refine dc_J (zcons rfl (zcons (zvi (show (14 : Int32) = i3 14 from rfl)) (zcons (zvi (rfl : i3 a1 = i3 a1)) (zcons (zvi (rfl : i3 a2 = i3 a2)) (zcons (zvi (rfl : i3 a3 = i3 a3)) (zcons (zvi (rfl : i3 a4 = i3 a4)) (zcons (zvi (rfl : i3 a5 = i3 a5)) (zcons (zvi (show (0 : Int32) = i3 0 from rfl)) rfl)))))))) (dg (hZ).1 (by omega) (by omega) (by omega) (by omega) (by omega) (by omega) (by omega) ?_)
              have hZ10I := zH_dd hZ (a1 := 14) (a2 := a1) (a3 := a2) (a4 := a3) (a5 := a4) (a6 := a5) (a7 := 0) (by omega) (by omega) (by omega) (by omega) (by omega) (by omega) (by omega)
              have kZ10 : zC [3, 12, 13, 14, 40, 41, 42, 43, 44, 45, 46, 47, 48, 49, 50, 51, 52, 53, 54, 61, 68, 1099, 1100, 1101, 1102, 1103, 1104, 1105, 1106, 1107, 1108, 1109, 1110, 1111, 1112, 1113, 1114, 1115, 1116] Z (zdd Z 14 a1 a2 a3 a4 a5 0) := zC_k zdd_K (by decide) (by decide)
              have hZ10A : (zdd Z 14 a1 a2 a3 a4 a5 0) 68 0 0 0 = 14 ∧ (zdd Z 14 a1 a2 a3 a4 a5 0) 68 0 0 1 = a1 ∧ (zdd Z 14 a1 a2 a3 a4 a5 0) 68 0 0 2 = a2 ∧ (zdd Z 14 a1 a2 a3 a4 a5 0) 68 0 0 3 = a3 ∧ (zdd Z 14 a1 a2 a3 a4 a5 0) 68 0 0 4 = a4 ∧ (zdd Z 14 a1 a2 a3 a4 a5 0) 68 0 0 5 = a5 ∧ (zdd Z 14 a1 a2 a3 a4 a5 0) 68 0 0 6 = 0 := ⟨zdd_68, zdd_68, zdd_68, zdd_68, zdd_68, zdd_68, zdd_68⟩
              obtain ⟨Z10, hZ10⟩ := zx (zdd Z 14 a1 a2 a3 a4 a5 0)
              have dZ10 : ∀ {k : Nat} {i j : Int}, zhall k = true → ¬ (k = 11 ∧ (j = 15 ∨ j = 16)) → Z10 k 0 i j = Z k 0 i j := fun hk hj => by rw [hZ10]; exact zdd_h (hZ).1 hk hj
              have jZ10 : zU [0, 2, 3, 4, 5, 6, 7, 8, 9] Z (zdd Z 14 a1 a2 a3 a4 a5 0) := zU_dd (hZ).1
              rw [← hZ10] at hZ10I kZ10 jZ10 hZ10A ⊢
              have hZ10U : zU [0, 2, 3, 4, 5, 6, 7, 8, 9] Z Z10 := zU_t zU_r jZ10 (zU_b1 (List.Mem.head _) (zU_b1 (List.Mem.tail _ (List.Mem.head _)) (zU_b1 (List.Mem.tail _ (List.Mem.tail _ (List.Mem.head _))) (zU_b1 (List.Mem.tail _ (List.Mem.tail _ (List.Mem.tail _ (List.Mem.head _)))) (zU_b1 (List.Mem.tail _ (List.Mem.tail _ (List.Mem.tail _ (List.Mem.tail _ (List.Mem.head _))))) (zU_b1 (List.Mem.tail _ (List.Mem.tail _ (List.Mem.tail _ (List.Mem.tail _ (List.Mem.tail _ (List.Mem.head _)))))) (zU_b1 (List.Mem.tail _ (List.Mem.tail _ (List.Mem.tail _ (List.Mem.tail _ (List.Mem.tail _ (List.Mem.tail _ (List.Mem.head _))))))) (zU_b1 (List.Mem.tail _ (List.Mem.tail _ (List.Mem.tail _ (List.Mem.tail _ (List.Mem.tail _ (List.Mem.tail _ (List.Mem.tail _ (List.Mem.head _)))))))) (zU_b1 (List.Mem.tail _ (List.Mem.tail _ (List.Mem.tail _ (List.Mem.tail _ (List.Mem.tail _ (List.Mem.tail _ (List.Mem.tail _ (List.Mem.tail _ (List.Mem.head _))))))))) zU_b0)))))))))
              replace hP := zl_e hP hZ10
              have hZ10K : zC [3, 12, 13, 14, 40, 41, 42, 43, 44, 45, 46, 47, 48, 49, 50, 51, 52, 53, 54, 61, 68, 1099, 1100, 1101, 1102, 1103, 1104, 1105, 1106, 1107, 1108, 1109, 1110, 1111, 1112, 1113, 1114, 1115, 1116] Z Z10 := zC_t zC_r kZ10 (by decide)
              clear kZ10 hZ10
              refine fw_121 _ _ _ _ ?_
              refine wz_i1 rfl ?_
              refine wz_i0 (i3O (n := 7) (show (0 : Int32) = i3 0 from rfl) (by omega) (by omega) (by omega)) ?_
              refine wz_i0 (Eq.trans (i3To (Eq.trans (zm_rd (Z := Z10) (ν := ν) (k := 68) (show ((0 : Nat) : Int) = 0 from rfl) (show ((0 : Nat) : Int) = 0 from rfl) (show ((0 : Nat) : Int) = 0 from rfl)) (congrArg i3 ((hZ10A.1)))) (by omega) (by omega)) (decide_eq_false (by omega))) ?_
              refine wz_i0 (Eq.trans (i3T (Eq.trans (zm_rd (Z := Z10) (ν := ν) (k := 68) (show ((0 : Nat) : Int) = 0 from rfl) (show ((0 : Nat) : Int) = 0 from rfl) (show ((0 : Nat) : Int) = 0 from rfl)) (congrArg i3 ((hZ10A.1)))) (by omega) (by omega)) (decide_eq_false (by omega))) ?_
              refine wz_i0 (Eq.trans (i3T (Eq.trans (zm_rd (Z := Z10) (ν := ν) (k := 68) (show ((0 : Nat) : Int) = 0 from rfl) (show ((0 : Nat) : Int) = 0 from rfl) (show ((0 : Nat) : Int) = 0 from rfl)) (congrArg i3 ((hZ10A.1)))) (by omega) (by omega)) (decide_eq_false (by omega))) ?_
              refine wz_i0 (Eq.trans (i3T (Eq.trans (zm_rd (Z := Z10) (ν := ν) (k := 68) (show ((0 : Nat) : Int) = 0 from rfl) (show ((0 : Nat) : Int) = 0 from rfl) (show ((0 : Nat) : Int) = 0 from rfl)) (congrArg i3 ((hZ10A.1)))) (by omega) (by omega)) (decide_eq_false (by omega))) ?_
              refine wz_i0 (Eq.trans (i3T (Eq.trans (zm_rd (Z := Z10) (ν := ν) (k := 68) (show ((0 : Nat) : Int) = 0 from rfl) (show ((0 : Nat) : Int) = 0 from rfl) (show ((0 : Nat) : Int) = 0 from rfl)) (congrArg i3 ((hZ10A.1)))) (by omega) (by omega)) (decide_eq_false (by omega))) ?_
              refine wz_i0 (Eq.trans (i3T (Eq.trans (zm_rd (Z := Z10) (ν := ν) (k := 68) (show ((0 : Nat) : Int) = 0 from rfl) (show ((0 : Nat) : Int) = 0 from rfl) (show ((0 : Nat) : Int) = 0 from rfl)) (congrArg i3 ((hZ10A.1)))) (by omega) (by omega)) (decide_eq_false (by omega))) ?_
              refine wz_i0 (Eq.trans (i3T (Eq.trans (zm_rd (Z := Z10) (ν := ν) (k := 68) (show ((0 : Nat) : Int) = 0 from rfl) (show ((0 : Nat) : Int) = 0 from rfl) (show ((0 : Nat) : Int) = 0 from rfl)) (congrArg i3 ((hZ10A.1)))) (by omega) (by omega)) (decide_eq_false (by omega))) ?_
              refine wz_i0 (Eq.trans (i3T (Eq.trans (zm_rd (Z := Z10) (ν := ν) (k := 68) (show ((0 : Nat) : Int) = 0 from rfl) (show ((0 : Nat) : Int) = 0 from rfl) (show ((0 : Nat) : Int) = 0 from rfl)) (congrArg i3 ((hZ10A.1)))) (by omega) (by omega)) (decide_eq_false (by omega))) ?_
              refine wz_i0 (Eq.trans (i3T (Eq.trans (zm_rd (Z := Z10) (ν := ν) (k := 68) (show ((0 : Nat) : Int) = 0 from rfl) (show ((0 : Nat) : Int) = 0 from rfl) (show ((0 : Nat) : Int) = 0 from rfl)) (congrArg i3 ((hZ10A.1)))) (by omega) (by omega)) (decide_eq_false (by omega))) ?_
              refine wz_i0 (Eq.trans (i3T (Eq.trans (zm_rd (Z := Z10) (ν := ν) (k := 68) (show ((0 : Nat) : Int) = 0 from rfl) (show ((0 : Nat) : Int) = 0 from rfl) (show ((0 : Nat) : Int) = 0 from rfl)) (congrArg i3 ((hZ10A.1)))) (by omega) (by omega)) (decide_eq_false (by omega))) ?_
              refine wz_i0 (Eq.trans (i3T (Eq.trans (zm_rd (Z := Z10) (ν := ν) (k := 68) (show ((0 : Nat) : Int) = 0 from rfl) (show ((0 : Nat) : Int) = 0 from rfl) (show ((0 : Nat) : Int) = 0 from rfl)) (congrArg i3 ((hZ10A.1)))) (by omega) (by omega)) (decide_eq_false (by omega))) ?_
              refine wz_i0 (Eq.trans (i3T (Eq.trans (zm_rd (Z := Z10) (ν := ν) (k := 68) (show ((0 : Nat) : Int) = 0 from rfl) (show ((0 : Nat) : Int) = 0 from rfl) (show ((0 : Nat) : Int) = 0 from rfl)) (congrArg i3 ((hZ10A.1)))) (by omega) (by omega)) (decide_eq_false (by omega))) ?_
              refine wz_i0 (Eq.trans (i3T (Eq.trans (zm_rd (Z := Z10) (ν := ν) (k := 68) (show ((0 : Nat) : Int) = 0 from rfl) (show ((0 : Nat) : Int) = 0 from rfl) (show ((0 : Nat) : Int) = 0 from rfl)) (congrArg i3 ((hZ10A.1)))) (by omega) (by omega)) (decide_eq_false (by omega))) ?_
              refine wz_i0 (Eq.trans (i3T (Eq.trans (zm_rd (Z := Z10) (ν := ν) (k := 68) (show ((0 : Nat) : Int) = 0 from rfl) (show ((0 : Nat) : Int) = 0 from rfl) (show ((0 : Nat) : Int) = 0 from rfl)) (congrArg i3 ((hZ10A.1)))) (by omega) (by omega)) (decide_eq_false (by omega))) ?_
              refine wz_i0 (Eq.trans (i3T (Eq.trans (zm_rd (Z := Z10) (ν := ν) (k := 68) (show ((0 : Nat) : Int) = 0 from rfl) (show ((0 : Nat) : Int) = 0 from rfl) (show ((0 : Nat) : Int) = 0 from rfl)) (congrArg i3 ((hZ10A.1)))) (by omega) (by omega)) (decide_eq_false (by omega))) ?_
              refine wz_i1 (Eq.trans (i3T (Eq.trans (zm_rd (Z := Z10) (ν := ν) (k := 68) (show ((0 : Nat) : Int) = 0 from rfl) (show ((0 : Nat) : Int) = 0 from rfl) (show ((0 : Nat) : Int) = 0 from rfl)) (congrArg i3 ((hZ10A.1)))) (by omega) (by omega)) (decide_eq_true (by omega))) ?_
              refine wz_i1 rfl ?_
              refine wz_i0 (i3O (n := 7) (show (1 : Int32) = i3 1 from rfl) (by omega) (by omega) (by omega)) ?_
              refine wz_i1 rfl ?_
              refine wz_i0 (i3O (n := 7) (show (2 : Int32) = i3 2 from rfl) (by omega) (by omega) (by omega)) ?_
              refine wz_i1 rfl ?_
              refine wz_i0 (i3O (n := 7) (show (3 : Int32) = i3 3 from rfl) (by omega) (by omega) (by omega)) ?_
              refine wz_i1 rfl ?_
              refine wz_i0 (i3O (n := 7) (show (4 : Int32) = i3 4 from rfl) (by omega) (by omega) (by omega)) ?_
              refine wz_i1 rfl ?_
              refine wz_i0 (i3O (n := 7) (show (5 : Int32) = i3 5 from rfl) (by omega) (by omega) (by omega)) ?_
              have r11 := zH_k hZ10I 11 0 0 7 (lo := 0) (hi := 2) (by decide) rfl
              have q12 := dZ10 (k := 11) (i := 0) (j := 7) (by decide) (by omega)
              refine wz_i0 (i3O (n := 2) (zm_rd (Z := Z10) (ν := ν) (k := 11) (show ((0 : Nat) : Int) = 0 from rfl) (show ((0 : Nat) : Int) = 0 from rfl) (show ((7 : Nat) : Int) = 7 from rfl)) (by omega) (by omega) (by omega)) ?_
              obtain ⟨Z13, hZ13⟩ := zx (zu Z10 48 0 (Z10 11 0 0 7) 0 a1)
              replace hP := zl_e hP hZ13
              have hZ13I := zH_u hZ10I hZ13 (lo := 0) (hi := 23) (by decide) rfl (by omega) ⟨by decide, by decide⟩ (Or.inl (by decide)) rfl
              have hZ13U : zU [0, 2, 3, 4, 5, 6, 7, 8, 9] Z Z13 := zU_u hZ10U hZ13 (Or.inr (List.Mem.head _))
              have hZ13K : zC [3, 12, 13, 14, 40, 41, 42, 43, 44, 45, 46, 47, 48, 49, 50, 51, 52, 53, 54, 61, 68, 1099, 1100, 1101, 1102, 1103, 1104, 1105, 1106, 1107, 1108, 1109, 1110, 1111, 1112, 1113, 1114, 1115, 1116] Z Z13 := zC_u hZ10K hZ13 (by decide)
              intro μ9 e9
              replace e9 := e9.trans (zm_wI (Z := Z10) (ν := ν) hZ13 (show ((0 : Nat) : Int) = 0 from rfl) (i3I (y := (Z10 11 0 0 7)) (zm_rd (Z := Z10) (ν := ν) (k := 11) (show ((0 : Nat) : Int) = 0 from rfl) (show ((0 : Nat) : Int) = 0 from rfl) (show ((7 : Nat) : Int) = 7 from rfl)) (by omega) (by omega) (by omega)) (show ((0 : Nat) : Int) = 0 from rfl) (Eq.trans (zm_rd (Z := Z10) (ν := ν) (k := 68) (show ((0 : Nat) : Int) = 0 from rfl) (show ((0 : Nat) : Int) = 0 from rfl) (show ((1 : Nat) : Int) = 1 from rfl)) (congrArg i3 ((hZ10A.2.1)))))
              subst e9
              obtain ⟨Z14, hZ14⟩ := zx (zu Z13 48 0 (Z10 11 0 0 7) 1 a2)
              replace hP := zl_e hP hZ14
              have hZ14I := zH_u hZ13I hZ14 (lo := 0) (hi := 6) (by decide) rfl (by omega) ⟨by decide, by decide⟩ (Or.inl (by decide)) rfl
              have hZ14U : zU [0, 2, 3, 4, 5, 6, 7, 8, 9] Z Z14 := zU_u hZ13U hZ14 (Or.inr (List.Mem.head _))
              have hZ14K : zC [3, 12, 13, 14, 40, 41, 42, 43, 44, 45, 46, 47, 48, 49, 50, 51, 52, 53, 54, 61, 68, 1099, 1100, 1101, 1102, 1103, 1104, 1105, 1106, 1107, 1108, 1109, 1110, 1111, 1112, 1113, 1114, 1115, 1116] Z Z14 := zC_u hZ13K hZ14 (by decide)
              intro μ9 e9
              replace e9 := e9.trans (zm_wI (Z := Z13) (ν := ν) hZ14 (show ((0 : Nat) : Int) = 0 from rfl) (i3I (y := (Z10 11 0 0 7)) (zm_rd (Z := Z10) (ν := ν) (k := 11) (show ((0 : Nat) : Int) = 0 from rfl) (show ((0 : Nat) : Int) = 0 from rfl) (show ((7 : Nat) : Int) = 7 from rfl)) (by omega) (by omega) (by omega)) (show ((1 : Nat) : Int) = 1 from rfl) (Eq.trans (zm_rd (Z := Z10) (ν := ν) (k := 68) (show ((0 : Nat) : Int) = 0 from rfl) (show ((0 : Nat) : Int) = 0 from rfl) (show ((2 : Nat) : Int) = 2 from rfl)) (congrArg i3 ((hZ10A.2.2.1)))))
              subst e9
              obtain ⟨Z15, hZ15⟩ := zx (zu Z14 48 0 (Z10 11 0 0 7) 2 a3)
              replace hP := zl_e hP hZ15
              have hZ15I := zH_u hZ14I hZ15 (lo := 0) (hi := 6) (by decide) rfl (by omega) ⟨by decide, by decide⟩ (Or.inl (by decide)) rfl
              have hZ15U : zU [0, 2, 3, 4, 5, 6, 7, 8, 9] Z Z15 := zU_u hZ14U hZ15 (Or.inr (List.Mem.head _))
              have hZ15K : zC [3, 12, 13, 14, 40, 41, 42, 43, 44, 45, 46, 47, 48, 49, 50, 51, 52, 53, 54, 61, 68, 1099, 1100, 1101, 1102, 1103, 1104, 1105, 1106, 1107, 1108, 1109, 1110, 1111, 1112, 1113, 1114, 1115, 1116] Z Z15 := zC_u hZ14K hZ15 (by decide)
              intro μ9 e9
              replace e9 := e9.trans (zm_wI (Z := Z14) (ν := ν) hZ15 (show ((0 : Nat) : Int) = 0 from rfl) (i3I (y := (Z10 11 0 0 7)) (zm_rd (Z := Z10) (ν := ν) (k := 11) (show ((0 : Nat) : Int) = 0 from rfl) (show ((0 : Nat) : Int) = 0 from rfl) (show ((7 : Nat) : Int) = 7 from rfl)) (by omega) (by omega) (by omega)) (show ((2 : Nat) : Int) = 2 from rfl) (Eq.trans (zm_rd (Z := Z10) (ν := ν) (k := 68) (show ((0 : Nat) : Int) = 0 from rfl) (show ((0 : Nat) : Int) = 0 from rfl) (show ((3 : Nat) : Int) = 3 from rfl)) (congrArg i3 ((hZ10A.2.2.2.1)))))
              subst e9
              obtain ⟨Z16, hZ16⟩ := zx (zu Z15 48 0 (Z10 11 0 0 7) 3 a4)
              replace hP := zl_e hP hZ16
              have hZ16I := zH_u hZ15I hZ16 (lo := 0) (hi := 500) (by decide) rfl (by omega) ⟨by decide, by decide⟩ (Or.inl (by decide)) rfl
              have hZ16U : zU [0, 2, 3, 4, 5, 6, 7, 8, 9] Z Z16 := zU_u hZ15U hZ16 (Or.inr (List.Mem.head _))
              have hZ16K : zC [3, 12, 13, 14, 40, 41, 42, 43, 44, 45, 46, 47, 48, 49, 50, 51, 52, 53, 54, 61, 68, 1099, 1100, 1101, 1102, 1103, 1104, 1105, 1106, 1107, 1108, 1109, 1110, 1111, 1112, 1113, 1114, 1115, 1116] Z Z16 := zC_u hZ15K hZ16 (by decide)
              intro μ9 e9
              replace e9 := e9.trans (zm_wI (Z := Z15) (ν := ν) hZ16 (show ((0 : Nat) : Int) = 0 from rfl) (i3I (y := (Z10 11 0 0 7)) (zm_rd (Z := Z10) (ν := ν) (k := 11) (show ((0 : Nat) : Int) = 0 from rfl) (show ((0 : Nat) : Int) = 0 from rfl) (show ((7 : Nat) : Int) = 7 from rfl)) (by omega) (by omega) (by omega)) (show ((3 : Nat) : Int) = 3 from rfl) (Eq.trans (zm_rd (Z := Z10) (ν := ν) (k := 68) (show ((0 : Nat) : Int) = 0 from rfl) (show ((0 : Nat) : Int) = 0 from rfl) (show ((4 : Nat) : Int) = 4 from rfl)) (congrArg i3 ((hZ10A.2.2.2.2.1)))))
              subst e9
              obtain ⟨Z17, hZ17⟩ := zx (zu Z16 48 0 (Z10 11 0 0 7) 4 a5)
              replace hP := zl_e hP hZ17
              have hZ17I := zH_u hZ16I hZ17 (lo := 0) (hi := 9) (by decide) rfl (by omega) ⟨by decide, by decide⟩ (Or.inl (by decide)) rfl
              have hZ17U : zU [0, 2, 3, 4, 5, 6, 7, 8, 9] Z Z17 := zU_u hZ16U hZ17 (Or.inr (List.Mem.head _))
              have hZ17K : zC [3, 12, 13, 14, 40, 41, 42, 43, 44, 45, 46, 47, 48, 49, 50, 51, 52, 53, 54, 61, 68, 1099, 1100, 1101, 1102, 1103, 1104, 1105, 1106, 1107, 1108, 1109, 1110, 1111, 1112, 1113, 1114, 1115, 1116] Z Z17 := zC_u hZ16K hZ17 (by decide)
              intro μ9 e9
              replace e9 := e9.trans (zm_wI (Z := Z16) (ν := ν) hZ17 (show ((0 : Nat) : Int) = 0 from rfl) (i3I (y := (Z10 11 0 0 7)) (zm_rd (Z := Z10) (ν := ν) (k := 11) (show ((0 : Nat) : Int) = 0 from rfl) (show ((0 : Nat) : Int) = 0 from rfl) (show ((7 : Nat) : Int) = 7 from rfl)) (by omega) (by omega) (by omega)) (show ((4 : Nat) : Int) = 4 from rfl) (Eq.trans (zm_rd (Z := Z10) (ν := ν) (k := 68) (show ((0 : Nat) : Int) = 0 from rfl) (show ((0 : Nat) : Int) = 0 from rfl) (show ((5 : Nat) : Int) = 5 from rfl)) (congrArg i3 ((hZ10A.2.2.2.2.2.1)))))
              subst e9
              obtain ⟨Z18, hZ18⟩ := zx (zu Z17 48 0 (Z10 11 0 0 7) 6 (-1))
              replace hP := zl_e hP hZ18
              have hZ18I := zH_u hZ17I hZ18 (lo := -1) (hi := 9999) (by decide) rfl (by omega) ⟨by decide, by decide⟩ (Or.inl (by decide)) rfl
              have hZ18U : zU [0, 2, 3, 4, 5, 6, 7, 8, 9] Z Z18 := zU_u hZ17U hZ18 (Or.inr (List.Mem.head _))
              have hZ18K : zC [3, 12, 13, 14, 40, 41, 42, 43, 44, 45, 46, 47, 48, 49, 50, 51, 52, 53, 54, 61, 68, 1099, 1100, 1101, 1102, 1103, 1104, 1105, 1106, 1107, 1108, 1109, 1110, 1111, 1112, 1113, 1114, 1115, 1116] Z Z18 := zC_u hZ17K hZ18 (by decide)
              intro μ9 e9
              replace e9 := e9.trans (zm_wI (Z := Z17) (ν := ν) hZ18 (show ((0 : Nat) : Int) = 0 from rfl) (i3I (y := (Z10 11 0 0 7)) (zm_rd (Z := Z10) (ν := ν) (k := 11) (show ((0 : Nat) : Int) = 0 from rfl) (show ((0 : Nat) : Int) = 0 from rfl) (show ((7 : Nat) : Int) = 7 from rfl)) (by omega) (by omega) (by omega)) (show ((6 : Nat) : Int) = 6 from rfl) (show (-1 : Int32) = i3 (-1) from rfl))
              subst e9
              obtain ⟨Z19, hZ19⟩ := zx (zu Z18 48 0 (Z10 11 0 0 7) 7 (-1))
              replace hP := zl_e hP hZ19
              have hZ19I := zH_u hZ18I hZ19 (lo := -1) (hi := 47) (by decide) rfl (by omega) ⟨by decide, by decide⟩ (Or.inl (by decide)) rfl
              have hZ19U : zU [0, 2, 3, 4, 5, 6, 7, 8, 9] Z Z19 := zU_u hZ18U hZ19 (Or.inr (List.Mem.head _))
              have hZ19K : zC [3, 12, 13, 14, 40, 41, 42, 43, 44, 45, 46, 47, 48, 49, 50, 51, 52, 53, 54, 61, 68, 1099, 1100, 1101, 1102, 1103, 1104, 1105, 1106, 1107, 1108, 1109, 1110, 1111, 1112, 1113, 1114, 1115, 1116] Z Z19 := zC_u hZ18K hZ19 (by decide)
              intro μ9 e9
              replace e9 := e9.trans (zm_wI (Z := Z18) (ν := ν) hZ19 (show ((0 : Nat) : Int) = 0 from rfl) (i3I (y := (Z10 11 0 0 7)) (zm_rd (Z := Z10) (ν := ν) (k := 11) (show ((0 : Nat) : Int) = 0 from rfl) (show ((0 : Nat) : Int) = 0 from rfl) (show ((7 : Nat) : Int) = 7 from rfl)) (by omega) (by omega) (by omega)) (show ((7 : Nat) : Int) = 7 from rfl) (show (-1 : Int32) = i3 (-1) from rfl))
              subst e9
              have r20 := zH_k hZ19I 11 0 0 7 (lo := 0) (hi := 2) (by decide) rfl
              have q21 := (zu_ne (k' := 11) (b' := 0) (i' := 0) (j' := 7) hZ19 (fun q => absurd q.1 (by decide))).trans ((zu_ne (k' := 11) (b' := 0) (i' := 0) (j' := 7) hZ18 (fun q => absurd q.1 (by decide))).trans ((zu_ne (k' := 11) (b' := 0) (i' := 0) (j' := 7) hZ17 (fun q => absurd q.1 (by decide))).trans ((zu_ne (k' := 11) (b' := 0) (i' := 0) (j' := 7) hZ16 (fun q => absurd q.1 (by decide))).trans ((zu_ne (k' := 11) (b' := 0) (i' := 0) (j' := 7) hZ15 (fun q => absurd q.1 (by decide))).trans ((zu_ne (k' := 11) (b' := 0) (i' := 0) (j' := 7) hZ14 (fun q => absurd q.1 (by decide))).trans (zu_ne (k' := 11) (b' := 0) (i' := 0) (j' := 7) hZ13 (fun q => absurd q.1 (by decide))))))))
              obtain ⟨Z22, hZ22⟩ := zx (zu Z19 11 0 0 7 ((Z19 11 0 0 7) + 1))
              replace hP := zl_e hP hZ22
              have hZ22I := zH_u hZ19I hZ22 (lo := 0) (hi := 2) (by decide) rfl (by omega) ⟨by decide, by decide⟩ (Or.inl (by decide)) rfl
              have hZ22U : zU [0, 2, 3, 4, 5, 6, 7, 8, 9] Z Z22 := zU_u hZ19U hZ22 (Or.inr (List.Mem.head _))
              have hZ22K : zC [3, 12, 13, 14, 40, 41, 42, 43, 44, 45, 46, 47, 48, 49, 50, 51, 52, 53, 54, 61, 68, 1099, 1100, 1101, 1102, 1103, 1104, 1105, 1106, 1107, 1108, 1109, 1110, 1111, 1112, 1113, 1114, 1115, 1116] Z Z22 := zC_u hZ19K hZ22 (by decide)
              intro μ9 e9
              replace e9 := e9.trans (zm_wI (Z := Z19) (ν := ν) hZ22 (show ((0 : Nat) : Int) = 0 from rfl) (show ((0 : Nat) : Int) = 0 from rfl) (show ((7 : Nat) : Int) = 7 from rfl) (i3A (zm_rd (Z := Z19) (ν := ν) (k := 11) (show ((0 : Nat) : Int) = 0 from rfl) (show ((0 : Nat) : Int) = 0 from rfl) (show ((7 : Nat) : Int) = 7 from rfl)) (show (1 : Int32) = i3 1 from rfl)))
              subst e9
              exact zlG hP (zm_rd (Z := Z19) (ν := ν) (k := 11) (show ((0 : Nat) : Int) = 0 from rfl) (show ((0 : Nat) : Int) = 0 from rfl) (show ((7 : Nat) : Int) = 7 from rfl)) ⟨hZ22I, hZ22K, hZ22U, zG_w zG_r (Nat.le_of_ble_eq_true rfl) (Nat.le_of_ble_eq_true rfl)⟩
          · replace hP := zE_n hP h5
            exact zlGe (E := 12) hP ⟨hZ, zC_r, zU_r, zG_w (zG_k rfl) (Nat.le_of_ble_eq_true rfl) (Nat.le_of_ble_eq_true rfl)⟩
        · replace hP := zE_n hP h4
          exact zlGe (E := 12) hP ⟨hZ, zC_r, zU_r, zG_w (zG_k rfl) (Nat.le_of_ble_eq_true rfl) (Nat.le_of_ble_eq_true rfl)⟩
      · replace hP := zE_n hP h3
        exact zlGe (E := 12) hP ⟨hZ, zC_r, zU_r, zG_w (zG_k rfl) (Nat.le_of_ble_eq_true rfl) (Nat.le_of_ble_eq_true rfl)⟩
    · replace hP := zE_n hP h2
      exact zlGe (E := 12) hP ⟨hZ, zC_r, zU_r, zG_w (zG_k rfl) (Nat.le_of_ble_eq_true rfl) (Nat.le_of_ble_eq_true rfl)⟩
  · replace hP := zE_n hP h1
    exact zlGe (E := 12) hP ⟨hZ, zC_r, zU_r, zG_w (zG_k rfl) (Nat.le_of_ble_eq_true rfl) (Nat.le_of_ble_eq_true rfl)⟩
/- yX11_deliver -/
def zx_195 (Z : qz_Z) (a1 : Int) (a2 : Int) (a3 : Int) (a4 : Int) (a5 : Int) : qz_Z × Int × Int := (if 0 ≤ a1 ∧ a1 < (Z 11 0 0 1) then (if 0 ≤ a2 ∧ a2 < (Z 11 0 0 0) then (if 1 ≤ a3 ∧ a3 ≤ 40 then (if 0 ≤ a4 ∧ a4 ≤ 2000 then (if 0 ≤ a5 ∧ a5 ≤ a3 then (if 48 ≤ (Z 11 0 0 3) then (Z, 0, 15) else (zlet (zf_182 Z 0 6) (fun v11 => (if (12 - v11) ≤ 0 then (Z, 0, 15) else (zlet (zdd Z 2 a1 a2 a3 a4 a5 0) (fun Z15 => (zlet (zu Z15 44 0 (Z15 11 0 0 3) 0 a1) (fun Z18 => (zlet (zu Z18 44 0 (Z15 11 0 0 3) 1 a2) (fun Z19 => (zlet (zu Z19 44 0 (Z15 11 0 0 3) 2 (Z19 11 0 0 13)) (fun Z21 => (zlet (zu Z21 44 0 (Z15 11 0 0 3) 3 a3) (fun Z22 => (zlet (zu Z22 44 0 (Z15 11 0 0 3) 4 a3) (fun Z23 => (zlet (zu Z23 44 0 (Z15 11 0 0 3) 5 a5) (fun Z24 => (zlet (zu Z24 44 0 (Z15 11 0 0 3) 7 a4) (fun Z25 => (zlet (zu Z25 44 0 (Z15 11 0 0 3) 9 (-1)) (fun Z26 => (zlet (zu Z26 44 0 (Z15 11 0 0 3) 10 0) (fun Z27 => (zlet (zu Z27 44 0 (Z15 11 0 0 3) 12 6) (fun Z28 => (zlet (zu Z28 44 0 (Z15 11 0 0 3) 15 (-1)) (fun Z29 => (zlet (zu Z29 11 0 0 3 ((Z29 11 0 0 3) + 1)) (fun Z32 => (Z32, (Z29 11 0 0 3), 0))))))))))))))))))))))))))))))) else (Z, 0, 13)) else (Z, 0, 13)) else (Z, 0, 13)) else (Z, 0, 24)) else (Z, 0, 24))
theorem sx_195 {M : Nat} {Z : qz_Z} {ν : qz_N} (hZ : zH ((none, M) : zSM) Z) (hM : ((none, M) : zSM).2 + 0 ≤ 1000000000) {a1 : Int} (ga1 : -2147483648 ≤ a1 ∧ a1 ≤ 2147483647) {a2 : Int} (ga2 : -2147483648 ≤ a2 ∧ a2 ≤ 2147483647) {a3 : Int} (ga3 : -2147483648 ≤ a3 ∧ a3 ≤ 2147483647) {a4 : Int} (ga4 : -2147483648 ≤ a4 ∧ a4 ≤ 2147483647) {a5 : Int} (ga5 : -2147483648 ≤ a5 ∧ a5 ≤ 2147483647) : ∃ (Z1 : qz_Z) (ν1 : qz_N) (v E : Int), (Z1, v, E) = zx_195 Z a1 a2 a3 a4 a5 ∧ qf_195 [.inr (.inr (some (0, 0, 0))), .inl (i3 a1), .inl (i3 a2), .inl (i3 a3), .inl (i3 a4), .inl (i3 a5)] (zm Z ν) = some (zm Z1 ν1, zoX v E) ∧ (fun Z1 ν1 => zH ((none, M) : zSM) Z1 ∧ zC [3, 12, 13, 14, 40, 41, 42, 43, 44, 45, 46, 47, 48, 49, 50, 51, 52, 53, 54, 61, 68, 1099, 1100, 1101, 1102, 1103, 1104, 1105, 1106, 1107, 1108, 1109, 1110, 1111, 1112, 1113, 1114, 1115, 1116] Z Z1 ∧ zU [0, 2, 3, 4, 5, 6, 7, 8, 9] Z Z1 ∧ zG 1 6 ν ν1) Z1 ν1 := by
  obtain ⟨P, hP⟩ := zx (zx_195 Z a1 a2 a3 a4 a5)
  refine zc_G (Q := fun Z1 ν1 => zH ((none, M) : zSM) Z1 ∧ zC [3, 12, 13, 14, 40, 41, 42, 43, 44, 45, 46, 47, 48, 49, 50, 51, 52, 53, 54, 61, 68, 1099, 1100, 1101, 1102, 1103, 1104, 1105, 1106, 1107, 1108, 1109, 1110, 1111, 1112, 1113, 1114, 1115, 1116] Z Z1 ∧ zU [0, 2, 3, 4, 5, 6, 7, 8, 9] Z Z1 ∧ zG 1 6 ν ν1) hP (fw_195 (i3 a1) (i3 a2) (i3 a3) (i3 a4) (i3 a5) _ _ ?_)
  replace hP : zE P (zx_195 Z a1 a2 a3 a4 a5) := hP
  unfold zx_195 at hP
  have r1 := zH_k hZ 11 0 0 1 (lo := 0) (hi := 6) (by decide) rfl
  refine wz_thing (rfl : i3 a1 = i3 a1) (zm_rd (Z := Z) (ν := ν) (k := 11) (show ((0 : Nat) : Int) = 0 from rfl) (show ((0 : Nat) : Int) = 0 from rfl) (show ((1 : Nat) : Int) = 1 from rfl)) (by omega) (by omega) (by omega) (by omega) (fun h2 => ?_) (fun h2 => ?_)
  · replace hP := zE_p hP h2
    have r3 := zH_k hZ 11 0 0 0 (lo := 0) (hi := 5) (by decide) rfl
    refine wz_thing (rfl : i3 a2 = i3 a2) (zm_rd (Z := Z) (ν := ν) (k := 11) (show ((0 : Nat) : Int) = 0 from rfl) (show ((0 : Nat) : Int) = 0 from rfl) (show ((0 : Nat) : Int) = 0 from rfl)) (by omega) (by omega) (by omega) (by omega) (fun h4 => ?_) (fun h4 => ?_)
    · replace hP := zE_p hP h4
      refine wz_inR (rfl : i3 a3 = i3 a3) (show (1 : Int32) = i3 1 from rfl) (show (40 : Int32) = i3 40 from rfl) (by omega) (by omega) (by omega) (by omega) (by omega) (by omega) (fun h5 => ?_) (fun h5 => ?_)
      · replace hP := zE_p hP h5
        refine wz_inR (rfl : i3 a4 = i3 a4) (show (0 : Int32) = i3 0 from rfl) (show (2000 : Int32) = i3 2000 from rfl) (by omega) (by omega) (by omega) (by omega) (by omega) (by omega) (fun h6 => ?_) (fun h6 => ?_)
        · replace hP := zE_p hP h6
          refine wz_inR (rfl : i3 a5 = i3 a5) (show (0 : Int32) = i3 0 from rfl) (rfl : i3 a3 = i3 a3) (by omega) (by omega) (by omega) (by omega) (by omega) (by omega) (fun h7 => ?_) (fun h7 => ?_)
          · replace hP := zE_p hP h7
            have r8 := zH_k hZ 11 0 0 3 (lo := 0) (hi := 48) (by decide) rfl
            refine wz_br (i3Le (show (48 : Int32) = i3 48 from rfl) (zm_rd (Z := Z) (ν := ν) (k := 11) (show ((0 : Nat) : Int) = 0 from rfl) (show ((0 : Nat) : Int) = 0 from rfl) (show ((3 : Nat) : Int) = 3 from rfl)) (by omega) (by omega) (by omega) (by omega)) (fun h9 => ?_) (fun h9 => ?_)
            · replace hP := zE_p hP h9
              refine wz_inT_n (show (0 : Int32) = i3 0 from rfl) (by omega) (by omega) (by omega) ?_
              exact zlGe (E := 14) hP ⟨hZ, zC_r, zU_r, zG_w (zG_k rfl) (Nat.le_of_ble_eq_true rfl) (Nat.le_of_ble_eq_true rfl)⟩
            · replace hP := zE_n hP h9
              obtain ⟨v11, hv11, c9, lv11, uv11⟩ := sp_182 (ν := ν) hZ 0 (a1 := 6) (by omega) (zbh (c := 0) (k := 0) hM (Nat.le_of_ble_eq_true rfl))
              replace hP := zl_e hP hv11
              refine wz_cI_of (zas (zcons rfl (zcons (zvi (show (6 : Int32) = i3 6 from rfl)) rfl)) c9) ?_
              clear c9
              refine wz_br (i3Le (i3S (show (12 : Int32) = i3 12 from rfl) (rfl : i3 v11 = i3 v11)) (show (0 : Int32) = i3 0 from rfl) (by omega) (by omega) (by omega) (by omega)) (fun h12 => ?_) (fun h12 => ?_)
              · replace hP := zE_p hP h12
                refine wz_inT_n (show (0 : Int32) = i3 0 from rfl) (by omega) (by omega) (by omega) ?_
                exact zlGe (E := 14) hP ⟨hZ, zC_r, zU_r, zG_w (zG_k rfl) (Nat.le_of_ble_eq_true rfl) (Nat.le_of_ble_eq_true rfl)⟩
              · replace hP := zE_n hP h12
                refine wz_inT_y (show (1 : Int32) = i3 1 from rfl) (by omega) (by omega) (by omega) ?_
                refine dc_J (zcons rfl (zcons (zvi (show (2 : Int32) = i3 2 from rfl)) (zcons (zvi (rfl : i3 a1 = i3 a1)) (zcons (zvi (rfl : i3 a2 = i3 a2)) (zcons (zvi (rfl : i3 a3 = i3 a3)) (zcons (zvi (rfl : i3 a4 = i3 a4)) (zcons (zvi (rfl : i3 a5 = i3 a5)) (zcons (zvi (show (0 : Int32) = i3 0 from rfl)) rfl)))))))) (dg (hZ).1 (by omega) (by omega) (by omega) (by omega) (by omega) (by omega) (by omega) ?_)
                have hZ15I := zH_dd hZ (a1 := 2) (a2 := a1) (a3 := a2) (a4 := a3) (a5 := a4) (a6 := a5) (a7 := 0) (by omega) (by omega) (by omega) (by omega) (by omega) (by omega) (by omega)
                have kZ15 : zC [3, 12, 13, 14, 40, 41, 42, 43, 44, 45, 46, 47, 48, 49, 50, 51, 52, 53, 54, 61, 68, 1099, 1100, 1101, 1102, 1103, 1104, 1105, 1106, 1107, 1108, 1109, 1110, 1111, 1112, 1113, 1114, 1115, 1116] Z (zdd Z 2 a1 a2 a3 a4 a5 0) := zC_k zdd_K (by decide) (by decide)
                have hZ15A : (zdd Z 2 a1 a2 a3 a4 a5 0) 68 0 0 0 = 2 ∧ (zdd Z 2 a1 a2 a3 a4 a5 0) 68 0 0 1 = a1 ∧ (zdd Z 2 a1 a2 a3 a4 a5 0) 68 0 0 2 = a2 ∧ (zdd Z 2 a1 a2 a3 a4 a5 0) 68 0 0 3 = a3 ∧ (zdd Z 2 a1 a2 a3 a4 a5 0) 68 0 0 4 = a4 ∧ (zdd Z 2 a1 a2 a3 a4 a5 0) 68 0 0 5 = a5 ∧ (zdd Z 2 a1 a2 a3 a4 a5 0) 68 0 0 6 = 0 := ⟨zdd_68, zdd_68, zdd_68, zdd_68, zdd_68, zdd_68, zdd_68⟩
                obtain ⟨Z15, hZ15⟩ := zx (zdd Z 2 a1 a2 a3 a4 a5 0)
                have dZ15 : ∀ {k : Nat} {i j : Int}, zhall k = true → ¬ (k = 11 ∧ (j = 15 ∨ j = 16)) → Z15 k 0 i j = Z k 0 i j := fun hk hj => by rw [hZ15]; exact zdd_h (hZ).1 hk hj
                have jZ15 : zU [0, 2, 3, 4, 5, 6, 7, 8, 9] Z (zdd Z 2 a1 a2 a3 a4 a5 0) := zU_dd (hZ).1
                rw [← hZ15] at hZ15I kZ15 jZ15 hZ15A ⊢
                have hZ15U : zU [0, 2, 3, 4, 5, 6, 7, 8, 9] Z Z15 := zU_t zU_r jZ15 (zU_b1 (List.Mem.head _) (zU_b1 (List.Mem.tail _ (List.Mem.head _)) (zU_b1 (List.Mem.tail _ (List.Mem.tail _ (List.Mem.head _))) (zU_b1 (List.Mem.tail _ (List.Mem.tail _ (List.Mem.tail _ (List.Mem.head _)))) (zU_b1 (List.Mem.tail _ (List.Mem.tail _ (List.Mem.tail _ (List.Mem.tail _ (List.Mem.head _))))) (zU_b1 (List.Mem.tail _ (List.Mem.tail _ (List.Mem.tail _ (List.Mem.tail _ (List.Mem.tail _ (List.Mem.head _)))))) (zU_b1 (List.Mem.tail _ (List.Mem.tail _ (List.Mem.tail _ (List.Mem.tail _ (List.Mem.tail _ (List.Mem.tail _ (List.Mem.head _))))))) (zU_b1 (List.Mem.tail _ (List.Mem.tail _ (List.Mem.tail _ (List.Mem.tail _ (List.Mem.tail _ (List.Mem.tail _ (List.Mem.tail _ (List.Mem.head _)))))))) (zU_b1 (List.Mem.tail _ (List.Mem.tail _ (List.Mem.tail _ (List.Mem.tail _ (List.Mem.tail _ (List.Mem.tail _ (List.Mem.tail _ (List.Mem.tail _ (List.Mem.head _))))))))) zU_b0)))))))))
                replace hP := zl_e hP hZ15
                have hZ15K : zC [3, 12, 13, 14, 40, 41, 42, 43, 44, 45, 46, 47, 48, 49, 50, 51, 52, 53, 54, 61, 68, 1099, 1100, 1101, 1102, 1103, 1104, 1105, 1106, 1107, 1108, 1109, 1110, 1111, 1112, 1113, 1114, 1115, 1116] Z Z15 := zC_t zC_r kZ15 (by decide)
                clear kZ15 hZ15
                refine fw_121 _ _ _ _ ?_
                refine wz_i1 rfl ?_
                refine wz_i0 (i3O (n := 7) (show (0 : Int32) = i3 0 from rfl) (by omega) (by omega) (by omega)) ?_
                refine wz_i0 (Eq.trans (i3To (Eq.trans (zm_rd (Z := Z15) (ν := ν) (k := 68) (show ((0 : Nat) : Int) = 0 from rfl) (show ((0 : Nat) : Int) = 0 from rfl) (show ((0 : Nat) : Int) = 0 from rfl)) (congrArg i3 ((hZ15A.1)))) (by omega) (by omega)) (decide_eq_false (by omega))) ?_
                refine wz_i0 (Eq.trans (i3T (Eq.trans (zm_rd (Z := Z15) (ν := ν) (k := 68) (show ((0 : Nat) : Int) = 0 from rfl) (show ((0 : Nat) : Int) = 0 from rfl) (show ((0 : Nat) : Int) = 0 from rfl)) (congrArg i3 ((hZ15A.1)))) (by omega) (by omega)) (decide_eq_false (by omega))) ?_
                refine wz_i0 (Eq.trans (i3T (Eq.trans (zm_rd (Z := Z15) (ν := ν) (k := 68) (show ((0 : Nat) : Int) = 0 from rfl) (show ((0 : Nat) : Int) = 0 from rfl) (show ((0 : Nat) : Int) = 0 from rfl)) (congrArg i3 ((hZ15A.1)))) (by omega) (by omega)) (decide_eq_false (by omega))) ?_
                refine wz_i1 (Eq.trans (i3T (Eq.trans (zm_rd (Z := Z15) (ν := ν) (k := 68) (show ((0 : Nat) : Int) = 0 from rfl) (show ((0 : Nat) : Int) = 0 from rfl) (show ((0 : Nat) : Int) = 0 from rfl)) (congrArg i3 ((hZ15A.1)))) (by omega) (by omega)) (decide_eq_true (by omega))) ?_
                refine wz_i1 rfl ?_
                refine wz_i0 (i3O (n := 7) (show (1 : Int32) = i3 1 from rfl) (by omega) (by omega) (by omega)) ?_
                refine wz_i1 rfl ?_
                refine wz_i0 (i3O (n := 7) (show (2 : Int32) = i3 2 from rfl) (by omega) (by omega) (by omega)) ?_
                refine wz_i1 rfl ?_
                refine wz_i0 (i3O (n := 7) (show (3 : Int32) = i3 3 from rfl) (by omega) (by omega) (by omega)) ?_
                refine wz_i1 rfl ?_
                refine wz_i0 (i3O (n := 7) (show (4 : Int32) = i3 4 from rfl) (by omega) (by omega) (by omega)) ?_
                refine wz_i1 rfl ?_
                refine wz_i0 (i3O (n := 7) (show (5 : Int32) = i3 5 from rfl) (by omega) (by omega) (by omega)) ?_
                have r16 := zH_k hZ15I 11 0 0 3 (lo := 0) (hi := 48) (by decide) rfl
                have q17 := dZ15 (k := 11) (i := 0) (j := 3) (by decide) (by omega)
                refine wz_i0 (i3O (n := 48) (zm_rd (Z := Z15) (ν := ν) (k := 11) (show ((0 : Nat) : Int) = 0 from rfl) (show ((0 : Nat) : Int) = 0 from rfl) (show ((3 : Nat) : Int) = 3 from rfl)) (by omega) (by omega) (by omega)) ?_
                obtain ⟨Z18, hZ18⟩ := zx (zu Z15 44 0 (Z15 11 0 0 3) 0 a1)
                replace hP := zl_e hP hZ18
                have hZ18I := zH_u hZ15I hZ18 (lo := 0) (hi := 5) (by decide) rfl (by omega) ⟨by decide, by decide⟩ (Or.inl (by decide)) rfl
                have hZ18U : zU [0, 2, 3, 4, 5, 6, 7, 8, 9] Z Z18 := zU_u hZ15U hZ18 (Or.inr (List.Mem.head _))
                have hZ18K : zC [3, 12, 13, 14, 40, 41, 42, 43, 44, 45, 46, 47, 48, 49, 50, 51, 52, 53, 54, 61, 68, 1099, 1100, 1101, 1102, 1103, 1104, 1105, 1106, 1107, 1108, 1109, 1110, 1111, 1112, 1113, 1114, 1115, 1116] Z Z18 := zC_u hZ15K hZ18 (by decide)
                intro μ9 e9
                replace e9 := e9.trans (zm_wI (Z := Z15) (ν := ν) hZ18 (show ((0 : Nat) : Int) = 0 from rfl) (i3I (y := (Z15 11 0 0 3)) (zm_rd (Z := Z15) (ν := ν) (k := 11) (show ((0 : Nat) : Int) = 0 from rfl) (show ((0 : Nat) : Int) = 0 from rfl) (show ((3 : Nat) : Int) = 3 from rfl)) (by omega) (by omega) (by omega)) (show ((0 : Nat) : Int) = 0 from rfl) (Eq.trans (zm_rd (Z := Z15) (ν := ν) (k := 68) (show ((0 : Nat) : Int) = 0 from rfl) (show ((0 : Nat) : Int) = 0 from rfl) (show ((1 : Nat) : Int) = 1 from rfl)) (congrArg i3 ((hZ15A.2.1)))))
                subst e9
                obtain ⟨Z19, hZ19⟩ := zx (zu Z18 44 0 (Z15 11 0 0 3) 1 a2)
                replace hP := zl_e hP hZ19
                have hZ19I := zH_u hZ18I hZ19 (lo := 0) (hi := 4) (by decide) rfl (by omega) ⟨by decide, by decide⟩ (Or.inl (by decide)) rfl
                have hZ19U : zU [0, 2, 3, 4, 5, 6, 7, 8, 9] Z Z19 := zU_u hZ18U hZ19 (Or.inr (List.Mem.head _))
                have hZ19K : zC [3, 12, 13, 14, 40, 41, 42, 43, 44, 45, 46, 47, 48, 49, 50, 51, 52, 53, 54, 61, 68, 1099, 1100, 1101, 1102, 1103, 1104, 1105, 1106, 1107, 1108, 1109, 1110, 1111, 1112, 1113, 1114, 1115, 1116] Z Z19 := zC_u hZ18K hZ19 (by decide)
                intro μ9 e9
                replace e9 := e9.trans (zm_wI (Z := Z18) (ν := ν) hZ19 (show ((0 : Nat) : Int) = 0 from rfl) (i3I (y := (Z15 11 0 0 3)) (zm_rd (Z := Z15) (ν := ν) (k := 11) (show ((0 : Nat) : Int) = 0 from rfl) (show ((0 : Nat) : Int) = 0 from rfl) (show ((3 : Nat) : Int) = 3 from rfl)) (by omega) (by omega) (by omega)) (show ((1 : Nat) : Int) = 1 from rfl) (Eq.trans (zm_rd (Z := Z15) (ν := ν) (k := 68) (show ((0 : Nat) : Int) = 0 from rfl) (show ((0 : Nat) : Int) = 0 from rfl) (show ((2 : Nat) : Int) = 2 from rfl)) (congrArg i3 ((hZ15A.2.2.1)))))
                subst e9
                have r20 := zH_k hZ19I 11 0 0 13 (lo := 0) (hi := 671) (by decide) rfl
                obtain ⟨Z21, hZ21⟩ := zx (zu Z19 44 0 (Z15 11 0 0 3) 2 (Z19 11 0 0 13))
                replace hP := zl_e hP hZ21
                have hZ21I := zH_u hZ19I hZ21 (lo := 0) (hi := 671) (by decide) rfl (by omega) ⟨by decide, by decide⟩ (Or.inl (by decide)) rfl
                have hZ21U : zU [0, 2, 3, 4, 5, 6, 7, 8, 9] Z Z21 := zU_u hZ19U hZ21 (Or.inr (List.Mem.head _))
                have hZ21K : zC [3, 12, 13, 14, 40, 41, 42, 43, 44, 45, 46, 47, 48, 49, 50, 51, 52, 53, 54, 61, 68, 1099, 1100, 1101, 1102, 1103, 1104, 1105, 1106, 1107, 1108, 1109, 1110, 1111, 1112, 1113, 1114, 1115, 1116] Z Z21 := zC_u hZ19K hZ21 (by decide)
                intro μ9 e9
                replace e9 := e9.trans (zm_wI (Z := Z19) (ν := ν) hZ21 (show ((0 : Nat) : Int) = 0 from rfl) (i3I (y := (Z15 11 0 0 3)) (zm_rd (Z := Z15) (ν := ν) (k := 11) (show ((0 : Nat) : Int) = 0 from rfl) (show ((0 : Nat) : Int) = 0 from rfl) (show ((3 : Nat) : Int) = 3 from rfl)) (by omega) (by omega) (by omega)) (show ((2 : Nat) : Int) = 2 from rfl) (zm_rd (Z := Z19) (ν := ν) (k := 11) (show ((0 : Nat) : Int) = 0 from rfl) (show ((0 : Nat) : Int) = 0 from rfl) (show ((13 : Nat) : Int) = 13 from rfl)))
                subst e9
                obtain ⟨Z22, hZ22⟩ := zx (zu Z21 44 0 (Z15 11 0 0 3) 3 a3)
                replace hP := zl_e hP hZ22
                have hZ22I := zH_u hZ21I hZ22 (lo := 0) (hi := 40) (by decide) rfl (by omega) ⟨by decide, by decide⟩ (Or.inl (by decide)) rfl
                have hZ22U : zU [0, 2, 3, 4, 5, 6, 7, 8, 9] Z Z22 := zU_u hZ21U hZ22 (Or.inr (List.Mem.head _))
                have hZ22K : zC [3, 12, 13, 14, 40, 41, 42, 43, 44, 45, 46, 47, 48, 49, 50, 51, 52, 53, 54, 61, 68, 1099, 1100, 1101, 1102, 1103, 1104, 1105, 1106, 1107, 1108, 1109, 1110, 1111, 1112, 1113, 1114, 1115, 1116] Z Z22 := zC_u hZ21K hZ22 (by decide)
                intro μ9 e9
                replace e9 := e9.trans (zm_wI (Z := Z21) (ν := ν) hZ22 (show ((0 : Nat) : Int) = 0 from rfl) (i3I (y := (Z15 11 0 0 3)) (zm_rd (Z := Z15) (ν := ν) (k := 11) (show ((0 : Nat) : Int) = 0 from rfl) (show ((0 : Nat) : Int) = 0 from rfl) (show ((3 : Nat) : Int) = 3 from rfl)) (by omega) (by omega) (by omega)) (show ((3 : Nat) : Int) = 3 from rfl) (Eq.trans (zm_rd (Z := Z15) (ν := ν) (k := 68) (show ((0 : Nat) : Int) = 0 from rfl) (show ((0 : Nat) : Int) = 0 from rfl) (show ((3 : Nat) : Int) = 3 from rfl)) (congrArg i3 ((hZ15A.2.2.2.1)))))
                subst e9
                obtain ⟨Z23, hZ23⟩ := zx (zu Z22 44 0 (Z15 11 0 0 3) 4 a3)
                replace hP := zl_e hP hZ23
                have hZ23I := zH_u hZ22I hZ23 (lo := 0) (hi := 40) (by decide) rfl (by omega) ⟨by decide, by decide⟩ (Or.inl (by decide)) rfl
                have hZ23U : zU [0, 2, 3, 4, 5, 6, 7, 8, 9] Z Z23 := zU_u hZ22U hZ23 (Or.inr (List.Mem.head _))
                have hZ23K : zC [3, 12, 13, 14, 40, 41, 42, 43, 44, 45, 46, 47, 48, 49, 50, 51, 52, 53, 54, 61, 68, 1099, 1100, 1101, 1102, 1103, 1104, 1105, 1106, 1107, 1108, 1109, 1110, 1111, 1112, 1113, 1114, 1115, 1116] Z Z23 := zC_u hZ22K hZ23 (by decide)
                intro μ9 e9
                replace e9 := e9.trans (zm_wI (Z := Z22) (ν := ν) hZ23 (show ((0 : Nat) : Int) = 0 from rfl) (i3I (y := (Z15 11 0 0 3)) (zm_rd (Z := Z15) (ν := ν) (k := 11) (show ((0 : Nat) : Int) = 0 from rfl) (show ((0 : Nat) : Int) = 0 from rfl) (show ((3 : Nat) : Int) = 3 from rfl)) (by omega) (by omega) (by omega)) (show ((4 : Nat) : Int) = 4 from rfl) (Eq.trans (zm_rd (Z := Z15) (ν := ν) (k := 68) (show ((0 : Nat) : Int) = 0 from rfl) (show ((0 : Nat) : Int) = 0 from rfl) (show ((3 : Nat) : Int) = 3 from rfl)) (congrArg i3 ((hZ15A.2.2.2.1)))))
                subst e9
                obtain ⟨Z24, hZ24⟩ := zx (zu Z23 44 0 (Z15 11 0 0 3) 5 a5)
                replace hP := zl_e hP hZ24
                have hZ24I := zH_u hZ23I hZ24 (lo := 0) (hi := 40) (by decide) rfl (by omega) ⟨by decide, by decide⟩ (Or.inl (by decide)) rfl
                have hZ24U : zU [0, 2, 3, 4, 5, 6, 7, 8, 9] Z Z24 := zU_u hZ23U hZ24 (Or.inr (List.Mem.head _))
                have hZ24K : zC [3, 12, 13, 14, 40, 41, 42, 43, 44, 45, 46, 47, 48, 49, 50, 51, 52, 53, 54, 61, 68, 1099, 1100, 1101, 1102, 1103, 1104, 1105, 1106, 1107, 1108, 1109, 1110, 1111, 1112, 1113, 1114, 1115, 1116] Z Z24 := zC_u hZ23K hZ24 (by decide)
                intro μ9 e9
                replace e9 := e9.trans (zm_wI (Z := Z23) (ν := ν) hZ24 (show ((0 : Nat) : Int) = 0 from rfl) (i3I (y := (Z15 11 0 0 3)) (zm_rd (Z := Z15) (ν := ν) (k := 11) (show ((0 : Nat) : Int) = 0 from rfl) (show ((0 : Nat) : Int) = 0 from rfl) (show ((3 : Nat) : Int) = 3 from rfl)) (by omega) (by omega) (by omega)) (show ((5 : Nat) : Int) = 5 from rfl) (Eq.trans (zm_rd (Z := Z15) (ν := ν) (k := 68) (show ((0 : Nat) : Int) = 0 from rfl) (show ((0 : Nat) : Int) = 0 from rfl) (show ((5 : Nat) : Int) = 5 from rfl)) (congrArg i3 ((hZ15A.2.2.2.2.2.1)))))
                subst e9
                obtain ⟨Z25, hZ25⟩ := zx (zu Z24 44 0 (Z15 11 0 0 3) 7 a4)
                replace hP := zl_e hP hZ25
                have hZ25I := zH_u hZ24I hZ25 (lo := 0) (hi := 2000) (by decide) rfl (by omega) ⟨by decide, by decide⟩ (Or.inl (by decide)) rfl
                have hZ25U : zU [0, 2, 3, 4, 5, 6, 7, 8, 9] Z Z25 := zU_u hZ24U hZ25 (Or.inr (List.Mem.head _))
                have hZ25K : zC [3, 12, 13, 14, 40, 41, 42, 43, 44, 45, 46, 47, 48, 49, 50, 51, 52, 53, 54, 61, 68, 1099, 1100, 1101, 1102, 1103, 1104, 1105, 1106, 1107, 1108, 1109, 1110, 1111, 1112, 1113, 1114, 1115, 1116] Z Z25 := zC_u hZ24K hZ25 (by decide)
                intro μ9 e9
                replace e9 := e9.trans (zm_wI (Z := Z24) (ν := ν) hZ25 (show ((0 : Nat) : Int) = 0 from rfl) (i3I (y := (Z15 11 0 0 3)) (zm_rd (Z := Z15) (ν := ν) (k := 11) (show ((0 : Nat) : Int) = 0 from rfl) (show ((0 : Nat) : Int) = 0 from rfl) (show ((3 : Nat) : Int) = 3 from rfl)) (by omega) (by omega) (by omega)) (show ((7 : Nat) : Int) = 7 from rfl) (Eq.trans (zm_rd (Z := Z15) (ν := ν) (k := 68) (show ((0 : Nat) : Int) = 0 from rfl) (show ((0 : Nat) : Int) = 0 from rfl) (show ((4 : Nat) : Int) = 4 from rfl)) (congrArg i3 ((hZ15A.2.2.2.2.1)))))
                subst e9
                obtain ⟨Z26, hZ26⟩ := zx (zu Z25 44 0 (Z15 11 0 0 3) 9 (-1))
                replace hP := zl_e hP hZ26
                have hZ26I := zH_u hZ25I hZ26 (lo := -1) (hi := 3) (by decide) rfl (by omega) ⟨by decide, by decide⟩ (Or.inl (by decide)) rfl
                have hZ26U : zU [0, 2, 3, 4, 5, 6, 7, 8, 9] Z Z26 := zU_u hZ25U hZ26 (Or.inr (List.Mem.head _))
                have hZ26K : zC [3, 12, 13, 14, 40, 41, 42, 43, 44, 45, 46, 47, 48, 49, 50, 51, 52, 53, 54, 61, 68, 1099, 1100, 1101, 1102, 1103, 1104, 1105, 1106, 1107, 1108, 1109, 1110, 1111, 1112, 1113, 1114, 1115, 1116] Z Z26 := zC_u hZ25K hZ26 (by decide)
                intro μ9 e9
                replace e9 := e9.trans (zm_wI (Z := Z25) (ν := ν) hZ26 (show ((0 : Nat) : Int) = 0 from rfl) (i3I (y := (Z15 11 0 0 3)) (zm_rd (Z := Z15) (ν := ν) (k := 11) (show ((0 : Nat) : Int) = 0 from rfl) (show ((0 : Nat) : Int) = 0 from rfl) (show ((3 : Nat) : Int) = 3 from rfl)) (by omega) (by omega) (by omega)) (show ((9 : Nat) : Int) = 9 from rfl) (show (-1 : Int32) = i3 (-1) from rfl))
                subst e9
                obtain ⟨Z27, hZ27⟩ := zx (zu Z26 44 0 (Z15 11 0 0 3) 10 0)
                replace hP := zl_e hP hZ27
                have hZ27I := zH_0 hZ26I hZ27 (by decide) (Or.inl (by decide))
                have hZ27U : zU [0, 2, 3, 4, 5, 6, 7, 8, 9] Z Z27 := zU_u hZ26U hZ27 (Or.inr (List.Mem.head _))
                have hZ27K : zC [3, 12, 13, 14, 40, 41, 42, 43, 44, 45, 46, 47, 48, 49, 50, 51, 52, 53, 54, 61, 68, 1099, 1100, 1101, 1102, 1103, 1104, 1105, 1106, 1107, 1108, 1109, 1110, 1111, 1112, 1113, 1114, 1115, 1116] Z Z27 := zC_u hZ26K hZ27 (by decide)
                intro μ9 e9
                replace e9 := e9.trans (zm_wI (Z := Z26) (ν := ν) hZ27 (show ((0 : Nat) : Int) = 0 from rfl) (i3I (y := (Z15 11 0 0 3)) (zm_rd (Z := Z15) (ν := ν) (k := 11) (show ((0 : Nat) : Int) = 0 from rfl) (show ((0 : Nat) : Int) = 0 from rfl) (show ((3 : Nat) : Int) = 3 from rfl)) (by omega) (by omega) (by omega)) (show ((10 : Nat) : Int) = 10 from rfl) (show (0 : Int32) = i3 0 from rfl))
                subst e9
                obtain ⟨Z28, hZ28⟩ := zx (zu Z27 44 0 (Z15 11 0 0 3) 12 6)
                replace hP := zl_e hP hZ28
                have hZ28I := zH_u hZ27I hZ28 (lo := -1) (hi := 6) (by decide) rfl (by omega) ⟨by decide, by decide⟩ (Or.inl (by decide)) rfl
                have hZ28U : zU [0, 2, 3, 4, 5, 6, 7, 8, 9] Z Z28 := zU_u hZ27U hZ28 (Or.inr (List.Mem.head _))
                have hZ28K : zC [3, 12, 13, 14, 40, 41, 42, 43, 44, 45, 46, 47, 48, 49, 50, 51, 52, 53, 54, 61, 68, 1099, 1100, 1101, 1102, 1103, 1104, 1105, 1106, 1107, 1108, 1109, 1110, 1111, 1112, 1113, 1114, 1115, 1116] Z Z28 := zC_u hZ27K hZ28 (by decide)
                intro μ9 e9
                replace e9 := e9.trans (zm_wI (Z := Z27) (ν := ν) hZ28 (show ((0 : Nat) : Int) = 0 from rfl) (i3I (y := (Z15 11 0 0 3)) (zm_rd (Z := Z15) (ν := ν) (k := 11) (show ((0 : Nat) : Int) = 0 from rfl) (show ((0 : Nat) : Int) = 0 from rfl) (show ((3 : Nat) : Int) = 3 from rfl)) (by omega) (by omega) (by omega)) (show ((12 : Nat) : Int) = 12 from rfl) (show (6 : Int32) = i3 6 from rfl))
                subst e9
                obtain ⟨Z29, hZ29⟩ := zx (zu Z28 44 0 (Z15 11 0 0 3) 15 (-1))
                replace hP := zl_e hP hZ29
                have hZ29I := zH_u hZ28I hZ29 (lo := -1) (hi := 20) (by decide) rfl (by omega) ⟨by decide, by decide⟩ (Or.inl (by decide)) rfl
                have hZ29U : zU [0, 2, 3, 4, 5, 6, 7, 8, 9] Z Z29 := zU_u hZ28U hZ29 (Or.inr (List.Mem.head _))
                have hZ29K : zC [3, 12, 13, 14, 40, 41, 42, 43, 44, 45, 46, 47, 48, 49, 50, 51, 52, 53, 54, 61, 68, 1099, 1100, 1101, 1102, 1103, 1104, 1105, 1106, 1107, 1108, 1109, 1110, 1111, 1112, 1113, 1114, 1115, 1116] Z Z29 := zC_u hZ28K hZ29 (by decide)
                intro μ9 e9
                replace e9 := e9.trans (zm_wI (Z := Z28) (ν := ν) hZ29 (show ((0 : Nat) : Int) = 0 from rfl) (i3I (y := (Z15 11 0 0 3)) (zm_rd (Z := Z15) (ν := ν) (k := 11) (show ((0 : Nat) : Int) = 0 from rfl) (show ((0 : Nat) : Int) = 0 from rfl) (show ((3 : Nat) : Int) = 3 from rfl)) (by omega) (by omega) (by omega)) (show ((15 : Nat) : Int) = 15 from rfl) (show (-1 : Int32) = i3 (-1) from rfl))
                subst e9
                have r30 := zH_k hZ29I 11 0 0 3 (lo := 0) (hi := 48) (by decide) rfl
                have q31 := (zu_ne (k' := 11) (b' := 0) (i' := 0) (j' := 3) hZ29 (fun q => absurd q.1 (by decide))).trans ((zu_ne (k' := 11) (b' := 0) (i' := 0) (j' := 3) hZ28 (fun q => absurd q.1 (by decide))).trans ((zu_ne (k' := 11) (b' := 0) (i' := 0) (j' := 3) hZ27 (fun q => absurd q.1 (by decide))).trans ((zu_ne (k' := 11) (b' := 0) (i' := 0) (j' := 3) hZ26 (fun q => absurd q.1 (by decide))).trans ((zu_ne (k' := 11) (b' := 0) (i' := 0) (j' := 3) hZ25 (fun q => absurd q.1 (by decide))).trans ((zu_ne (k' := 11) (b' := 0) (i' := 0) (j' := 3) hZ24 (fun q => absurd q.1 (by decide))).trans ((zu_ne (k' := 11) (b' := 0) (i' := 0) (j' := 3) hZ23 (fun q => absurd q.1 (by decide))).trans ((zu_ne (k' := 11) (b' := 0) (i' := 0) (j' := 3) hZ22 (fun q => absurd q.1 (by decide))).trans ((zu_ne (k' := 11) (b' := 0) (i' := 0) (j' := 3) hZ21 (fun q => absurd q.1 (by decide))).trans ((zu_ne (k' := 11) (b' := 0) (i' := 0) (j' := 3) hZ19 (fun q => absurd q.1 (by decide))).trans (zu_ne (k' := 11) (b' := 0) (i' := 0) (j' := 3) hZ18 (fun q => absurd q.1 (by decide))))))))))))
                obtain ⟨Z32, hZ32⟩ := zx (zu Z29 11 0 0 3 ((Z29 11 0 0 3) + 1))
                replace hP := zl_e hP hZ32
                have hZ32I := zH_u hZ29I hZ32 (lo := 0) (hi := 48) (by decide) rfl (by omega) ⟨by decide, by decide⟩ (Or.inl (by decide)) rfl
                have hZ32U : zU [0, 2, 3, 4, 5, 6, 7, 8, 9] Z Z32 := zU_u hZ29U hZ32 (Or.inr (List.Mem.head _))
                have hZ32K : zC [3, 12, 13, 14, 40, 41, 42, 43, 44, 45, 46, 47, 48, 49, 50, 51, 52, 53, 54, 61, 68, 1099, 1100, 1101, 1102, 1103, 1104, 1105, 1106, 1107, 1108, 1109, 1110, 1111, 1112, 1113, 1114, 1115, 1116] Z Z32 := zC_u hZ29K hZ32 (by decide)
                intro μ9 e9
                replace e9 := e9.trans (zm_wI (Z := Z29) (ν := ν) hZ32 (show ((0 : Nat) : Int) = 0 from rfl) (show ((0 : Nat) : Int) = 0 from rfl) (show ((3 : Nat) : Int) = 3 from rfl) (i3A (zm_rd (Z := Z29) (ν := ν) (k := 11) (show ((0 : Nat) : Int) = 0 from rfl) (show ((0 : Nat) : Int) = 0 from rfl) (show ((3 : Nat) : Int) = 3 from rfl)) (show (1 : Int32) = i3 1 from rfl)))
                subst e9
                exact zlG hP (zm_rd (Z := Z29) (ν := ν) (k := 11) (show ((0 : Nat) : Int) = 0 from rfl) (show ((0 : Nat) : Int) = 0 from rfl) (show ((3 : Nat) : Int) = 3 from rfl)) ⟨hZ32I, hZ32K, hZ32U, zG_w zG_r (Nat.le_of_ble_eq_true rfl) (Nat.le_of_ble_eq_true rfl)⟩
          · replace hP := zE_n hP h7
            exact zlGe (E := 12) hP ⟨hZ, zC_r, zU_r, zG_w (zG_k rfl) (Nat.le_of_ble_eq_true rfl) (Nat.le_of_ble_eq_true rfl)⟩
        · replace hP := zE_n hP h6
          exact zlGe (E := 12) hP ⟨hZ, zC_r, zU_r, zG_w (zG_k rfl) (Nat.le_of_ble_eq_true rfl) (Nat.le_of_ble_eq_true rfl)⟩
      · replace hP := zE_n hP h5
        exact zlGe (E := 12) hP ⟨hZ, zC_r, zU_r, zG_w (zG_k rfl) (Nat.le_of_ble_eq_true rfl) (Nat.le_of_ble_eq_true rfl)⟩
    · replace hP := zE_n hP h4
      exact zlGe (E := 23) hP ⟨hZ, zC_r, zU_r, zG_w (zG_k rfl) (Nat.le_of_ble_eq_true rfl) (Nat.le_of_ble_eq_true rfl)⟩
  · replace hP := zE_n hP h2
    exact zlGe (E := 23) hP ⟨hZ, zC_r, zU_r, zG_w (zG_k rfl) (Nat.le_of_ble_eq_true rfl) (Nat.le_of_ble_eq_true rfl)⟩
/- yX2_parcelsIn -/
def zl_53_1 (x0b : Int) (x1 : Int) : Nat → qz_Z → Int → Int → Int × Int
  | 0, Z, x2, x3 => (x2, x3)
  | m + 1, Z, x2, x3 => (if (Z 11 x0b 0 6) ≤ x3 then (x2, x3) else (if (Z 47 x0b x3 10) ≠ x1 then zl_53_1 x0b x1 m Z x2 (x3 + 1) else zl_53_1 x0b x1 m Z (x2 + 1) (x3 + 1)))
theorem sl_53_1 {s : zSM} {Z : qz_Z} {ν : qz_N} (hZ : zH s Z) (hM : s.2 + 0 ≤ 1000000000) (x0b : Nat) {x1 : Int} (gx1 : 0 ≤ x1 ∧ x1 ≤ 3) {x2 : Int} (gx2 : 0 ≤ x2 ∧ x2 ≤ 60) {x3 : Int} (gx3 : 0 ≤ x3 ∧ x3 ≤ 60) (gr0 : x2 ≤ x3) {k : wz_K} {R : wz_R} {L : qz_L} (hL : qz_fg [true, true, true, true] L = [some (.inr (.inr (some (10, x0b, 0)))), some (.inl (i3 x1)), some (.inl (i3 x2)), some (.inl (i3 x3))]) {T : Int × Int} (hP : zE T (zl_53_1 x0b x1 ((60 - x3).toNat + 1) Z x2 x3)) (hk : ∀ (L9 : qz_L) (yx2 yx3 : Int), qz_fg [false, false, true, false] L9 = [none, none, some (.inl (i3 yx2)), none] → (0 ≤ yx2 ∧ yx2 ≤ 60) → (0 ≤ yx3 ∧ yx3 ≤ 60) → (yx2 ≤ yx3) → zE T ((yx2, yx3)) → k 0 (L9, [], zm Z ν)) : wz_loop qb_53_1 65536 k R (L, [], zm Z ν) := by
  refine wz_lp sb_53_1 (fun m x => ∃ x2 : Int, ∃ x3 : Int, qz_fg [true, true, true, true] x.1 = [some (.inr (.inr (some (10, x0b, 0)))), some (.inl (i3 x1)), some (.inl (i3 x2)), some (.inl (i3 x3))] ∧ x.2 = ([], zm Z ν) ∧ m = (60 - x3).toNat ∧ (0 ≤ x2 ∧ x2 ≤ 60) ∧ (0 ≤ x3 ∧ x3 ≤ 60) ∧ (x2 ≤ x3) ∧ zE T (zl_53_1 x0b x1 (m + 1) Z x2 x3)) ?_ 65536 ((60 - x3).toNat) _ (by omega) ⟨x2, x3, hL, rfl, rfl, gx2, gx3, gr0, hP⟩
  clear hP gr0 gx2 gx3 hL
  clear x2 x3
  rintro m ⟨L, st, μ⟩ ⟨x2, x3, hL, hx, hm, gx2, gx3, gr0, hP⟩
  cases hx
  refine fb_53_1 x0b (i3 x1) (i3 x2) (i3 x3) _ _ _ _ hL ?_
  have r1 := zH_k hZ 11 x0b 0 6 (lo := 0) (hi := 60) (by decide) rfl
  refine wz_br (i3Le (zm_rd (Z := Z) (ν := ν) (k := 11) (rfl : ((x0b : Nat) : Int) = x0b) (show ((0 : Nat) : Int) = 0 from rfl) (show ((6 : Nat) : Int) = 6 from rfl)) (rfl : i3 x3 = i3 x3) (by omega) (by omega) (by omega) (by omega)) (fun h2 => ?_) (fun h2 => ?_)
  · replace hP := zE_p hP h2
    exact hk _ _ _ (zconso rfl (zconso rfl (zconso (zvo (rfl : i3 x2 = i3 x2)) (zconso rfl rfl))))  (by omega) (by omega) (by omega) hP
  · replace hP := zE_n hP h2
    refine wz_i0 (i3O (n := 60) (rfl : i3 x3 = i3 x3) (by omega) (by omega) (by omega)) ?_
    have r3 := zH_k hZ 47 x0b x3 10 (lo := -1) (hi := 3) (by decide) rfl
    have r4 := zH_lt hZ x0b x3
    refine wz_br (i3NE (zm_rd (Z := Z) (ν := ν) (k := 47) (rfl : ((x0b : Nat) : Int) = x0b) (i3I (y := x3) (rfl : i3 x3 = i3 x3) (by omega) (by omega) (by omega)) (show ((10 : Nat) : Int) = 10 from rfl)) (rfl : i3 x1 = i3 x1) (by omega) (by omega) (by omega) (by omega)) (fun h5 => ?_) (fun h5 => ?_)
    · replace hP := zE_p hP h5
      obtain ⟨m2, rfl⟩ : ∃ m2, m = m2 + 1 := ⟨m - 1, by omega⟩
      exact wz_k1 ⟨m2, by omega, x2, (x3 + 1), (zconso rfl (zconso (zvo (rfl : i3 x1 = i3 x1)) (zconso (zvo (rfl : i3 x2 = i3 x2)) (zconso (zvo (i3A (rfl : i3 x3 = i3 x3) (show (1 : Int32) = i3 1 from rfl))) rfl)))), rfl,  by omega, by omega, by omega, by omega,  hP⟩
    · replace hP := zE_n hP h5
      obtain ⟨m2, rfl⟩ : ∃ m2, m = m2 + 1 := ⟨m - 1, by omega⟩
      exact wz_k1 ⟨m2, by omega, (x2 + 1), (x3 + 1), (zconso rfl (zconso (zvo (rfl : i3 x1 = i3 x1)) (zconso (zvo (i3A (rfl : i3 x2 = i3 x2) (show (1 : Int32) = i3 1 from rfl))) (zconso (zvo (i3A (rfl : i3 x3 = i3 x3) (show (1 : Int32) = i3 1 from rfl))) rfl)))), rfl,  by omega, by omega, by omega, by omega,  hP⟩
/- yX2_parcelsIn -/
def zf_53 (Z : qz_Z) (a0b : Int) (a1 : Int) : Int := (zlet2 (zl_53_1 a0b a1 61 Z 0 0) (fun y1 y2 => y1))
theorem sp_53 {s : zSM} {Z : qz_Z} {ν : qz_N} (hZ : zH s Z) (a0b : Nat) {a1 : Int} (ga1 : 0 ≤ a1 ∧ a1 ≤ 3) (hM : s.2 + 0 ≤ 1000000000) : ∃ P : Int, P = zf_53 Z a0b a1 ∧ (qf_53 [.inr (.inr (some (10, a0b, 0))), .inl (i3 a1)] (zm Z ν) = some (zm Z ν, .inl (some (.inl (i3 P)))) ∧ 0 ≤ P ∧ P ≤ 60) := by
  obtain ⟨P, hP⟩ := zx (zf_53 Z a0b a1)
  refine zc_R (Q := fun P => 0 ≤ P ∧ P ≤ 60) hP (fw_53 a0b (i3 a1) _ _ ?_)
  replace hP : zE P (zf_53 Z a0b a1) := hP
  unfold zf_53 at hP
  refine sl_53_1 (ν := ν) hZ (zbh (c := 0) (k := 0) hM (Nat.le_of_ble_eq_true rfl)) a0b (x1 := a1) (by omega) (x2 := 0) (by omega) (x3 := 0) (by omega) (by omega) (zconso rfl (zconso (zvo (rfl : i3 a1 = i3 a1)) (zconso (zvo (show (0 : Int32) = i3 0 from rfl)) (zconso (zvo (show (0 : Int32) = i3 0 from rfl)) rfl)))) rfl ?_
  intro L3 y1 y2 hL3 gy1 gy2 gL3_0 q9
  replace hP := zl_e2 hP (Eq.symm q9)
  clear q9
  refine fc_53_2 (i3 y1) _ _ _ _ hL3 ?_
  exact zlR hP (rfl : i3 y1 = i3 y1) ⟨by omega, by omega⟩
/- yX2_atDocks -/
def zl_40_1 (x0b : Int) : Nat → qz_Z → Int → Int → Int × Int
  | 0, Z, x1, x2 => (x1, x2)
  | m + 1, Z, x1, x2 => (if (Z 11 x0b 0 8) ≤ x2 then (x1, x2) else (if (Z 50 x0b x2 2) ≠ 0 then zl_40_1 x0b m Z x1 (x2 + 1) else (zlet (zf_53 Z x0b x2) (fun v5 => (if v5 ≤ 0 then zl_40_1 x0b m Z x1 (x2 + 1) else zl_40_1 x0b m Z (x1 + 1) (x2 + 1))))))
theorem sl_40_1 {s : zSM} {Z : qz_Z} {ν : qz_N} (hZ : zH s Z) (hM : s.2 + 0 ≤ 1000000000) (x0b : Nat) {x1 : Int} (gx1 : 0 ≤ x1 ∧ x1 ≤ 4) {x2 : Int} (gx2 : 0 ≤ x2 ∧ x2 ≤ 4) (gr0 : x1 ≤ x2) {k : wz_K} {R : wz_R} {L : qz_L} (hL : qz_fg [true, true, true] L = [some (.inr (.inr (some (10, x0b, 0)))), some (.inl (i3 x1)), some (.inl (i3 x2))]) {T : Int × Int} (hP : zE T (zl_40_1 x0b ((4 - x2).toNat + 1) Z x1 x2)) (hk : ∀ (L9 : qz_L) (yx1 yx2 : Int), qz_fg [false, true, false] L9 = [none, some (.inl (i3 yx1)), none] → (0 ≤ yx1 ∧ yx1 ≤ 4) → (0 ≤ yx2 ∧ yx2 ≤ 4) → (yx1 ≤ yx2) → zE T ((yx1, yx2)) → k 0 (L9, [], zm Z ν)) : wz_loop qb_40_1 65536 k R (L, [], zm Z ν) := by
  refine wz_lp sb_40_1 (fun m x => ∃ x1 : Int, ∃ x2 : Int, qz_fg [true, true, true] x.1 = [some (.inr (.inr (some (10, x0b, 0)))), some (.inl (i3 x1)), some (.inl (i3 x2))] ∧ x.2 = ([], zm Z ν) ∧ m = (4 - x2).toNat ∧ (0 ≤ x1 ∧ x1 ≤ 4) ∧ (0 ≤ x2 ∧ x2 ≤ 4) ∧ (x1 ≤ x2) ∧ zE T (zl_40_1 x0b (m + 1) Z x1 x2)) ?_ 65536 ((4 - x2).toNat) _ (by omega) ⟨x1, x2, hL, rfl, rfl, gx1, gx2, gr0, hP⟩
  clear hP gr0 gx1 gx2 hL
  clear x1 x2
  rintro m ⟨L, st, μ⟩ ⟨x1, x2, hL, hx, hm, gx1, gx2, gr0, hP⟩
  cases hx
  refine fb_40_1 x0b (i3 x1) (i3 x2) _ _ _ _ hL ?_
  have r1 := zH_k hZ 11 x0b 0 8 (lo := 0) (hi := 4) (by decide) rfl
  refine wz_br (i3Le (zm_rd (Z := Z) (ν := ν) (k := 11) (rfl : ((x0b : Nat) : Int) = x0b) (show ((0 : Nat) : Int) = 0 from rfl) (show ((8 : Nat) : Int) = 8 from rfl)) (rfl : i3 x2 = i3 x2) (by omega) (by omega) (by omega) (by omega)) (fun h2 => ?_) (fun h2 => ?_)
  · replace hP := zE_p hP h2
    exact hk _ _ _ (zconso rfl (zconso (zvo (rfl : i3 x1 = i3 x1)) (zconso rfl rfl)))  (by omega) (by omega) (by omega) hP
  · replace hP := zE_n hP h2
    refine wz_i0 (i3O (n := 4) (rfl : i3 x2 = i3 x2) (by omega) (by omega) (by omega)) ?_
    have r3 := zH_k hZ 50 x0b x2 2 (lo := 0) (hi := 1) (by decide) rfl
    refine wz_br (i3NE (zm_rd (Z := Z) (ν := ν) (k := 50) (rfl : ((x0b : Nat) : Int) = x0b) (i3I (y := x2) (rfl : i3 x2 = i3 x2) (by omega) (by omega) (by omega)) (show ((2 : Nat) : Int) = 2 from rfl)) (show (0 : Int32) = i3 0 from rfl) (by omega) (by omega) (by omega) (by omega)) (fun h4 => ?_) (fun h4 => ?_)
    · replace hP := zE_p hP h4
      obtain ⟨m2, rfl⟩ : ∃ m2, m = m2 + 1 := ⟨m - 1, by omega⟩
      exact wz_k1 ⟨m2, by omega, x1, (x2 + 1), (zconso rfl (zconso (zvo (rfl : i3 x1 = i3 x1)) (zconso (zvo (i3A (rfl : i3 x2 = i3 x2) (show (1 : Int32) = i3 1 from rfl))) rfl))), rfl,  by omega, by omega, by omega, by omega,  hP⟩
    · replace hP := zE_n hP h4
      obtain ⟨v5, hv5, c9, lv5, uv5⟩ := sp_53 (ν := ν) hZ x0b (a1 := x2) (by omega) (zbh (c := 0) (k := 0) hM (Nat.le_of_ble_eq_true rfl))
      replace hP := zl_e hP hv5
      refine wz_cI_of (zas (zcons rfl (zcons (zvi (rfl : i3 x2 = i3 x2)) rfl)) c9) ?_
      clear c9
      refine wz_br (i3Le (rfl : i3 v5 = i3 v5) (show (0 : Int32) = i3 0 from rfl) (by omega) (by omega) (by omega) (by omega)) (fun h6 => ?_) (fun h6 => ?_)
      · replace hP := zE_p hP h6
        obtain ⟨m2, rfl⟩ : ∃ m2, m = m2 + 1 := ⟨m - 1, by omega⟩
        exact wz_k1 ⟨m2, by omega, x1, (x2 + 1), (zconso rfl (zconso (zvo (rfl : i3 x1 = i3 x1)) (zconso (zvo (i3A (rfl : i3 x2 = i3 x2) (show (1 : Int32) = i3 1 from rfl))) rfl))), rfl,  by omega, by omega, by omega, by omega,  hP⟩
      · replace hP := zE_n hP h6
        obtain ⟨m2, rfl⟩ : ∃ m2, m = m2 + 1 := ⟨m - 1, by omega⟩
        exact wz_k1 ⟨m2, by omega, (x1 + 1), (x2 + 1), (zconso rfl (zconso (zvo (i3A (rfl : i3 x1 = i3 x1) (show (1 : Int32) = i3 1 from rfl))) (zconso (zvo (i3A (rfl : i3 x2 = i3 x2) (show (1 : Int32) = i3 1 from rfl))) rfl))), rfl,  by omega, by omega, by omega, by omega,  hP⟩
/- yX2_atDocks -/
def zf_40 (Z : qz_Z) (a0b : Int) : Int := (zlet2 (zl_40_1 a0b 5 Z 0 0) (fun y1 y2 => y1))
theorem sp_40 {s : zSM} {Z : qz_Z} {ν : qz_N} (hZ : zH s Z) (a0b : Nat) (hM : s.2 + 0 ≤ 1000000000) : ∃ P : Int, P = zf_40 Z a0b ∧ (qf_40 [.inr (.inr (some (10, a0b, 0)))] (zm Z ν) = some (zm Z ν, .inl (some (.inl (i3 P)))) ∧ 0 ≤ P ∧ P ≤ 4) := by
  obtain ⟨P, hP⟩ := zx (zf_40 Z a0b)
  refine zc_R (Q := fun P => 0 ≤ P ∧ P ≤ 4) hP (fw_40 a0b _ _ ?_)
  replace hP : zE P (zf_40 Z a0b) := hP
  unfold zf_40 at hP
  refine sl_40_1 (ν := ν) hZ (zbh (c := 0) (k := 0) hM (Nat.le_of_ble_eq_true rfl)) a0b (x1 := 0) (by omega) (x2 := 0) (by omega) (by omega) (zconso rfl (zconso (zvo (show (0 : Int32) = i3 0 from rfl)) (zconso (zvo (show (0 : Int32) = i3 0 from rfl)) rfl))) rfl ?_
  intro L3 y1 y2 hL3 gy1 gy2 gL3_0 q9
  replace hP := zl_e2 hP (Eq.symm q9)
  clear q9
  refine fc_40_2 (i3 y1) _ _ _ _ hL3 ?_
  exact zlR hP (rfl : i3 y1 = i3 y1) ⟨by omega, by omega⟩
/- yX11_docks -/
def zx_197 (Z : qz_Z) (a1 : Int) : qz_Z × Int × Int := (if 1 ≤ a1 ∧ a1 ≤ 4 then (zlet (zf_40 Z 0) (fun v2 => (if a1 < v2 then (Z, 0, 15) else (zlet (zdd Z 18 a1 0 0 0 0 0) (fun Z6 => (zlet (zu Z6 11 0 0 14 a1) (fun Z7 => (Z7, (Z6 11 0 0 14), 0)))))))) else (Z, 0, 13))
theorem sx_197 {M : Nat} {Z : qz_Z} {ν : qz_N} (hZ : zH ((none, M) : zSM) Z) (hM : ((none, M) : zSM).2 + 0 ≤ 1000000000) {a1 : Int} (ga1 : -2147483648 ≤ a1 ∧ a1 ≤ 2147483647) : ∃ (Z1 : qz_Z) (ν1 : qz_N) (v E : Int), (Z1, v, E) = zx_197 Z a1 ∧ qf_197 [.inr (.inr (some (0, 0, 0))), .inl (i3 a1)] (zm Z ν) = some (zm Z1 ν1, zoX v E) ∧ (fun Z1 ν1 => zH ((none, M) : zSM) Z1 ∧ zC [3, 12, 13, 14, 40, 41, 42, 43, 44, 45, 46, 47, 48, 49, 50, 51, 52, 53, 54, 61, 68, 1099, 1100, 1101, 1102, 1103, 1104, 1105, 1106, 1107, 1108, 1109, 1110, 1111, 1112, 1113, 1114, 1115, 1116] Z Z1 ∧ zU [0, 2, 3, 4, 5, 6, 7, 8, 9] Z Z1 ∧ zG 1 6 ν ν1) Z1 ν1 := by
  obtain ⟨P, hP⟩ := zx (zx_197 Z a1)
  refine zc_G (Q := fun Z1 ν1 => zH ((none, M) : zSM) Z1 ∧ zC [3, 12, 13, 14, 40, 41, 42, 43, 44, 45, 46, 47, 48, 49, 50, 51, 52, 53, 54, 61, 68, 1099, 1100, 1101, 1102, 1103, 1104, 1105, 1106, 1107, 1108, 1109, 1110, 1111, 1112, 1113, 1114, 1115, 1116] Z Z1 ∧ zU [0, 2, 3, 4, 5, 6, 7, 8, 9] Z Z1 ∧ zG 1 6 ν ν1) hP (fw_197 (i3 a1) _ _ ?_)
  replace hP : zE P (zx_197 Z a1) := hP
  unfold zx_197 at hP
  refine wz_inR (rfl : i3 a1 = i3 a1) (show (1 : Int32) = i3 1 from rfl) (show (4 : Int32) = i3 4 from rfl) (by omega) (by omega) (by omega) (by omega) (by omega) (by omega) (fun h1 => ?_) (fun h1 => ?_)
  · replace hP := zE_p hP h1
    obtain ⟨v2, hv2, c9, lv2, uv2⟩ := sp_40 (ν := ν) hZ 0 (zbh (c := 0) (k := 0) hM (Nat.le_of_ble_eq_true rfl))
    replace hP := zl_e hP hv2
    refine wz_cI_of (zas (zcons rfl rfl) c9) ?_
    clear c9
    refine wz_br (i3L (rfl : i3 a1 = i3 a1) (rfl : i3 v2 = i3 v2) (by omega) (by omega) (by omega) (by omega)) (fun h3 => ?_) (fun h3 => ?_)
    · replace hP := zE_p hP h3
      refine wz_inT_n (show (0 : Int32) = i3 0 from rfl) (by omega) (by omega) (by omega) ?_
      exact zlGe (E := 14) hP ⟨hZ, zC_r, zU_r, zG_w (zG_k rfl) (Nat.le_of_ble_eq_true rfl) (Nat.le_of_ble_eq_true rfl)⟩
    · replace hP := zE_n hP h3
      refine wz_inT_y (show (1 : Int32) = i3 1 from rfl) (by omega) (by omega) (by omega) ?_
      refine dc_J (zcons rfl (zcons (zvi (show (18 : Int32) = i3 18 from rfl)) (zcons (zvi (rfl : i3 a1 = i3 a1)) (zcons (zvi (show (0 : Int32) = i3 0 from rfl)) (zcons (zvi (show (0 : Int32) = i3 0 from rfl)) (zcons (zvi (show (0 : Int32) = i3 0 from rfl)) (zcons (zvi (show (0 : Int32) = i3 0 from rfl)) (zcons (zvi (show (0 : Int32) = i3 0 from rfl)) rfl)))))))) (dg (hZ).1 (by omega) (by omega) (by omega) (by omega) (by omega) (by omega) (by omega) ?_)
      have hZ6I := zH_dd hZ (a1 := 18) (a2 := a1) (a3 := 0) (a4 := 0) (a5 := 0) (a6 := 0) (a7 := 0) (by omega) (by omega) (by omega) (by omega) (by omega) (by omega) (by omega)
      have kZ6 : zC [3, 12, 13, 14, 40, 41, 42, 43, 44, 45, 46, 47, 48, 49, 50, 51, 52, 53, 54, 61, 68, 1099, 1100, 1101, 1102, 1103, 1104, 1105, 1106, 1107, 1108, 1109, 1110, 1111, 1112, 1113, 1114, 1115, 1116] Z (zdd Z 18 a1 0 0 0 0 0) := zC_k zdd_K (by decide) (by decide)
      have hZ6A : (zdd Z 18 a1 0 0 0 0 0) 68 0 0 0 = 18 ∧ (zdd Z 18 a1 0 0 0 0 0) 68 0 0 1 = a1 ∧ (zdd Z 18 a1 0 0 0 0 0) 68 0 0 2 = 0 ∧ (zdd Z 18 a1 0 0 0 0 0) 68 0 0 3 = 0 ∧ (zdd Z 18 a1 0 0 0 0 0) 68 0 0 4 = 0 ∧ (zdd Z 18 a1 0 0 0 0 0) 68 0 0 5 = 0 ∧ (zdd Z 18 a1 0 0 0 0 0) 68 0 0 6 = 0 := ⟨zdd_68, zdd_68, zdd_68, zdd_68, zdd_68, zdd_68, zdd_68⟩
      obtain ⟨Z6, hZ6⟩ := zx (zdd Z 18 a1 0 0 0 0 0)
      have dZ6 : ∀ {k : Nat} {i j : Int}, zhall k = true → ¬ (k = 11 ∧ (j = 15 ∨ j = 16)) → Z6 k 0 i j = Z k 0 i j := fun hk hj => by rw [hZ6]; exact zdd_h (hZ).1 hk hj
      have jZ6 : zU [0, 2, 3, 4, 5, 6, 7, 8, 9] Z (zdd Z 18 a1 0 0 0 0 0) := zU_dd (hZ).1
      rw [← hZ6] at hZ6I kZ6 jZ6 hZ6A ⊢
      have hZ6U : zU [0, 2, 3, 4, 5, 6, 7, 8, 9] Z Z6 := zU_t zU_r jZ6 (zU_b1 (List.Mem.head _) (zU_b1 (List.Mem.tail _ (List.Mem.head _)) (zU_b1 (List.Mem.tail _ (List.Mem.tail _ (List.Mem.head _))) (zU_b1 (List.Mem.tail _ (List.Mem.tail _ (List.Mem.tail _ (List.Mem.head _)))) (zU_b1 (List.Mem.tail _ (List.Mem.tail _ (List.Mem.tail _ (List.Mem.tail _ (List.Mem.head _))))) (zU_b1 (List.Mem.tail _ (List.Mem.tail _ (List.Mem.tail _ (List.Mem.tail _ (List.Mem.tail _ (List.Mem.head _)))))) (zU_b1 (List.Mem.tail _ (List.Mem.tail _ (List.Mem.tail _ (List.Mem.tail _ (List.Mem.tail _ (List.Mem.tail _ (List.Mem.head _))))))) (zU_b1 (List.Mem.tail _ (List.Mem.tail _ (List.Mem.tail _ (List.Mem.tail _ (List.Mem.tail _ (List.Mem.tail _ (List.Mem.tail _ (List.Mem.head _)))))))) (zU_b1 (List.Mem.tail _ (List.Mem.tail _ (List.Mem.tail _ (List.Mem.tail _ (List.Mem.tail _ (List.Mem.tail _ (List.Mem.tail _ (List.Mem.tail _ (List.Mem.head _))))))))) zU_b0)))))))))
      replace hP := zl_e hP hZ6
      have hZ6K : zC [3, 12, 13, 14, 40, 41, 42, 43, 44, 45, 46, 47, 48, 49, 50, 51, 52, 53, 54, 61, 68, 1099, 1100, 1101, 1102, 1103, 1104, 1105, 1106, 1107, 1108, 1109, 1110, 1111, 1112, 1113, 1114, 1115, 1116] Z Z6 := zC_t zC_r kZ6 (by decide)
      clear kZ6 hZ6
      refine fw_121 _ _ _ _ ?_
      refine wz_i1 rfl ?_
      refine wz_i0 (i3O (n := 7) (show (0 : Int32) = i3 0 from rfl) (by omega) (by omega) (by omega)) ?_
      refine wz_i0 (Eq.trans (i3To (Eq.trans (zm_rd (Z := Z6) (ν := ν) (k := 68) (show ((0 : Nat) : Int) = 0 from rfl) (show ((0 : Nat) : Int) = 0 from rfl) (show ((0 : Nat) : Int) = 0 from rfl)) (congrArg i3 ((hZ6A.1)))) (by omega) (by omega)) (decide_eq_false (by omega))) ?_
      refine wz_i0 (Eq.trans (i3T (Eq.trans (zm_rd (Z := Z6) (ν := ν) (k := 68) (show ((0 : Nat) : Int) = 0 from rfl) (show ((0 : Nat) : Int) = 0 from rfl) (show ((0 : Nat) : Int) = 0 from rfl)) (congrArg i3 ((hZ6A.1)))) (by omega) (by omega)) (decide_eq_false (by omega))) ?_
      refine wz_i0 (Eq.trans (i3T (Eq.trans (zm_rd (Z := Z6) (ν := ν) (k := 68) (show ((0 : Nat) : Int) = 0 from rfl) (show ((0 : Nat) : Int) = 0 from rfl) (show ((0 : Nat) : Int) = 0 from rfl)) (congrArg i3 ((hZ6A.1)))) (by omega) (by omega)) (decide_eq_false (by omega))) ?_
      refine wz_i0 (Eq.trans (i3T (Eq.trans (zm_rd (Z := Z6) (ν := ν) (k := 68) (show ((0 : Nat) : Int) = 0 from rfl) (show ((0 : Nat) : Int) = 0 from rfl) (show ((0 : Nat) : Int) = 0 from rfl)) (congrArg i3 ((hZ6A.1)))) (by omega) (by omega)) (decide_eq_false (by omega))) ?_
      refine wz_i0 (Eq.trans (i3T (Eq.trans (zm_rd (Z := Z6) (ν := ν) (k := 68) (show ((0 : Nat) : Int) = 0 from rfl) (show ((0 : Nat) : Int) = 0 from rfl) (show ((0 : Nat) : Int) = 0 from rfl)) (congrArg i3 ((hZ6A.1)))) (by omega) (by omega)) (decide_eq_false (by omega))) ?_
      refine wz_i0 (Eq.trans (i3T (Eq.trans (zm_rd (Z := Z6) (ν := ν) (k := 68) (show ((0 : Nat) : Int) = 0 from rfl) (show ((0 : Nat) : Int) = 0 from rfl) (show ((0 : Nat) : Int) = 0 from rfl)) (congrArg i3 ((hZ6A.1)))) (by omega) (by omega)) (decide_eq_false (by omega))) ?_
      refine wz_i0 (Eq.trans (i3T (Eq.trans (zm_rd (Z := Z6) (ν := ν) (k := 68) (show ((0 : Nat) : Int) = 0 from rfl) (show ((0 : Nat) : Int) = 0 from rfl) (show ((0 : Nat) : Int) = 0 from rfl)) (congrArg i3 ((hZ6A.1)))) (by omega) (by omega)) (decide_eq_false (by omega))) ?_
      refine wz_i0 (Eq.trans (i3T (Eq.trans (zm_rd (Z := Z6) (ν := ν) (k := 68) (show ((0 : Nat) : Int) = 0 from rfl) (show ((0 : Nat) : Int) = 0 from rfl) (show ((0 : Nat) : Int) = 0 from rfl)) (congrArg i3 ((hZ6A.1)))) (by omega) (by omega)) (decide_eq_false (by omega))) ?_
      refine wz_i0 (Eq.trans (i3T (Eq.trans (zm_rd (Z := Z6) (ν := ν) (k := 68) (show ((0 : Nat) : Int) = 0 from rfl) (show ((0 : Nat) : Int) = 0 from rfl) (show ((0 : Nat) : Int) = 0 from rfl)) (congrArg i3 ((hZ6A.1)))) (by omega) (by omega)) (decide_eq_false (by omega))) ?_
      refine wz_i0 (Eq.trans (i3T (Eq.trans (zm_rd (Z := Z6) (ν := ν) (k := 68) (show ((0 : Nat) : Int) = 0 from rfl) (show ((0 : Nat) : Int) = 0 from rfl) (show ((0 : Nat) : Int) = 0 from rfl)) (congrArg i3 ((hZ6A.1)))) (by omega) (by omega)) (decide_eq_false (by omega))) ?_
      refine wz_i0 (Eq.trans (i3T (Eq.trans (zm_rd (Z := Z6) (ν := ν) (k := 68) (show ((0 : Nat) : Int) = 0 from rfl) (show ((0 : Nat) : Int) = 0 from rfl) (show ((0 : Nat) : Int) = 0 from rfl)) (congrArg i3 ((hZ6A.1)))) (by omega) (by omega)) (decide_eq_false (by omega))) ?_
      refine wz_i0 (Eq.trans (i3T (Eq.trans (zm_rd (Z := Z6) (ν := ν) (k := 68) (show ((0 : Nat) : Int) = 0 from rfl) (show ((0 : Nat) : Int) = 0 from rfl) (show ((0 : Nat) : Int) = 0 from rfl)) (congrArg i3 ((hZ6A.1)))) (by omega) (by omega)) (decide_eq_false (by omega))) ?_
      refine wz_i0 (Eq.trans (i3T (Eq.trans (zm_rd (Z := Z6) (ν := ν) (k := 68) (show ((0 : Nat) : Int) = 0 from rfl) (show ((0 : Nat) : Int) = 0 from rfl) (show ((0 : Nat) : Int) = 0 from rfl)) (congrArg i3 ((hZ6A.1)))) (by omega) (by omega)) (decide_eq_false (by omega))) ?_
      refine wz_i0 (Eq.trans (i3T (Eq.trans (zm_rd (Z := Z6) (ν := ν) (k := 68) (show ((0 : Nat) : Int) = 0 from rfl) (show ((0 : Nat) : Int) = 0 from rfl) (show ((0 : Nat) : Int) = 0 from rfl)) (congrArg i3 ((hZ6A.1)))) (by omega) (by omega)) (decide_eq_false (by omega))) ?_
      refine wz_i0 (Eq.trans (i3T (Eq.trans (zm_rd (Z := Z6) (ν := ν) (k := 68) (show ((0 : Nat) : Int) = 0 from rfl) (show ((0 : Nat) : Int) = 0 from rfl) (show ((0 : Nat) : Int) = 0 from rfl)) (congrArg i3 ((hZ6A.1)))) (by omega) (by omega)) (decide_eq_false (by omega))) ?_
      refine wz_i0 (Eq.trans (i3T (Eq.trans (zm_rd (Z := Z6) (ν := ν) (k := 68) (show ((0 : Nat) : Int) = 0 from rfl) (show ((0 : Nat) : Int) = 0 from rfl) (show ((0 : Nat) : Int) = 0 from rfl)) (congrArg i3 ((hZ6A.1)))) (by omega) (by omega)) (decide_eq_false (by omega))) ?_
      refine wz_i0 (Eq.trans (i3T (Eq.trans (zm_rd (Z := Z6) (ν := ν) (k := 68) (show ((0 : Nat) : Int) = 0 from rfl) (show ((0 : Nat) : Int) = 0 from rfl) (show ((0 : Nat) : Int) = 0 from rfl)) (congrArg i3 ((hZ6A.1)))) (by omega) (by omega)) (decide_eq_false (by omega))) ?_
      refine wz_i0 (Eq.trans (i3T (Eq.trans (zm_rd (Z := Z6) (ν := ν) (k := 68) (show ((0 : Nat) : Int) = 0 from rfl) (show ((0 : Nat) : Int) = 0 from rfl) (show ((0 : Nat) : Int) = 0 from rfl)) (congrArg i3 ((hZ6A.1)))) (by omega) (by omega)) (decide_eq_false (by omega))) ?_
      refine wz_i0 (Eq.trans (i3T (Eq.trans (zm_rd (Z := Z6) (ν := ν) (k := 68) (show ((0 : Nat) : Int) = 0 from rfl) (show ((0 : Nat) : Int) = 0 from rfl) (show ((0 : Nat) : Int) = 0 from rfl)) (congrArg i3 ((hZ6A.1)))) (by omega) (by omega)) (decide_eq_false (by omega))) ?_
      refine wz_i1 (Eq.trans (i3T (Eq.trans (zm_rd (Z := Z6) (ν := ν) (k := 68) (show ((0 : Nat) : Int) = 0 from rfl) (show ((0 : Nat) : Int) = 0 from rfl) (show ((0 : Nat) : Int) = 0 from rfl)) (congrArg i3 ((hZ6A.1)))) (by omega) (by omega)) (decide_eq_true (by omega))) ?_
      refine wz_i1 rfl ?_
      refine wz_i0 (i3O (n := 7) (show (1 : Int32) = i3 1 from rfl) (by omega) (by omega) (by omega)) ?_
      obtain ⟨Z7, hZ7⟩ := zx (zu Z6 11 0 0 14 a1)
      replace hP := zl_e hP hZ7
      have hZ7I := zH_u hZ6I hZ7 (lo := 0) (hi := 4) (by decide) rfl (by omega) ⟨by decide, by decide⟩ (Or.inl (by decide)) rfl
      have hZ7U : zU [0, 2, 3, 4, 5, 6, 7, 8, 9] Z Z7 := zU_u hZ6U hZ7 (Or.inr (List.Mem.head _))
      have hZ7K : zC [3, 12, 13, 14, 40, 41, 42, 43, 44, 45, 46, 47, 48, 49, 50, 51, 52, 53, 54, 61, 68, 1099, 1100, 1101, 1102, 1103, 1104, 1105, 1106, 1107, 1108, 1109, 1110, 1111, 1112, 1113, 1114, 1115, 1116] Z Z7 := zC_u hZ6K hZ7 (by decide)
      intro μ9 e9
      replace e9 := e9.trans (zm_wI (Z := Z6) (ν := ν) hZ7 (show ((0 : Nat) : Int) = 0 from rfl) (show ((0 : Nat) : Int) = 0 from rfl) (show ((14 : Nat) : Int) = 14 from rfl) (Eq.trans (zm_rd (Z := Z6) (ν := ν) (k := 68) (show ((0 : Nat) : Int) = 0 from rfl) (show ((0 : Nat) : Int) = 0 from rfl) (show ((1 : Nat) : Int) = 1 from rfl)) (congrArg i3 ((hZ6A.2.1)))))
      subst e9
      have r8 := zH_k hZ6I 11 0 0 14 (lo := 0) (hi := 4) (by decide) rfl
      exact zlG hP (zm_rd (Z := Z6) (ν := ν) (k := 11) (show ((0 : Nat) : Int) = 0 from rfl) (show ((0 : Nat) : Int) = 0 from rfl) (show ((14 : Nat) : Int) = 14 from rfl)) ⟨hZ7I, hZ7K, hZ7U, zG_w zG_r (Nat.le_of_ble_eq_true rfl) (Nat.le_of_ble_eq_true rfl)⟩
  · replace hP := zE_n hP h1
    exact zlGe (E := 12) hP ⟨hZ, zC_r, zU_r, zG_w (zG_k rfl) (Nat.le_of_ble_eq_true rfl) (Nat.le_of_ble_eq_true rfl)⟩
/- yX10_dumpFault -/
def zf_165 (Z : qz_Z) (a0b : Int) (a1 : Int) : Int := (if a1 < 0 then 1 else (if a1 < (Z 11 a0b 0 3) then (if (Z 44 a0b a1 10) = 0 then 0 else (if (Z 44 a0b a1 10) ≠ 1 then 3 else 0)) else 1))
theorem sp_165 {s : zSM} {Z : qz_Z} {ν : qz_N} (hZ : zH s Z) (a0b : Nat) {a1 : Int} (ga1 : -2147483648 ≤ a1 ∧ a1 ≤ 2147483647) (hM : s.2 + 0 ≤ 1000000000) : ∃ P : Int, P = zf_165 Z a0b a1 ∧ (qf_165 [.inr (.inr (some (10, a0b, 0))), .inl (i3 a1)] (zm Z ν) = some (zm Z ν, .inl (some (.inl (i3 P)))) ∧ 0 ≤ P ∧ P ≤ 3) := by
  obtain ⟨P, hP⟩ := zx (zf_165 Z a0b a1)
  refine zc_R (Q := fun P => 0 ≤ P ∧ P ≤ 3) hP (fw_165 a0b (i3 a1) _ _ ?_)
  replace hP : zE P (zf_165 Z a0b a1) := hP
  unfold zf_165 at hP
  refine wz_br (i3L (rfl : i3 a1 = i3 a1) (show (0 : Int32) = i3 0 from rfl) (by omega) (by omega) (by omega) (by omega)) (fun h1 => ?_) (fun h1 => ?_)
  · replace hP := zE_p hP h1
    exact zlR hP (show (1 : Int32) = i3 1 from rfl) ⟨by omega, by omega⟩
  · replace hP := zE_n hP h1
    have r2 := zH_k hZ 11 a0b 0 3 (lo := 0) (hi := 48) (by decide) rfl
    refine wz_br (i3L (rfl : i3 a1 = i3 a1) (zm_rd (Z := Z) (ν := ν) (k := 11) (rfl : ((a0b : Nat) : Int) = a0b) (show ((0 : Nat) : Int) = 0 from rfl) (show ((3 : Nat) : Int) = 3 from rfl)) (by omega) (by omega) (by omega) (by omega)) (fun h3 => ?_) (fun h3 => ?_)
    · replace hP := zE_p hP h3
      refine wz_i0 (i3O (n := 48) (rfl : i3 a1 = i3 a1) (by omega) (by omega) (by omega)) ?_
      have r4 := zH_k hZ 44 a0b a1 10 (lo := 0) (hi := 4) (by decide) rfl
      refine wz_br (i3E (zm_rd (Z := Z) (ν := ν) (k := 44) (rfl : ((a0b : Nat) : Int) = a0b) (i3I (y := a1) (rfl : i3 a1 = i3 a1) (by omega) (by omega) (by omega)) (show ((10 : Nat) : Int) = 10 from rfl)) (show (0 : Int32) = i3 0 from rfl) (by omega) (by omega) (by omega) (by omega)) (fun h5 => ?_) (fun h5 => ?_)
      · replace hP := zE_p hP h5
        exact zlR hP (show (0 : Int32) = i3 0 from rfl) ⟨by omega, by omega⟩
      · replace hP := zE_n hP h5
        refine wz_br (i3NE (zm_rd (Z := Z) (ν := ν) (k := 44) (rfl : ((a0b : Nat) : Int) = a0b) (i3I (y := a1) (rfl : i3 a1 = i3 a1) (by omega) (by omega) (by omega)) (show ((10 : Nat) : Int) = 10 from rfl)) (show (1 : Int32) = i3 1 from rfl) (by omega) (by omega) (by omega) (by omega)) (fun h6 => ?_) (fun h6 => ?_)
        · replace hP := zE_p hP h6
          exact zlR hP (show (3 : Int32) = i3 3 from rfl) ⟨by omega, by omega⟩
        · replace hP := zE_n hP h6
          exact zlR hP (show (0 : Int32) = i3 0 from rfl) ⟨by omega, by omega⟩
    · replace hP := zE_n hP h3
      exact zlR hP (show (1 : Int32) = i3 1 from rfl) ⟨by omega, by omega⟩
/- yX11_dump -/
def zx_198 (Z : qz_Z) (a1 : Int) : qz_Z × Int × Int := (if a1 < 0 then (Z, 0, 24) else (if a1 < (Z 11 0 0 3) then (if (Z 44 0 a1 10) = 0 then (zlet (zdd Z 9 a1 0 0 0 0 0) (fun Z6 => (zlet2 (zf_105 Z6 0 a1 4) (fun Z7 v8 => (Z7, v8, 0))))) else (if (Z 44 0 a1 10) ≠ 1 then (Z, 0, 15) else (zlet (zdd Z 9 a1 0 0 0 0 0) (fun Z10 => (zlet2 (zf_105 Z10 0 a1 4) (fun Z11 v12 => (Z11, v12, 0))))))) else (Z, 0, 24)))
theorem sx_198 {M : Nat} {Z : qz_Z} {ν : qz_N} (hZ : zH ((none, M) : zSM) Z) (hM : ((none, M) : zSM).2 + 63 ≤ 1000000000) {a1 : Int} (ga1 : -2147483648 ≤ a1 ∧ a1 ≤ 2147483647) : ∃ (Z1 : qz_Z) (ν1 : qz_N) (v E : Int), (Z1, v, E) = zx_198 Z a1 ∧ qf_198 [.inr (.inr (some (0, 0, 0))), .inl (i3 a1)] (zm Z ν) = some (zm Z1 ν1, zoX v E) ∧ (fun Z1 ν1 => zH (zb ((none, M) : zSM) 63) Z1 ∧ zC [3, 12, 13, 14, 40, 41, 42, 43, 44, 45, 46, 47, 48, 49, 50, 51, 52, 53, 54, 61, 68, 1099, 1100, 1101, 1102, 1103, 1104, 1105, 1106, 1107, 1108, 1109, 1110, 1111, 1112, 1113, 1114, 1115, 1116] Z Z1 ∧ zU [0, 2, 3, 4, 5, 6, 7, 8, 9] Z Z1 ∧ zG 1 6 ν ν1) Z1 ν1 := by
  obtain ⟨P, hP⟩ := zx (zx_198 Z a1)
  refine zc_G (Q := fun Z1 ν1 => zH (zb ((none, M) : zSM) 63) Z1 ∧ zC [3, 12, 13, 14, 40, 41, 42, 43, 44, 45, 46, 47, 48, 49, 50, 51, 52, 53, 54, 61, 68, 1099, 1100, 1101, 1102, 1103, 1104, 1105, 1106, 1107, 1108, 1109, 1110, 1111, 1112, 1113, 1114, 1115, 1116] Z Z1 ∧ zU [0, 2, 3, 4, 5, 6, 7, 8, 9] Z Z1 ∧ zG 1 6 ν ν1) hP (fw_198 (i3 a1) _ _ ?_)
  replace hP : zE P (zx_198 Z a1) := hP
  unfold zx_198 at hP
  refine fw_165 _ _ _ _ ?_
  refine wz_br (i3L (rfl : i3 a1 = i3 a1) (show (0 : Int32) = i3 0 from rfl) (by omega) (by omega) (by omega) (by omega)) (fun h1 => ?_) (fun h1 => ?_)
  · replace hP := zE_p hP h1
    refine wz_i0 (Eq.trans (i3NE (show (1 : Int32) = i3 1 from rfl) (show (1 : Int32) = i3 1 from rfl) (by omega) (by omega) (by omega) (by omega)) (decide_eq_false (by omega))) ?_
    exact zlGe (E := 23) hP ⟨(zbw (a := 0) (c := 63) hZ (Nat.le_of_ble_eq_true rfl)), zC_r, zU_r, zG_w (zG_k rfl) (Nat.le_of_ble_eq_true rfl) (Nat.le_of_ble_eq_true rfl)⟩
  · replace hP := zE_n hP h1
    have r2 := zH_k hZ 11 0 0 3 (lo := 0) (hi := 48) (by decide) rfl
    refine wz_br (i3L (rfl : i3 a1 = i3 a1) (zm_rd (Z := Z) (ν := ν) (k := 11) (show ((0 : Nat) : Int) = 0 from rfl) (show ((0 : Nat) : Int) = 0 from rfl) (show ((3 : Nat) : Int) = 3 from rfl)) (by omega) (by omega) (by omega) (by omega)) (fun h3 => ?_) (fun h3 => ?_)
    · replace hP := zE_p hP h3
      refine wz_i0 (i3O (n := 48) (rfl : i3 a1 = i3 a1) (by omega) (by omega) (by omega)) ?_
      have r4 := zH_k hZ 44 0 a1 10 (lo := 0) (hi := 4) (by decide) rfl
      refine wz_br (i3E (zm_rd (Z := Z) (ν := ν) (k := 44) (show ((0 : Nat) : Int) = 0 from rfl) (i3I (y := a1) (rfl : i3 a1 = i3 a1) (by omega) (by omega) (by omega)) (show ((10 : Nat) : Int) = 10 from rfl)) (show (0 : Int32) = i3 0 from rfl) (by omega) (by omega) (by omega) (by omega)) (fun h5 => ?_) (fun h5 => ?_)
      · replace hP := zE_p hP h5
        refine wz_i1 (Eq.trans (i3NE (show (0 : Int32) = i3 0 from rfl) (show (1 : Int32) = i3 1 from rfl) (by omega) (by omega) (by omega) (by omega)) (decide_eq_true (by omega))) ?_
        refine wz_i1 (Eq.trans (i3NE (show (0 : Int32) = i3 0 from rfl) (show (2 : Int32) = i3 2 from rfl) (by omega) (by omega) (by omega) (by omega)) (decide_eq_true (by omega))) ?_
        refine wz_i1 (Eq.trans (i3NE (show (0 : Int32) = i3 0 from rfl) (show (3 : Int32) = i3 3 from rfl) (by omega) (by omega) (by omega) (by omega)) (decide_eq_true (by omega))) ?_
        refine dc_J (zcons rfl (zcons (zvi (show (9 : Int32) = i3 9 from rfl)) (zcons (zvi (rfl : i3 a1 = i3 a1)) (zcons (zvi (show (0 : Int32) = i3 0 from rfl)) (zcons (zvi (show (0 : Int32) = i3 0 from rfl)) (zcons (zvi (show (0 : Int32) = i3 0 from rfl)) (zcons (zvi (show (0 : Int32) = i3 0 from rfl)) (zcons (zvi (show (0 : Int32) = i3 0 from rfl)) rfl)))))))) (dg (hZ).1 (by omega) (by omega) (by omega) (by omega) (by omega) (by omega) (by omega) ?_)
        have hZ6I := zH_dd hZ (a1 := 9) (a2 := a1) (a3 := 0) (a4 := 0) (a5 := 0) (a6 := 0) (a7 := 0) (by omega) (by omega) (by omega) (by omega) (by omega) (by omega) (by omega)
        have kZ6 : zC [3, 12, 13, 14, 40, 41, 42, 43, 44, 45, 46, 47, 48, 49, 50, 51, 52, 53, 54, 61, 68, 1099, 1100, 1101, 1102, 1103, 1104, 1105, 1106, 1107, 1108, 1109, 1110, 1111, 1112, 1113, 1114, 1115, 1116] Z (zdd Z 9 a1 0 0 0 0 0) := zC_k zdd_K (by decide) (by decide)
        have hZ6A : (zdd Z 9 a1 0 0 0 0 0) 68 0 0 0 = 9 ∧ (zdd Z 9 a1 0 0 0 0 0) 68 0 0 1 = a1 ∧ (zdd Z 9 a1 0 0 0 0 0) 68 0 0 2 = 0 ∧ (zdd Z 9 a1 0 0 0 0 0) 68 0 0 3 = 0 ∧ (zdd Z 9 a1 0 0 0 0 0) 68 0 0 4 = 0 ∧ (zdd Z 9 a1 0 0 0 0 0) 68 0 0 5 = 0 ∧ (zdd Z 9 a1 0 0 0 0 0) 68 0 0 6 = 0 := ⟨zdd_68, zdd_68, zdd_68, zdd_68, zdd_68, zdd_68, zdd_68⟩
        obtain ⟨Z6, hZ6⟩ := zx (zdd Z 9 a1 0 0 0 0 0)
        have dZ6 : ∀ {k : Nat} {i j : Int}, zhall k = true → ¬ (k = 11 ∧ (j = 15 ∨ j = 16)) → Z6 k 0 i j = Z k 0 i j := fun hk hj => by rw [hZ6]; exact zdd_h (hZ).1 hk hj
        have jZ6 : zU [0, 2, 3, 4, 5, 6, 7, 8, 9] Z (zdd Z 9 a1 0 0 0 0 0) := zU_dd (hZ).1
        rw [← hZ6] at hZ6I kZ6 jZ6 hZ6A ⊢
        have hZ6U : zU [0, 2, 3, 4, 5, 6, 7, 8, 9] Z Z6 := zU_t zU_r jZ6 (zU_b1 (List.Mem.head _) (zU_b1 (List.Mem.tail _ (List.Mem.head _)) (zU_b1 (List.Mem.tail _ (List.Mem.tail _ (List.Mem.head _))) (zU_b1 (List.Mem.tail _ (List.Mem.tail _ (List.Mem.tail _ (List.Mem.head _)))) (zU_b1 (List.Mem.tail _ (List.Mem.tail _ (List.Mem.tail _ (List.Mem.tail _ (List.Mem.head _))))) (zU_b1 (List.Mem.tail _ (List.Mem.tail _ (List.Mem.tail _ (List.Mem.tail _ (List.Mem.tail _ (List.Mem.head _)))))) (zU_b1 (List.Mem.tail _ (List.Mem.tail _ (List.Mem.tail _ (List.Mem.tail _ (List.Mem.tail _ (List.Mem.tail _ (List.Mem.head _))))))) (zU_b1 (List.Mem.tail _ (List.Mem.tail _ (List.Mem.tail _ (List.Mem.tail _ (List.Mem.tail _ (List.Mem.tail _ (List.Mem.tail _ (List.Mem.head _)))))))) (zU_b1 (List.Mem.tail _ (List.Mem.tail _ (List.Mem.tail _ (List.Mem.tail _ (List.Mem.tail _ (List.Mem.tail _ (List.Mem.tail _ (List.Mem.tail _ (List.Mem.head _))))))))) zU_b0)))))))))
        replace hP := zl_e hP hZ6
        have hZ6K : zC [3, 12, 13, 14, 40, 41, 42, 43, 44, 45, 46, 47, 48, 49, 50, 51, 52, 53, 54, 61, 68, 1099, 1100, 1101, 1102, 1103, 1104, 1105, 1106, 1107, 1108, 1109, 1110, 1111, 1112, 1113, 1114, 1115, 1116] Z Z6 := zC_t zC_r kZ6 (by decide)
        clear kZ6 hZ6
        refine fw_121 _ _ _ _ ?_
        refine wz_i1 rfl ?_
        refine wz_i0 (i3O (n := 7) (show (0 : Int32) = i3 0 from rfl) (by omega) (by omega) (by omega)) ?_
        refine wz_i0 (Eq.trans (i3To (Eq.trans (zm_rd (Z := Z6) (ν := ν) (k := 68) (show ((0 : Nat) : Int) = 0 from rfl) (show ((0 : Nat) : Int) = 0 from rfl) (show ((0 : Nat) : Int) = 0 from rfl)) (congrArg i3 ((hZ6A.1)))) (by omega) (by omega)) (decide_eq_false (by omega))) ?_
        refine wz_i0 (Eq.trans (i3T (Eq.trans (zm_rd (Z := Z6) (ν := ν) (k := 68) (show ((0 : Nat) : Int) = 0 from rfl) (show ((0 : Nat) : Int) = 0 from rfl) (show ((0 : Nat) : Int) = 0 from rfl)) (congrArg i3 ((hZ6A.1)))) (by omega) (by omega)) (decide_eq_false (by omega))) ?_
        refine wz_i0 (Eq.trans (i3T (Eq.trans (zm_rd (Z := Z6) (ν := ν) (k := 68) (show ((0 : Nat) : Int) = 0 from rfl) (show ((0 : Nat) : Int) = 0 from rfl) (show ((0 : Nat) : Int) = 0 from rfl)) (congrArg i3 ((hZ6A.1)))) (by omega) (by omega)) (decide_eq_false (by omega))) ?_
        refine wz_i0 (Eq.trans (i3T (Eq.trans (zm_rd (Z := Z6) (ν := ν) (k := 68) (show ((0 : Nat) : Int) = 0 from rfl) (show ((0 : Nat) : Int) = 0 from rfl) (show ((0 : Nat) : Int) = 0 from rfl)) (congrArg i3 ((hZ6A.1)))) (by omega) (by omega)) (decide_eq_false (by omega))) ?_
        refine wz_i0 (Eq.trans (i3T (Eq.trans (zm_rd (Z := Z6) (ν := ν) (k := 68) (show ((0 : Nat) : Int) = 0 from rfl) (show ((0 : Nat) : Int) = 0 from rfl) (show ((0 : Nat) : Int) = 0 from rfl)) (congrArg i3 ((hZ6A.1)))) (by omega) (by omega)) (decide_eq_false (by omega))) ?_
        refine wz_i0 (Eq.trans (i3T (Eq.trans (zm_rd (Z := Z6) (ν := ν) (k := 68) (show ((0 : Nat) : Int) = 0 from rfl) (show ((0 : Nat) : Int) = 0 from rfl) (show ((0 : Nat) : Int) = 0 from rfl)) (congrArg i3 ((hZ6A.1)))) (by omega) (by omega)) (decide_eq_false (by omega))) ?_
        refine wz_i0 (Eq.trans (i3T (Eq.trans (zm_rd (Z := Z6) (ν := ν) (k := 68) (show ((0 : Nat) : Int) = 0 from rfl) (show ((0 : Nat) : Int) = 0 from rfl) (show ((0 : Nat) : Int) = 0 from rfl)) (congrArg i3 ((hZ6A.1)))) (by omega) (by omega)) (decide_eq_false (by omega))) ?_
        refine wz_i0 (Eq.trans (i3T (Eq.trans (zm_rd (Z := Z6) (ν := ν) (k := 68) (show ((0 : Nat) : Int) = 0 from rfl) (show ((0 : Nat) : Int) = 0 from rfl) (show ((0 : Nat) : Int) = 0 from rfl)) (congrArg i3 ((hZ6A.1)))) (by omega) (by omega)) (decide_eq_false (by omega))) ?_
        refine wz_i0 (Eq.trans (i3T (Eq.trans (zm_rd (Z := Z6) (ν := ν) (k := 68) (show ((0 : Nat) : Int) = 0 from rfl) (show ((0 : Nat) : Int) = 0 from rfl) (show ((0 : Nat) : Int) = 0 from rfl)) (congrArg i3 ((hZ6A.1)))) (by omega) (by omega)) (decide_eq_false (by omega))) ?_
        refine wz_i0 (Eq.trans (i3T (Eq.trans (zm_rd (Z := Z6) (ν := ν) (k := 68) (show ((0 : Nat) : Int) = 0 from rfl) (show ((0 : Nat) : Int) = 0 from rfl) (show ((0 : Nat) : Int) = 0 from rfl)) (congrArg i3 ((hZ6A.1)))) (by omega) (by omega)) (decide_eq_false (by omega))) ?_
        refine wz_i1 (Eq.trans (i3T (Eq.trans (zm_rd (Z := Z6) (ν := ν) (k := 68) (show ((0 : Nat) : Int) = 0 from rfl) (show ((0 : Nat) : Int) = 0 from rfl) (show ((0 : Nat) : Int) = 0 from rfl)) (congrArg i3 ((hZ6A.1)))) (by omega) (by omega)) (decide_eq_true (by omega))) ?_
        refine wz_i1 rfl ?_
        refine wz_i0 (i3O (n := 7) (show (1 : Int32) = i3 1 from rfl) (by omega) (by omega) (by omega)) ?_
        obtain ⟨Z7, v8, hv8, c9, hZ7I, kZ7, jZ7, lv8, uv8⟩ := sp_105 (ν := ν) hZ6I 0 (a1 := a1) (by omega) (a2 := 4) (by omega) (zbh (c := 0) (k := 63) hM (Nat.le_of_ble_eq_true rfl))
        have hZ7U : zU [0, 2, 3, 4, 5, 6, 7, 8, 9] Z Z7 := zU_t hZ6U jZ7 (zU_b1 (List.Mem.head _) zU_b0)
        have hZ7K : zC [3, 12, 13, 14, 40, 41, 42, 43, 44, 45, 46, 47, 48, 49, 50, 51, 52, 53, 54, 61, 68, 1099, 1100, 1101, 1102, 1103, 1104, 1105, 1106, 1107, 1108, 1109, 1110, 1111, 1112, 1113, 1114, 1115, 1116] Z Z7 := zC_t hZ6K kZ7 (by decide)
        replace hP := zl_e2 hP hv8
        refine wz_cI_of (zas (zcons rfl (zcons (zvi (Eq.trans (zm_rd (Z := Z6) (ν := ν) (k := 68) (show ((0 : Nat) : Int) = 0 from rfl) (show ((0 : Nat) : Int) = 0 from rfl) (show ((1 : Nat) : Int) = 1 from rfl)) (congrArg i3 ((hZ6A.2.1))))) (zcons (zvi (show (4 : Int32) = i3 4 from rfl)) rfl))) c9) ?_
        clear c9 hv8
        exact zlG hP (rfl : i3 v8 = i3 v8) ⟨hZ7I, hZ7K, hZ7U, zG_w zG_r (Nat.le_of_ble_eq_true rfl) (Nat.le_of_ble_eq_true rfl)⟩
      · replace hP := zE_n hP h5
        refine wz_br (i3NE (zm_rd (Z := Z) (ν := ν) (k := 44) (show ((0 : Nat) : Int) = 0 from rfl) (i3I (y := a1) (rfl : i3 a1 = i3 a1) (by omega) (by omega) (by omega)) (show ((10 : Nat) : Int) = 10 from rfl)) (show (1 : Int32) = i3 1 from rfl) (by omega) (by omega) (by omega) (by omega)) (fun h9 => ?_) (fun h9 => ?_)
        · replace hP := zE_p hP h9
          refine wz_i1 (Eq.trans (i3NE (show (3 : Int32) = i3 3 from rfl) (show (1 : Int32) = i3 1 from rfl) (by omega) (by omega) (by omega) (by omega)) (decide_eq_true (by omega))) ?_
          refine wz_i1 (Eq.trans (i3NE (show (3 : Int32) = i3 3 from rfl) (show (2 : Int32) = i3 2 from rfl) (by omega) (by omega) (by omega) (by omega)) (decide_eq_true (by omega))) ?_
          refine wz_i0 (Eq.trans (i3NE (show (3 : Int32) = i3 3 from rfl) (show (3 : Int32) = i3 3 from rfl) (by omega) (by omega) (by omega) (by omega)) (decide_eq_false (by omega))) ?_
          exact zlGe (E := 14) hP ⟨(zbw (a := 0) (c := 63) hZ (Nat.le_of_ble_eq_true rfl)), zC_r, zU_r, zG_w (zG_k rfl) (Nat.le_of_ble_eq_true rfl) (Nat.le_of_ble_eq_true rfl)⟩
        · replace hP := zE_n hP h9
          refine wz_i1 (Eq.trans (i3NE (show (0 : Int32) = i3 0 from rfl) (show (1 : Int32) = i3 1 from rfl) (by omega) (by omega) (by omega) (by omega)) (decide_eq_true (by omega))) ?_
          refine wz_i1 (Eq.trans (i3NE (show (0 : Int32) = i3 0 from rfl) (show (2 : Int32) = i3 2 from rfl) (by omega) (by omega) (by omega) (by omega)) (decide_eq_true (by omega))) ?_
          refine wz_i1 (Eq.trans (i3NE (show (0 : Int32) = i3 0 from rfl) (show (3 : Int32) = i3 3 from rfl) (by omega) (by omega) (by omega) (by omega)) (decide_eq_true (by omega))) ?_
          refine dc_J (zcons rfl (zcons (zvi (show (9 : Int32) = i3 9 from rfl)) (zcons (zvi (rfl : i3 a1 = i3 a1)) (zcons (zvi (show (0 : Int32) = i3 0 from rfl)) (zcons (zvi (show (0 : Int32) = i3 0 from rfl)) (zcons (zvi (show (0 : Int32) = i3 0 from rfl)) (zcons (zvi (show (0 : Int32) = i3 0 from rfl)) (zcons (zvi (show (0 : Int32) = i3 0 from rfl)) rfl)))))))) (dg (hZ).1 (by omega) (by omega) (by omega) (by omega) (by omega) (by omega) (by omega) ?_)
          have hZ10I := zH_dd hZ (a1 := 9) (a2 := a1) (a3 := 0) (a4 := 0) (a5 := 0) (a6 := 0) (a7 := 0) (by omega) (by omega) (by omega) (by omega) (by omega) (by omega) (by omega)
          have kZ10 : zC [3, 12, 13, 14, 40, 41, 42, 43, 44, 45, 46, 47, 48, 49, 50, 51, 52, 53, 54, 61, 68, 1099, 1100, 1101, 1102, 1103, 1104, 1105, 1106, 1107, 1108, 1109, 1110, 1111, 1112, 1113, 1114, 1115, 1116] Z (zdd Z 9 a1 0 0 0 0 0) := zC_k zdd_K (by decide) (by decide)
          have hZ10A : (zdd Z 9 a1 0 0 0 0 0) 68 0 0 0 = 9 ∧ (zdd Z 9 a1 0 0 0 0 0) 68 0 0 1 = a1 ∧ (zdd Z 9 a1 0 0 0 0 0) 68 0 0 2 = 0 ∧ (zdd Z 9 a1 0 0 0 0 0) 68 0 0 3 = 0 ∧ (zdd Z 9 a1 0 0 0 0 0) 68 0 0 4 = 0 ∧ (zdd Z 9 a1 0 0 0 0 0) 68 0 0 5 = 0 ∧ (zdd Z 9 a1 0 0 0 0 0) 68 0 0 6 = 0 := ⟨zdd_68, zdd_68, zdd_68, zdd_68, zdd_68, zdd_68, zdd_68⟩
          obtain ⟨Z10, hZ10⟩ := zx (zdd Z 9 a1 0 0 0 0 0)
          have dZ10 : ∀ {k : Nat} {i j : Int}, zhall k = true → ¬ (k = 11 ∧ (j = 15 ∨ j = 16)) → Z10 k 0 i j = Z k 0 i j := fun hk hj => by rw [hZ10]; exact zdd_h (hZ).1 hk hj
          have jZ10 : zU [0, 2, 3, 4, 5, 6, 7, 8, 9] Z (zdd Z 9 a1 0 0 0 0 0) := zU_dd (hZ).1
          rw [← hZ10] at hZ10I kZ10 jZ10 hZ10A ⊢
          have hZ10U : zU [0, 2, 3, 4, 5, 6, 7, 8, 9] Z Z10 := zU_t zU_r jZ10 (zU_b1 (List.Mem.head _) (zU_b1 (List.Mem.tail _ (List.Mem.head _)) (zU_b1 (List.Mem.tail _ (List.Mem.tail _ (List.Mem.head _))) (zU_b1 (List.Mem.tail _ (List.Mem.tail _ (List.Mem.tail _ (List.Mem.head _)))) (zU_b1 (List.Mem.tail _ (List.Mem.tail _ (List.Mem.tail _ (List.Mem.tail _ (List.Mem.head _))))) (zU_b1 (List.Mem.tail _ (List.Mem.tail _ (List.Mem.tail _ (List.Mem.tail _ (List.Mem.tail _ (List.Mem.head _)))))) (zU_b1 (List.Mem.tail _ (List.Mem.tail _ (List.Mem.tail _ (List.Mem.tail _ (List.Mem.tail _ (List.Mem.tail _ (List.Mem.head _))))))) (zU_b1 (List.Mem.tail _ (List.Mem.tail _ (List.Mem.tail _ (List.Mem.tail _ (List.Mem.tail _ (List.Mem.tail _ (List.Mem.tail _ (List.Mem.head _)))))))) (zU_b1 (List.Mem.tail _ (List.Mem.tail _ (List.Mem.tail _ (List.Mem.tail _ (List.Mem.tail _ (List.Mem.tail _ (List.Mem.tail _ (List.Mem.tail _ (List.Mem.head _))))))))) zU_b0)))))))))
          replace hP := zl_e hP hZ10
          have hZ10K : zC [3, 12, 13, 14, 40, 41, 42, 43, 44, 45, 46, 47, 48, 49, 50, 51, 52, 53, 54, 61, 68, 1099, 1100, 1101, 1102, 1103, 1104, 1105, 1106, 1107, 1108, 1109, 1110, 1111, 1112, 1113, 1114, 1115, 1116] Z Z10 := zC_t zC_r kZ10 (by decide)
          clear kZ10 hZ10
          refine fw_121 _ _ _ _ ?_
          refine wz_i1 rfl ?_
          refine wz_i0 (i3O (n := 7) (show (0 : Int32) = i3 0 from rfl) (by omega) (by omega) (by omega)) ?_
          refine wz_i0 (Eq.trans (i3To (Eq.trans (zm_rd (Z := Z10) (ν := ν) (k := 68) (show ((0 : Nat) : Int) = 0 from rfl) (show ((0 : Nat) : Int) = 0 from rfl) (show ((0 : Nat) : Int) = 0 from rfl)) (congrArg i3 ((hZ10A.1)))) (by omega) (by omega)) (decide_eq_false (by omega))) ?_
          refine wz_i0 (Eq.trans (i3T (Eq.trans (zm_rd (Z := Z10) (ν := ν) (k := 68) (show ((0 : Nat) : Int) = 0 from rfl) (show ((0 : Nat) : Int) = 0 from rfl) (show ((0 : Nat) : Int) = 0 from rfl)) (congrArg i3 ((hZ10A.1)))) (by omega) (by omega)) (decide_eq_false (by omega))) ?_
          refine wz_i0 (Eq.trans (i3T (Eq.trans (zm_rd (Z := Z10) (ν := ν) (k := 68) (show ((0 : Nat) : Int) = 0 from rfl) (show ((0 : Nat) : Int) = 0 from rfl) (show ((0 : Nat) : Int) = 0 from rfl)) (congrArg i3 ((hZ10A.1)))) (by omega) (by omega)) (decide_eq_false (by omega))) ?_
          refine wz_i0 (Eq.trans (i3T (Eq.trans (zm_rd (Z := Z10) (ν := ν) (k := 68) (show ((0 : Nat) : Int) = 0 from rfl) (show ((0 : Nat) : Int) = 0 from rfl) (show ((0 : Nat) : Int) = 0 from rfl)) (congrArg i3 ((hZ10A.1)))) (by omega) (by omega)) (decide_eq_false (by omega))) ?_
          refine wz_i0 (Eq.trans (i3T (Eq.trans (zm_rd (Z := Z10) (ν := ν) (k := 68) (show ((0 : Nat) : Int) = 0 from rfl) (show ((0 : Nat) : Int) = 0 from rfl) (show ((0 : Nat) : Int) = 0 from rfl)) (congrArg i3 ((hZ10A.1)))) (by omega) (by omega)) (decide_eq_false (by omega))) ?_
          refine wz_i0 (Eq.trans (i3T (Eq.trans (zm_rd (Z := Z10) (ν := ν) (k := 68) (show ((0 : Nat) : Int) = 0 from rfl) (show ((0 : Nat) : Int) = 0 from rfl) (show ((0 : Nat) : Int) = 0 from rfl)) (congrArg i3 ((hZ10A.1)))) (by omega) (by omega)) (decide_eq_false (by omega))) ?_
          refine wz_i0 (Eq.trans (i3T (Eq.trans (zm_rd (Z := Z10) (ν := ν) (k := 68) (show ((0 : Nat) : Int) = 0 from rfl) (show ((0 : Nat) : Int) = 0 from rfl) (show ((0 : Nat) : Int) = 0 from rfl)) (congrArg i3 ((hZ10A.1)))) (by omega) (by omega)) (decide_eq_false (by omega))) ?_
          refine wz_i0 (Eq.trans (i3T (Eq.trans (zm_rd (Z := Z10) (ν := ν) (k := 68) (show ((0 : Nat) : Int) = 0 from rfl) (show ((0 : Nat) : Int) = 0 from rfl) (show ((0 : Nat) : Int) = 0 from rfl)) (congrArg i3 ((hZ10A.1)))) (by omega) (by omega)) (decide_eq_false (by omega))) ?_
          refine wz_i0 (Eq.trans (i3T (Eq.trans (zm_rd (Z := Z10) (ν := ν) (k := 68) (show ((0 : Nat) : Int) = 0 from rfl) (show ((0 : Nat) : Int) = 0 from rfl) (show ((0 : Nat) : Int) = 0 from rfl)) (congrArg i3 ((hZ10A.1)))) (by omega) (by omega)) (decide_eq_false (by omega))) ?_
          refine wz_i0 (Eq.trans (i3T (Eq.trans (zm_rd (Z := Z10) (ν := ν) (k := 68) (show ((0 : Nat) : Int) = 0 from rfl) (show ((0 : Nat) : Int) = 0 from rfl) (show ((0 : Nat) : Int) = 0 from rfl)) (congrArg i3 ((hZ10A.1)))) (by omega) (by omega)) (decide_eq_false (by omega))) ?_
          refine wz_i1 (Eq.trans (i3T (Eq.trans (zm_rd (Z := Z10) (ν := ν) (k := 68) (show ((0 : Nat) : Int) = 0 from rfl) (show ((0 : Nat) : Int) = 0 from rfl) (show ((0 : Nat) : Int) = 0 from rfl)) (congrArg i3 ((hZ10A.1)))) (by omega) (by omega)) (decide_eq_true (by omega))) ?_
          refine wz_i1 rfl ?_
          refine wz_i0 (i3O (n := 7) (show (1 : Int32) = i3 1 from rfl) (by omega) (by omega) (by omega)) ?_
          obtain ⟨Z11, v12, hv12, c9, hZ11I, kZ11, jZ11, lv12, uv12⟩ := sp_105 (ν := ν) hZ10I 0 (a1 := a1) (by omega) (a2 := 4) (by omega) (zbh (c := 0) (k := 63) hM (Nat.le_of_ble_eq_true rfl))
          have hZ11U : zU [0, 2, 3, 4, 5, 6, 7, 8, 9] Z Z11 := zU_t hZ10U jZ11 (zU_b1 (List.Mem.head _) zU_b0)
          have hZ11K : zC [3, 12, 13, 14, 40, 41, 42, 43, 44, 45, 46, 47, 48, 49, 50, 51, 52, 53, 54, 61, 68, 1099, 1100, 1101, 1102, 1103, 1104, 1105, 1106, 1107, 1108, 1109, 1110, 1111, 1112, 1113, 1114, 1115, 1116] Z Z11 := zC_t hZ10K kZ11 (by decide)
          replace hP := zl_e2 hP hv12
          refine wz_cI_of (zas (zcons rfl (zcons (zvi (Eq.trans (zm_rd (Z := Z10) (ν := ν) (k := 68) (show ((0 : Nat) : Int) = 0 from rfl) (show ((0 : Nat) : Int) = 0 from rfl) (show ((1 : Nat) : Int) = 1 from rfl)) (congrArg i3 ((hZ10A.2.1))))) (zcons (zvi (show (4 : Int32) = i3 4 from rfl)) rfl))) c9) ?_
          clear c9 hv12
          exact zlG hP (rfl : i3 v12 = i3 v12) ⟨hZ11I, hZ11K, hZ11U, zG_w zG_r (Nat.le_of_ble_eq_true rfl) (Nat.le_of_ble_eq_true rfl)⟩
    · replace hP := zE_n hP h3
      refine wz_i0 (Eq.trans (i3NE (show (1 : Int32) = i3 1 from rfl) (show (1 : Int32) = i3 1 from rfl) (by omega) (by omega) (by omega) (by omega)) (decide_eq_false (by omega))) ?_
      exact zlGe (E := 23) hP ⟨(zbw (a := 0) (c := 63) hZ (Nat.le_of_ble_eq_true rfl)), zC_r, zU_r, zG_w (zG_k rfl) (Nat.le_of_ble_eq_true rfl) (Nat.le_of_ble_eq_true rfl)⟩
/- yX11_entry -/
def zx_199 (Z : qz_Z) (a1 : Int) (a2 : Int) : qz_Z × Int × Int := (if 0 ≤ a1 ∧ a1 < (min 60 (Z 11 0 0 12)) then (if 0 ≤ a2 ∧ a2 ≤ 4 then (Z, (Z 53 0 ((((Z 11 0 0 12) - 1) - a1) % 60) a2), 0) else (Z, 0, 13)) else (Z, 0, 24))
theorem sx_199 {M : Nat} {Z : qz_Z} {ν : qz_N} (hZ : zH ((none, M) : zSM) Z) (hM : ((none, M) : zSM).2 + 0 ≤ 1000000000) {a1 : Int} (ga1 : -2147483648 ≤ a1 ∧ a1 ≤ 2147483647) {a2 : Int} (ga2 : -2147483648 ≤ a2 ∧ a2 ≤ 2147483647) : ∃ (Z1 : qz_Z) (ν1 : qz_N) (v E : Int), (Z1, v, E) = zx_199 Z a1 a2 ∧ qf_199 [.inr (.inr (some (0, 0, 0))), .inl (i3 a1), .inl (i3 a2)] (zm Z ν) = some (zm Z1 ν1, zoX v E) ∧ (fun Z1 ν1 => zH ((none, M) : zSM) Z1 ∧ zC [] Z Z1 ∧ zU [] Z Z1 ∧ zG 1 6 ν ν1) Z1 ν1 := by
  obtain ⟨P, hP⟩ := zx (zx_199 Z a1 a2)
  refine zc_G (Q := fun Z1 ν1 => zH ((none, M) : zSM) Z1 ∧ zC [] Z Z1 ∧ zU [] Z Z1 ∧ zG 1 6 ν ν1) hP (fw_199 (i3 a1) (i3 a2) _ _ ?_)
  replace hP : zE P (zx_199 Z a1 a2) := hP
  unfold zx_199 at hP
  have r1 := zH_c12 hZ 0 (zbh (c := 0) (k := 0) hM (Nat.le_of_ble_eq_true rfl))
  refine wz_thing (rfl : i3 a1 = i3 a1) (i3Mn (show (60 : Int32) = i3 60 from rfl) (zm_rd (Z := Z) (ν := ν) (k := 11) (show ((0 : Nat) : Int) = 0 from rfl) (show ((0 : Nat) : Int) = 0 from rfl) (show ((12 : Nat) : Int) = 12 from rfl)) (by omega) (by omega) (by omega) (by omega)) (by omega) (by omega) (by omega) (by omega) (fun h2 => ?_) (fun h2 => ?_)
  · replace hP := zE_p hP h2
    refine wz_inR (rfl : i3 a2 = i3 a2) (show (0 : Int32) = i3 0 from rfl) (show (4 : Int32) = i3 4 from rfl) (by omega) (by omega) (by omega) (by omega) (by omega) (by omega) (fun h3 => ?_) (fun h3 => ?_)
    · replace hP := zE_p hP h3
      refine wz_i0 (i3O (n := 60) (i3R (i3S (i3S (zm_rd (Z := Z) (ν := ν) (k := 11) (show ((0 : Nat) : Int) = 0 from rfl) (show ((0 : Nat) : Int) = 0 from rfl) (show ((12 : Nat) : Int) = 12 from rfl)) (show (1 : Int32) = i3 1 from rfl)) (rfl : i3 a1 = i3 a1)) (show (60 : Int32) = i3 60 from rfl) (by omega) (by omega) (by omega) (by omega)) (by omega) (by omega) (by omega)) ?_
      refine wz_i0 (i3O (n := 5) (rfl : i3 a2 = i3 a2) (by omega) (by omega) (by omega)) ?_
      have r4 := zH_f hZ 53 0 ((((Z 11 0 0 12) - 1) - a1) % 60) a2
      exact zlG hP (zm_rd (Z := Z) (ν := ν) (k := 53) (show ((0 : Nat) : Int) = 0 from rfl) (i3I (y := ((((Z 11 0 0 12) - 1) - a1) % 60)) (i3R (i3S (i3S (zm_rd (Z := Z) (ν := ν) (k := 11) (show ((0 : Nat) : Int) = 0 from rfl) (show ((0 : Nat) : Int) = 0 from rfl) (show ((12 : Nat) : Int) = 12 from rfl)) (show (1 : Int32) = i3 1 from rfl)) (rfl : i3 a1 = i3 a1)) (show (60 : Int32) = i3 60 from rfl) (by omega) (by omega) (by omega) (by omega)) (by omega) (by omega) (by omega)) (i3I (y := a2) (rfl : i3 a2 = i3 a2) (by omega) (by omega) (by omega))) ⟨hZ, zC_r, zU_r, zG_w zG_r (Nat.le_of_ble_eq_true rfl) (Nat.le_of_ble_eq_true rfl)⟩
    · replace hP := zE_n hP h3
      exact zlGe (E := 12) hP ⟨hZ, zC_r, zU_r, zG_w (zG_k rfl) (Nat.le_of_ble_eq_true rfl) (Nat.le_of_ble_eq_true rfl)⟩
  · replace hP := zE_n hP h2
    exact zlGe (E := 23) hP ⟨hZ, zC_r, zU_r, zG_w (zG_k rfl) (Nat.le_of_ble_eq_true rfl) (Nat.le_of_ble_eq_true rfl)⟩
/- yX2_fewestLoads -/
def zl_44_1 (x1 : Int) (x2 : Int) (x4 : Int) : Nat → qz_Z → Int → qz_Z × Int
  | 0, Z, x5 => (Z, x5)
  | m + 1, Z, x5 => (if x1 ≤ x5 then (Z, x5) else (if (z2 (fun x y => x &&& y) (z2 (fun x y => x >>> (y &&& 31)) x4 x5) 1) ≠ 1 then zl_44_1 x1 x2 x4 m Z (x5 + 1) else (if x2 < (w3 ((z2 (fun x y => x - x / y * y) (Z 70 0 0 (z2 (fun x y => x &&& y) x4 (z2 (fun x y => x ^^^ y) (z2 (fun x y => x <<< (y &&& 31)) 1 x5) (-1)))) 1000) + (Z 69 0 0 x5))) then (zlet (zu Z 70 0 0 x4 (min (w3 ((w3 ((w3 ((z2 (fun x y => x / y) (Z 70 0 0 (z2 (fun x y => x &&& y) x4 (z2 (fun x y => x ^^^ y) (z2 (fun x y => x <<< (y &&& 31)) 1 x5) (-1)))) 1000) + 1)) * 1000)) + (Z 69 0 0 x5))) (Z 70 0 0 x4))) (fun Z21 => zl_44_1 x1 x2 x4 m Z21 (x5 + 1))) else (zlet (zu Z 70 0 0 x4 (min (w3 ((Z 70 0 0 (z2 (fun x y => x &&& y) x4 (z2 (fun x y => x ^^^ y) (z2 (fun x y => x <<< (y &&& 31)) 1 x5) (-1)))) + (Z 69 0 0 x5))) (Z 70 0 0 x4))) (fun Z24 => zl_44_1 x1 x2 x4 m Z24 (x5 + 1))))))
theorem sl_44_1 {s : zSM} {Zs Z : qz_Z} {ν : qz_N} (hZ : zH s Z) (hM : s.2 + 0 ≤ 1000000000) (hK : zC [70] Zs Z) {x1 : Int} (gx1 : 0 ≤ x1 ∧ x1 ≤ 10) {x2 : Int} (gx2 : 10 ≤ x2 ∧ x2 ≤ 99) {x4 : Int} (gx4 : 1 ≤ x4 ∧ x4 ≤ 1023) {x5 : Int} (gx5 : 0 ≤ x5 ∧ x5 ≤ 10) (hU : zU [] Zs Z) {k : wz_K} {R : wz_R} {L : qz_L} (hL : qz_fg [true, true, true, true, true, true, false, false, false] L = [some (.inr (.inr (some (69, 0, 0)))), some (.inl (i3 x1)), some (.inl (i3 x2)), some (.inr (.inr (some (70, 0, 0)))), some (.inl (i3 x4)), some (.inl (i3 x5)), none, none, none]) {T : qz_Z × Int} (hP : zE T (zl_44_1 x1 x2 x4 ((10 - x5).toNat + 1) Z x5)) (hk : ∀ (L9 : qz_L) (Z9 : qz_Z) (yx5 : Int), qz_fg [true, true, true, true, true, false, false, false, false] L9 = [some (.inr (.inr (some (69, 0, 0)))), some (.inl (i3 x1)), some (.inl (i3 x2)), some (.inr (.inr (some (70, 0, 0)))), some (.inl (i3 x4)), none, none, none, none] → zH s Z9 → zC [70] Zs Z9 → zU [] Zs Z9 → (0 ≤ yx5 ∧ yx5 ≤ 10) → zE T ((Z9, yx5)) → k 0 (L9, [], zm Z9 ν)) : wz_loop qb_44_1 65536 k R (L, [], zm Z ν) := by
  refine wz_lp sb_44_1 (fun m x => ∃ Z : qz_Z, ∃ x5 : Int, qz_fg [true, true, true, true, true, true, false, false, false] x.1 = [some (.inr (.inr (some (69, 0, 0)))), some (.inl (i3 x1)), some (.inl (i3 x2)), some (.inr (.inr (some (70, 0, 0)))), some (.inl (i3 x4)), some (.inl (i3 x5)), none, none, none] ∧ x.2 = ([], zm Z ν) ∧ zH s Z ∧ zC [70] Zs Z ∧ zU [] Zs Z ∧ m = (10 - x5).toNat ∧ (0 ≤ x5 ∧ x5 ≤ 10) ∧ zE T (zl_44_1 x1 x2 x4 (m + 1) Z x5)) ?_ 65536 ((10 - x5).toNat) _ (by omega) ⟨Z, x5, hL, rfl, hZ, hK, hU, rfl, gx5, hP⟩
  clear hP gx5 hZ hK hU hL
  clear x5
  clear Z
  rintro m ⟨L, st, μ⟩ ⟨Z, x5, hL, hx, hZ, hK, hU, hm, gx5, hP⟩
  cases hx
  refine fb_44_1 (i3 x1) (i3 x2) (i3 x4) (i3 x5) _ _ _ _ hL ?_
  refine wz_br (i3Le (rfl : i3 x1 = i3 x1) (rfl : i3 x5 = i3 x5) (by omega) (by omega) (by omega) (by omega)) (fun h1 => ?_) (fun h1 => ?_)
  · replace hP := zE_p hP h1
    exact hk _ _ _ (zconso rfl (zconso (zvo (rfl : i3 x1 = i3 x1)) (zconso (zvo (rfl : i3 x2 = i3 x2)) (zconso rfl (zconso (zvo (rfl : i3 x4 = i3 x4)) (zconso rfl (zconso rfl (zconso rfl (zconso rfl rfl))))))))) hZ hK hU (by omega)  hP
  · replace hP := zE_n hP h1
    have r2 := z2_r (fun x y => x >>> (y &&& 31)) x4 x5
    have r3 := z2_r (fun x y => x &&& y) (z2 (fun x y => x >>> (y &&& 31)) x4 x5) 1
    have r4 := z2_and (z2 (fun x y => x >>> (y &&& 31)) x4 x5) (y := 1) (by omega) (by omega)
    refine wz_br (i3NE (i3Z (fun x y => x &&& y) (i3Z (fun x y => x >>> (y &&& 31)) (rfl : i3 x4 = i3 x4) (rfl : i3 x5 = i3 x5)) (show (1 : Int32) = i3 1 from rfl)) (show (1 : Int32) = i3 1 from rfl) (by omega) (by omega) (by omega) (by omega)) (fun h5 => ?_) (fun h5 => ?_)
    · replace hP := zE_p hP h5
      obtain ⟨m2, rfl⟩ : ∃ m2, m = m2 + 1 := ⟨m - 1, by omega⟩
      exact wz_k1 ⟨m2, by omega, Z, (x5 + 1), (zconso rfl (zconso (zvo (rfl : i3 x1 = i3 x1)) (zconso (zvo (rfl : i3 x2 = i3 x2)) (zconso rfl (zconso (zvo (rfl : i3 x4 = i3 x4)) (zconso (zvo (i3A (rfl : i3 x5 = i3 x5) (show (1 : Int32) = i3 1 from rfl))) (zconso rfl (zconso rfl (zconso rfl rfl))))))))), rfl, hZ, hK, hU, by omega, by omega,  hP⟩
    · replace hP := zE_n hP h5
      have r6 := z2_r (fun x y => x <<< (y &&& 31)) 1 x5
      have r7 := z2_shl10 (n := x5) (by omega) (by omega)
      have r8 := z2_r (fun x y => x ^^^ y) (z2 (fun x y => x <<< (y &&& 31)) 1 x5) (-1)
      have r9 := z2_r (fun x y => x &&& y) x4 (z2 (fun x y => x ^^^ y) (z2 (fun x y => x <<< (y &&& 31)) 1 x5) (-1))
      have r10 := z2_andl (z2 (fun x y => x ^^^ y) (z2 (fun x y => x <<< (y &&& 31)) 1 x5) (-1)) (x := x4) (by omega) (by omega)
      refine wz_i0 (i3O (n := 1024) (i3Z (fun x y => x &&& y) (rfl : i3 x4 = i3 x4) (i3Z (fun x y => x ^^^ y) (i3Z (fun x y => x <<< (y &&& 31)) (show (1 : Int32) = i3 1 from rfl) (rfl : i3 x5 = i3 x5)) (show (-1 : Int32) = i3 (-1) from rfl))) (by omega) (by omega) (by omega)) ?_
      refine wz_i0 (i3O (n := 24) (rfl : i3 x5 = i3 x5) (by omega) (by omega) (by omega)) ?_
      have r11 := zH_f hZ 70 0 0 (z2 (fun x y => x &&& y) x4 (z2 (fun x y => x ^^^ y) (z2 (fun x y => x <<< (y &&& 31)) 1 x5) (-1)))
      have r12 := z2_r (fun x y => x - x / y * y) (Z 70 0 0 (z2 (fun x y => x &&& y) x4 (z2 (fun x y => x ^^^ y) (z2 (fun x y => x <<< (y &&& 31)) 1 x5) (-1)))) 1000
      have r13 := zH_f hZ 69 0 0 x5
      have r14 := w3_r ((z2 (fun x y => x - x / y * y) (Z 70 0 0 (z2 (fun x y => x &&& y) x4 (z2 (fun x y => x ^^^ y) (z2 (fun x y => x <<< (y &&& 31)) 1 x5) (-1)))) 1000) + (Z 69 0 0 x5))
      refine wz_br (i3L (rfl : i3 x2 = i3 x2) (i3W (i3A (i3Z (fun x y => x - x / y * y) (zm_rd (Z := Z) (ν := ν) (k := 70) (show ((0 : Nat) : Int) = 0 from rfl) (show ((0 : Nat) : Int) = 0 from rfl) (i3I (y := (z2 (fun x y => x &&& y) x4 (z2 (fun x y => x ^^^ y) (z2 (fun x y => x <<< (y &&& 31)) 1 x5) (-1)))) (i3Z (fun x y => x &&& y) (rfl : i3 x4 = i3 x4) (i3Z (fun x y => x ^^^ y) (i3Z (fun x y => x <<< (y &&& 31)) (show (1 : Int32) = i3 1 from rfl) (rfl : i3 x5 = i3 x5)) (show (-1 : Int32) = i3 (-1) from rfl))) (by omega) (by omega) (by omega))) (show (1000 : Int32) = i3 1000 from rfl)) (zm_rd (Z := Z) (ν := ν) (k := 69) (show ((0 : Nat) : Int) = 0 from rfl) (show ((0 : Nat) : Int) = 0 from rfl) (i3I (y := x5) (rfl : i3 x5 = i3 x5) (by omega) (by omega) (by omega))))) (by omega) (by omega) (by omega) (by omega)) (fun h15 => ?_) (fun h15 => ?_)
      · replace hP := zE_p hP h15
        refine wz_i0 (i3O (n := 24) (rfl : i3 x5 = i3 x5) (by omega) (by omega) (by omega)) ?_
        refine wz_i0 (i3O (n := 1024) (rfl : i3 x4 = i3 x4) (by omega) (by omega) (by omega)) ?_
        refine wz_i0 (i3O (n := 1024) (rfl : i3 x4 = i3 x4) (by omega) (by omega) (by omega)) ?_
        have r16 := z2_r (fun x y => x / y) (Z 70 0 0 (z2 (fun x y => x &&& y) x4 (z2 (fun x y => x ^^^ y) (z2 (fun x y => x <<< (y &&& 31)) 1 x5) (-1)))) 1000
        have r17 := w3_r ((z2 (fun x y => x / y) (Z 70 0 0 (z2 (fun x y => x &&& y) x4 (z2 (fun x y => x ^^^ y) (z2 (fun x y => x <<< (y &&& 31)) 1 x5) (-1)))) 1000) + 1)
        have r18 := w3_r ((w3 ((z2 (fun x y => x / y) (Z 70 0 0 (z2 (fun x y => x &&& y) x4 (z2 (fun x y => x ^^^ y) (z2 (fun x y => x <<< (y &&& 31)) 1 x5) (-1)))) 1000) + 1)) * 1000)
        have r19 := w3_r ((w3 ((w3 ((z2 (fun x y => x / y) (Z 70 0 0 (z2 (fun x y => x &&& y) x4 (z2 (fun x y => x ^^^ y) (z2 (fun x y => x <<< (y &&& 31)) 1 x5) (-1)))) 1000) + 1)) * 1000)) + (Z 69 0 0 x5))
        have r20 := zH_f hZ 70 0 0 x4
        obtain ⟨Z21, hZ21⟩ := zx (zu Z 70 0 0 x4 (min (w3 ((w3 ((w3 ((z2 (fun x y => x / y) (Z 70 0 0 (z2 (fun x y => x &&& y) x4 (z2 (fun x y => x ^^^ y) (z2 (fun x y => x <<< (y &&& 31)) 1 x5) (-1)))) 1000) + 1)) * 1000)) + (Z 69 0 0 x5))) (Z 70 0 0 x4)))
        replace hP := zl_e hP hZ21
        have hZ21I := zH_u hZ hZ21 (lo := -2147483648) (hi := 2147483647) (by decide) rfl (by omega) ⟨by decide, by decide⟩ (Or.inl (by decide)) rfl
        have hZ21U : zU [] Zs Z21 := zU_u hU hZ21 (Or.inl rfl)
        have hZ21K : zC [70] Zs Z21 := zC_u hK hZ21 rfl
        intro μ9 e9
        replace e9 := e9.trans (zm_wI (Z := Z) (ν := ν) hZ21 (show ((0 : Nat) : Int) = 0 from rfl) (show ((0 : Nat) : Int) = 0 from rfl) (i3I (y := x4) (rfl : i3 x4 = i3 x4) (by omega) (by omega) (by omega)) (i3Mn (i3W (i3A (i3W (i3M (i3W (i3A (i3Z (fun x y => x / y) (zm_rd (Z := Z) (ν := ν) (k := 70) (show ((0 : Nat) : Int) = 0 from rfl) (show ((0 : Nat) : Int) = 0 from rfl) (i3I (y := (z2 (fun x y => x &&& y) x4 (z2 (fun x y => x ^^^ y) (z2 (fun x y => x <<< (y &&& 31)) 1 x5) (-1)))) (i3Z (fun x y => x &&& y) (rfl : i3 x4 = i3 x4) (i3Z (fun x y => x ^^^ y) (i3Z (fun x y => x <<< (y &&& 31)) (show (1 : Int32) = i3 1 from rfl) (rfl : i3 x5 = i3 x5)) (show (-1 : Int32) = i3 (-1) from rfl))) (by omega) (by omega) (by omega))) (show (1000 : Int32) = i3 1000 from rfl)) (show (1 : Int32) = i3 1 from rfl))) (show (1000 : Int32) = i3 1000 from rfl))) (zm_rd (Z := Z) (ν := ν) (k := 69) (show ((0 : Nat) : Int) = 0 from rfl) (show ((0 : Nat) : Int) = 0 from rfl) (i3I (y := x5) (rfl : i3 x5 = i3 x5) (by omega) (by omega) (by omega))))) (zm_rd (Z := Z) (ν := ν) (k := 70) (show ((0 : Nat) : Int) = 0 from rfl) (show ((0 : Nat) : Int) = 0 from rfl) (i3I (y := x4) (rfl : i3 x4 = i3 x4) (by omega) (by omega) (by omega))) (by omega) (by omega) (by omega) (by omega)))
        subst e9
        obtain ⟨m2, rfl⟩ : ∃ m2, m = m2 + 1 := ⟨m - 1, by omega⟩
        exact wz_k1 ⟨m2, by omega, Z21, (x5 + 1), (zconso rfl (zconso (zvo (rfl : i3 x1 = i3 x1)) (zconso (zvo (rfl : i3 x2 = i3 x2)) (zconso rfl (zconso (zvo (rfl : i3 x4 = i3 x4)) (zconso (zvo (i3A (rfl : i3 x5 = i3 x5) (show (1 : Int32) = i3 1 from rfl))) (zconso rfl (zconso rfl (zconso rfl rfl))))))))), rfl, hZ21I, hZ21K, hZ21U, by omega, by omega,  hP⟩
      · replace hP := zE_n hP h15
        refine wz_i0 (i3O (n := 24) (rfl : i3 x5 = i3 x5) (by omega) (by omega) (by omega)) ?_
        refine wz_i0 (i3O (n := 1024) (rfl : i3 x4 = i3 x4) (by omega) (by omega) (by omega)) ?_
        refine wz_i0 (i3O (n := 1024) (rfl : i3 x4 = i3 x4) (by omega) (by omega) (by omega)) ?_
        have r22 := w3_r ((Z 70 0 0 (z2 (fun x y => x &&& y) x4 (z2 (fun x y => x ^^^ y) (z2 (fun x y => x <<< (y &&& 31)) 1 x5) (-1)))) + (Z 69 0 0 x5))
        have r23 := zH_f hZ 70 0 0 x4
        obtain ⟨Z24, hZ24⟩ := zx (zu Z 70 0 0 x4 (min (w3 ((Z 70 0 0 (z2 (fun x y => x &&& y) x4 (z2 (fun x y => x ^^^ y) (z2 (fun x y => x <<< (y &&& 31)) 1 x5) (-1)))) + (Z 69 0 0 x5))) (Z 70 0 0 x4)))
        replace hP := zl_e hP hZ24
        have hZ24I := zH_u hZ hZ24 (lo := -2147483648) (hi := 2147483647) (by decide) rfl (by omega) ⟨by decide, by decide⟩ (Or.inl (by decide)) rfl
        have hZ24U : zU [] Zs Z24 := zU_u hU hZ24 (Or.inl rfl)
        have hZ24K : zC [70] Zs Z24 := zC_u hK hZ24 rfl
        intro μ9 e9
        replace e9 := e9.trans (zm_wI (Z := Z) (ν := ν) hZ24 (show ((0 : Nat) : Int) = 0 from rfl) (show ((0 : Nat) : Int) = 0 from rfl) (i3I (y := x4) (rfl : i3 x4 = i3 x4) (by omega) (by omega) (by omega)) (i3Mn (i3W (i3A (zm_rd (Z := Z) (ν := ν) (k := 70) (show ((0 : Nat) : Int) = 0 from rfl) (show ((0 : Nat) : Int) = 0 from rfl) (i3I (y := (z2 (fun x y => x &&& y) x4 (z2 (fun x y => x ^^^ y) (z2 (fun x y => x <<< (y &&& 31)) 1 x5) (-1)))) (i3Z (fun x y => x &&& y) (rfl : i3 x4 = i3 x4) (i3Z (fun x y => x ^^^ y) (i3Z (fun x y => x <<< (y &&& 31)) (show (1 : Int32) = i3 1 from rfl) (rfl : i3 x5 = i3 x5)) (show (-1 : Int32) = i3 (-1) from rfl))) (by omega) (by omega) (by omega))) (zm_rd (Z := Z) (ν := ν) (k := 69) (show ((0 : Nat) : Int) = 0 from rfl) (show ((0 : Nat) : Int) = 0 from rfl) (i3I (y := x5) (rfl : i3 x5 = i3 x5) (by omega) (by omega) (by omega))))) (zm_rd (Z := Z) (ν := ν) (k := 70) (show ((0 : Nat) : Int) = 0 from rfl) (show ((0 : Nat) : Int) = 0 from rfl) (i3I (y := x4) (rfl : i3 x4 = i3 x4) (by omega) (by omega) (by omega))) (by omega) (by omega) (by omega) (by omega)))
        subst e9
        obtain ⟨m2, rfl⟩ : ∃ m2, m = m2 + 1 := ⟨m - 1, by omega⟩
        exact wz_k1 ⟨m2, by omega, Z24, (x5 + 1), (zconso rfl (zconso (zvo (rfl : i3 x1 = i3 x1)) (zconso (zvo (rfl : i3 x2 = i3 x2)) (zconso rfl (zconso (zvo (rfl : i3 x4 = i3 x4)) (zconso (zvo (i3A (rfl : i3 x5 = i3 x5) (show (1 : Int32) = i3 1 from rfl))) (zconso rfl (zconso rfl (zconso rfl rfl))))))))), rfl, hZ24I, hZ24K, hZ24U, by omega, by omega,  hP⟩
/- yX2_fewestLoads -/
def zl_44_3 (x1 : Int) (x2 : Int) : Nat → qz_Z → Int → qz_Z × Int
  | 0, Z, x4 => (Z, x4)
  | m + 1, Z, x4 => (if (z2 (fun x y => x <<< (y &&& 31)) 1 x1) ≤ x4 then (Z, x4) else (zlet (zu Z 70 0 0 x4 ((x1 + 1) * 1000)) (fun Z4 => (zlet2 (zl_44_1 x1 x2 x4 11 Z4 0) (fun Z6 y5 => zl_44_3 x1 x2 m Z6 (x4 + 1))))))
theorem sl_44_3 {s : zSM} {Zs Z : qz_Z} {ν : qz_N} (hZ : zH s Z) (hM : s.2 + 0 ≤ 1000000000) (hK : zC [70] Zs Z) {x1 : Int} (gx1 : 0 ≤ x1 ∧ x1 ≤ 10) {x2 : Int} (gx2 : 10 ≤ x2 ∧ x2 ≤ 99) {x4 : Int} (gx4 : 1 ≤ x4 ∧ x4 ≤ 1024) (hU : zU [] Zs Z) {k : wz_K} {R : wz_R} {L : qz_L} (hL : qz_fg [true, true, true, true, true, false, false, false, false] L = [some (.inr (.inr (some (69, 0, 0)))), some (.inl (i3 x1)), some (.inl (i3 x2)), some (.inr (.inr (some (70, 0, 0)))), some (.inl (i3 x4)), none, none, none, none]) {T : qz_Z × Int} (hP : zE T (zl_44_3 x1 x2 ((1024 - x4).toNat + 1) Z x4)) (hk : ∀ (L9 : qz_L) (Z9 : qz_Z) (yx4 : Int), qz_fg [false, true, false, true, false, false, false, false, false] L9 = [none, some (.inl (i3 x1)), none, some (.inr (.inr (some (70, 0, 0)))), none, none, none, none, none] → zH s Z9 → zC [70] Zs Z9 → zU [] Zs Z9 → (1 ≤ yx4 ∧ yx4 ≤ 1024) → zE T ((Z9, yx4)) → k 0 (L9, [], zm Z9 ν)) : wz_loop qb_44_3 65536 k R (L, [], zm Z ν) := by
  refine wz_lp sb_44_3 (fun m x => ∃ Z : qz_Z, ∃ x4 : Int, qz_fg [true, true, true, true, true, false, false, false, false] x.1 = [some (.inr (.inr (some (69, 0, 0)))), some (.inl (i3 x1)), some (.inl (i3 x2)), some (.inr (.inr (some (70, 0, 0)))), some (.inl (i3 x4)), none, none, none, none] ∧ x.2 = ([], zm Z ν) ∧ zH s Z ∧ zC [70] Zs Z ∧ zU [] Zs Z ∧ m = (1024 - x4).toNat ∧ (1 ≤ x4 ∧ x4 ≤ 1024) ∧ zE T (zl_44_3 x1 x2 (m + 1) Z x4)) ?_ 65536 ((1024 - x4).toNat) _ (by omega) ⟨Z, x4, hL, rfl, hZ, hK, hU, rfl, gx4, hP⟩
  clear hP gx4 hZ hK hU hL
  clear x4
  clear Z
  rintro m ⟨L, st, μ⟩ ⟨Z, x4, hL, hx, hZ, hK, hU, hm, gx4, hP⟩
  cases hx
  refine fb_44_3 (i3 x1) (i3 x2) (i3 x4) _ _ _ _ hL ?_
  have r1 := z2_r (fun x y => x <<< (y &&& 31)) 1 x1
  have r2 := z2_shl10 (n := x1) (by omega) (by omega)
  refine wz_br (i3Le (i3Z (fun x y => x <<< (y &&& 31)) (show (1 : Int32) = i3 1 from rfl) (rfl : i3 x1 = i3 x1)) (rfl : i3 x4 = i3 x4) (by omega) (by omega) (by omega) (by omega)) (fun h3 => ?_) (fun h3 => ?_)
  · replace hP := zE_p hP h3
    exact hk _ _ _ (zconso rfl (zconso (zvo (rfl : i3 x1 = i3 x1)) (zconso rfl (zconso rfl (zconso rfl (zconso rfl (zconso rfl (zconso rfl (zconso rfl rfl))))))))) hZ hK hU (by omega)  hP
  · replace hP := zE_n hP h3
    refine wz_i0 (i3O (n := 1024) (rfl : i3 x4 = i3 x4) (by omega) (by omega) (by omega)) ?_
    obtain ⟨Z4, hZ4⟩ := zx (zu Z 70 0 0 x4 ((x1 + 1) * 1000))
    replace hP := zl_e hP hZ4
    have hZ4I := zH_u hZ hZ4 (lo := -2147483648) (hi := 2147483647) (by decide) rfl (by omega) ⟨by decide, by decide⟩ (Or.inl (by decide)) rfl
    have hZ4U : zU [] Zs Z4 := zU_u hU hZ4 (Or.inl rfl)
    have hZ4K : zC [70] Zs Z4 := zC_u hK hZ4 rfl
    intro μ9 e9
    replace e9 := e9.trans (zm_wI (Z := Z) (ν := ν) hZ4 (show ((0 : Nat) : Int) = 0 from rfl) (show ((0 : Nat) : Int) = 0 from rfl) (i3I (y := x4) (rfl : i3 x4 = i3 x4) (by omega) (by omega) (by omega)) (i3M (i3A (rfl : i3 x1 = i3 x1) (show (1 : Int32) = i3 1 from rfl)) (show (1000 : Int32) = i3 1000 from rfl)))
    subst e9
    refine sl_44_1 (ν := ν) hZ4I (zbh (c := 0) (k := 0) hM (Nat.le_of_ble_eq_true rfl)) zC_r (x1 := x1) (by omega) (x2 := x2) (by omega) (x4 := x4) (by omega) (x5 := 0) (by omega) zU_r  (zconso rfl (zconso (zvo (rfl : i3 x1 = i3 x1)) (zconso (zvo (rfl : i3 x2 = i3 x2)) (zconso rfl (zconso (zvo (rfl : i3 x4 = i3 x4)) (zconso (zvo (show (0 : Int32) = i3 0 from rfl)) (zconso rfl (zconso rfl (zconso rfl rfl))))))))) rfl ?_
    intro L7 Z6 y5 hL7 hZ6I kZ6 jZ6 gy5 q9
    replace hP := zl_e2 hP (Eq.symm q9)
    clear q9
    have hZ6U : zU [] Zs Z6 := zU_t hZ4U jZ6 zU_b0
    have hZ6K : zC [70] Zs Z6 := zC_t hZ4K kZ6 (by decide)
    refine fc_44_2 (i3 x1) (i3 x2) (i3 x4) _ _ _ _ hL7 ?_
    obtain ⟨m2, rfl⟩ : ∃ m2, m = m2 + 1 := ⟨m - 1, by omega⟩
    refine wz_kbs (n := 1) (?_)
    exact wz_k1 ⟨m2, by omega, Z6, (x4 + 1), (zconso rfl (zconso (zvo (rfl : i3 x1 = i3 x1)) (zconso (zvo (rfl : i3 x2 = i3 x2)) (zconso rfl (zconso (zvo (i3A (rfl : i3 x4 = i3 x4) (show (1 : Int32) = i3 1 from rfl))) (zconso rfl (zconso rfl (zconso rfl (zconso rfl rfl))))))))), rfl, hZ6I, hZ6K, hZ6U, by omega, by omega,  hP⟩
/- yX2_fewestLoads -/
def zf_44 (Z : qz_Z) (a1 : Int) (a2 : Int) : qz_Z × Int := (zlet (zu Z 70 0 0 0 a2) (fun Z1 => (zlet2 (zl_44_3 a1 a2 1024 Z1 1) (fun Z3 y2 => (Z3, (z2 (fun x y => x / y) (Z3 70 0 0 ((-1) + (z2 (fun x y => x <<< (y &&& 31)) 1 a1))) 1000))))))
theorem sp_44 {s : zSM} {Z : qz_Z} {ν : qz_N} (hZ : zH s Z) {a1 : Int} (ga1 : 0 ≤ a1 ∧ a1 ≤ 10) {a2 : Int} (ga2 : 10 ≤ a2 ∧ a2 ≤ 99) (hM : s.2 + 0 ≤ 1000000000) : ∃ (Z1 : qz_Z) (P : Int), (Z1, P) = zf_44 Z a1 a2 ∧ (qf_44 [.inr (.inr (some (69, 0, 0))), .inl (i3 a1), .inl (i3 a2), .inr (.inr (some (70, 0, 0)))] (zm Z ν) = some (zm Z1 ν, .inl (some (.inl (i3 P)))) ∧ zH s Z1 ∧ zC [70] Z Z1 ∧ zU [] Z Z1 ∧ -2147483648 ≤ P ∧ P ≤ 2147483647) := by
  obtain ⟨P, hP⟩ := zx (zf_44 Z a1 a2)
  refine zc_W (Q := fun Z1 P => zH s Z1 ∧ zC [70] Z Z1 ∧ zU [] Z Z1 ∧ -2147483648 ≤ P ∧ P ≤ 2147483647) hP (fw_44 (i3 a1) (i3 a2) _ _ ?_)
  replace hP : zE P (zf_44 Z a1 a2) := hP
  unfold zf_44 at hP
  obtain ⟨Z1, hZ1⟩ := zx (zu Z 70 0 0 0 a2)
  replace hP := zl_e hP hZ1
  have hZ1I := zH_u hZ hZ1 (lo := -2147483648) (hi := 2147483647) (by decide) rfl (by omega) ⟨by decide, by decide⟩ (Or.inl (by decide)) rfl
  have hZ1U : zU [] Z Z1 := zU_u zU_r hZ1 (Or.inl rfl)
  have hZ1K : zC [70] Z Z1 := zC_u zC_r hZ1 (by decide)
  intro μ9 e9
  replace e9 := e9.trans (zm_wI (Z := Z) (ν := ν) hZ1 (show ((0 : Nat) : Int) = 0 from rfl) (show ((0 : Nat) : Int) = 0 from rfl) (show ((0 : Nat) : Int) = 0 from rfl) (rfl : i3 a2 = i3 a2))
  subst e9
  refine sl_44_3 (ν := ν) hZ1I (zbh (c := 0) (k := 0) hM (Nat.le_of_ble_eq_true rfl)) zC_r (x1 := a1) (by omega) (x2 := a2) (by omega) (x4 := 1) (by omega) zU_r  (zconso rfl (zconso (zvo (rfl : i3 a1 = i3 a1)) (zconso (zvo (rfl : i3 a2 = i3 a2)) (zconso rfl (zconso (zvo (show (1 : Int32) = i3 1 from rfl)) (zconso rfl (zconso rfl (zconso rfl (zconso rfl rfl))))))))) rfl ?_
  intro L4 Z3 y2 hL4 hZ3I kZ3 jZ3 gy2 q9
  replace hP := zl_e2 hP (Eq.symm q9)
  clear q9
  have hZ3U : zU [] Z Z3 := zU_t hZ1U jZ3 zU_b0
  have hZ3K : zC [70] Z Z3 := zC_t hZ1K kZ3 (by decide)
  refine fc_44_4 (i3 a1) _ _ _ _ hL4 ?_
  have r5 := z2_r (fun x y => x <<< (y &&& 31)) 1 a1
  have r6 := z2_shl10 (n := a1) (by omega) (by omega)
  refine wz_i0 (i3O (n := 1024) (i3S (i3Z (fun x y => x <<< (y &&& 31)) (show (1 : Int32) = i3 1 from rfl) (rfl : i3 a1 = i3 a1)) (show (1 : Int32) = i3 1 from rfl)) (by omega) (by omega) (by omega)) ?_
  have r7 := zH_f hZ3I 70 0 0 ((-1) + (z2 (fun x y => x <<< (y &&& 31)) 1 a1))
  have r8 := z2_r (fun x y => x / y) (Z3 70 0 0 ((-1) + (z2 (fun x y => x <<< (y &&& 31)) 1 a1))) 1000
  exact zlW hP (i3Z (fun x y => x / y) (zm_rd (Z := Z3) (ν := ν) (k := 70) (show ((0 : Nat) : Int) = 0 from rfl) (show ((0 : Nat) : Int) = 0 from rfl) (i3I (y := ((-1) + (z2 (fun x y => x <<< (y &&& 31)) 1 a1))) (i3S (i3Z (fun x y => x <<< (y &&& 31)) (show (1 : Int32) = i3 1 from rfl) (rfl : i3 a1 = i3 a1)) (show (1 : Int32) = i3 1 from rfl)) (by omega) (by omega) (by omega))) (show (1000 : Int32) = i3 1000 from rfl)) ⟨hZ3I, hZ3K, hZ3U, by omega, by omega⟩
/- yX2_greatest -/
def zl_46_1 (x1 : Int) : Nat → qz_Z → Int → Int → Int × Int
  | 0, Z, x2, x3 => (x2, x3)
  | m + 1, Z, x2, x3 => (if x1 ≤ x3 then (x2, x3) else zl_46_1 x1 m Z (max x2 (Z 69 0 0 x3)) (x3 + 1))
theorem sl_46_1 {s : zSM} {Z : qz_Z} {ν : qz_N} (hZ : zH s Z) (hM : s.2 + 0 ≤ 1000000000) {x1 : Int} (gx1 : 0 ≤ x1 ∧ x1 ≤ 10) {x2 : Int} (gx2 : 0 ≤ x2 ∧ x2 ≤ 2147483647) {x3 : Int} (gx3 : 0 ≤ x3 ∧ x3 ≤ 10) {k : wz_K} {R : wz_R} {L : qz_L} (hL : qz_fg [true, true, true, true] L = [some (.inr (.inr (some (69, 0, 0)))), some (.inl (i3 x1)), some (.inl (i3 x2)), some (.inl (i3 x3))]) {T : Int × Int} (hP : zE T (zl_46_1 x1 ((10 - x3).toNat + 1) Z x2 x3)) (hk : ∀ (L9 : qz_L) (yx2 yx3 : Int), qz_fg [false, false, true, false] L9 = [none, none, some (.inl (i3 yx2)), none] → (0 ≤ yx2 ∧ yx2 ≤ 2147483647) → (0 ≤ yx3 ∧ yx3 ≤ 10) → zE T ((yx2, yx3)) → k 0 (L9, [], zm Z ν)) : wz_loop qb_46_1 65536 k R (L, [], zm Z ν) := by
  refine wz_lp sb_46_1 (fun m x => ∃ x2 : Int, ∃ x3 : Int, qz_fg [true, true, true, true] x.1 = [some (.inr (.inr (some (69, 0, 0)))), some (.inl (i3 x1)), some (.inl (i3 x2)), some (.inl (i3 x3))] ∧ x.2 = ([], zm Z ν) ∧ m = (10 - x3).toNat ∧ (0 ≤ x2 ∧ x2 ≤ 2147483647) ∧ (0 ≤ x3 ∧ x3 ≤ 10) ∧ zE T (zl_46_1 x1 (m + 1) Z x2 x3)) ?_ 65536 ((10 - x3).toNat) _ (by omega) ⟨x2, x3, hL, rfl, rfl, gx2, gx3, hP⟩
  clear hP gx2 gx3 hL
  clear x2 x3
  rintro m ⟨L, st, μ⟩ ⟨x2, x3, hL, hx, hm, gx2, gx3, hP⟩
  cases hx
  refine fb_46_1 (i3 x1) (i3 x2) (i3 x3) _ _ _ _ hL ?_
  refine wz_br (i3Le (rfl : i3 x1 = i3 x1) (rfl : i3 x3 = i3 x3) (by omega) (by omega) (by omega) (by omega)) (fun h1 => ?_) (fun h1 => ?_)
  · replace hP := zE_p hP h1
    exact hk _ _ _ (zconso rfl (zconso rfl (zconso (zvo (rfl : i3 x2 = i3 x2)) (zconso rfl rfl))))  (by omega) (by omega)  hP
  · replace hP := zE_n hP h1
    refine wz_i0 (i3O (n := 24) (rfl : i3 x3 = i3 x3) (by omega) (by omega) (by omega)) ?_
    have r2 := zH_f hZ 69 0 0 x3
    obtain ⟨m2, rfl⟩ : ∃ m2, m = m2 + 1 := ⟨m - 1, by omega⟩
    exact wz_k1 ⟨m2, by omega, (max x2 (Z 69 0 0 x3)), (x3 + 1), (zconso rfl (zconso (zvo (rfl : i3 x1 = i3 x1)) (zconso (zvo (i3Mx (rfl : i3 x2 = i3 x2) (zm_rd (Z := Z) (ν := ν) (k := 69) (show ((0 : Nat) : Int) = 0 from rfl) (show ((0 : Nat) : Int) = 0 from rfl) (i3I (y := x3) (rfl : i3 x3 = i3 x3) (by omega) (by omega) (by omega))) (by omega) (by omega) (by omega) (by omega))) (zconso (zvo (i3A (rfl : i3 x3 = i3 x3) (show (1 : Int32) = i3 1 from rfl))) rfl)))), rfl,  by omega, by omega, by omega,  hP⟩
/- yX2_greatest -/
def zf_46 (Z : qz_Z) (a1 : Int) : Int := (zlet2 (zl_46_1 a1 11 Z 0 0) (fun y1 y2 => y1))
theorem sp_46 {s : zSM} {Z : qz_Z} {ν : qz_N} (hZ : zH s Z) {a1 : Int} (ga1 : 0 ≤ a1 ∧ a1 ≤ 10) (hM : s.2 + 0 ≤ 1000000000) : ∃ P : Int, P = zf_46 Z a1 ∧ (qf_46 [.inr (.inr (some (69, 0, 0))), .inl (i3 a1)] (zm Z ν) = some (zm Z ν, .inl (some (.inl (i3 P)))) ∧ 0 ≤ P ∧ P ≤ 2147483647) := by
  obtain ⟨P, hP⟩ := zx (zf_46 Z a1)
  refine zc_R (Q := fun P => 0 ≤ P ∧ P ≤ 2147483647) hP (fw_46 (i3 a1) _ _ ?_)
  replace hP : zE P (zf_46 Z a1) := hP
  unfold zf_46 at hP
  refine sl_46_1 (ν := ν) hZ (zbh (c := 0) (k := 0) hM (Nat.le_of_ble_eq_true rfl)) (x1 := a1) (by omega) (x2 := 0) (by omega) (x3 := 0) (by omega)  (zconso rfl (zconso (zvo (rfl : i3 a1 = i3 a1)) (zconso (zvo (show (0 : Int32) = i3 0 from rfl)) (zconso (zvo (show (0 : Int32) = i3 0 from rfl)) rfl)))) rfl ?_
  intro L3 y1 y2 hL3 gy1 gy2 q9
  replace hP := zl_e2 hP (Eq.symm q9)
  clear q9
  refine fc_46_2 (i3 y1) _ _ _ _ hL3 ?_
  exact zlR hP (rfl : i3 y1 = i3 y1) ⟨by omega, by omega⟩
/- yX2_partedFor -/
def zl_54_1 (x0b : Int) (x1 : Int) : Nat → qz_Z → Int → Int → qz_Z × Int × Int
  | 0, Z, x3, x4 => (Z, x3, x4)
  | m + 1, Z, x3, x4 => (if (Z 11 x0b 0 6) ≤ x4 then (Z, x3, x4) else (if (Z 47 x0b x4 9) ≠ 0 then zl_54_1 x0b x1 m Z x3 (x4 + 1) else (if x1 = 5 then (if 10 ≤ x3 then zl_54_1 x0b x1 m Z (x3 + 1) (x4 + 1) else (zlet (zu Z 69 0 0 x3 (Z 47 x0b x4 3)) (fun Z9 => zl_54_1 x0b x1 m Z9 (x3 + 1) (x4 + 1)))) else (if (Z 45 x0b (Z 47 x0b x4 1) 0) ≠ x1 then zl_54_1 x0b x1 m Z x3 (x4 + 1) else (if 10 ≤ x3 then zl_54_1 x0b x1 m Z (x3 + 1) (x4 + 1) else (zlet (zu Z 69 0 0 x3 (Z 47 x0b x4 3)) (fun Z15 => zl_54_1 x0b x1 m Z15 (x3 + 1) (x4 + 1))))))))
theorem sl_54_1 {s : zSM} {Zs Z : qz_Z} {ν : qz_N} (hZ : zH s Z) (hM : s.2 + 0 ≤ 1000000000) (hK : zC [69] Zs Z) (x0b : Nat) {x1 : Int} (gx1 : 0 ≤ x1 ∧ x1 ≤ 5) {x3 : Int} (gx3 : 0 ≤ x3 ∧ x3 ≤ 60) {x4 : Int} (gx4 : 0 ≤ x4 ∧ x4 ≤ 60) (hU : zU [] Zs Z) (gr0 : x3 ≤ x4) {k : wz_K} {R : wz_R} {L : qz_L} (hL : qz_fg [true, true, true, true, true, false] L = [some (.inr (.inr (some (10, x0b, 0)))), some (.inl (i3 x1)), some (.inr (.inr (some (69, 0, 0)))), some (.inl (i3 x3)), some (.inl (i3 x4)), none]) {T : qz_Z × Int × Int} (hP : zE T (zl_54_1 x0b x1 ((60 - x4).toNat + 1) Z x3 x4)) (hk : ∀ (L9 : qz_L) (Z9 : qz_Z) (yx3 yx4 : Int), qz_fg [false, false, false, true, false, false] L9 = [none, none, none, some (.inl (i3 yx3)), none, none] → zH s Z9 → zC [69] Zs Z9 → zU [] Zs Z9 → (0 ≤ yx3 ∧ yx3 ≤ 60) → (0 ≤ yx4 ∧ yx4 ≤ 60) → (yx3 ≤ yx4) → zE T ((Z9, yx3, yx4)) → k 0 (L9, [], zm Z9 ν)) : wz_loop qb_54_1 65536 k R (L, [], zm Z ν) := by
  refine wz_lp sb_54_1 (fun m x => ∃ Z : qz_Z, ∃ x3 : Int, ∃ x4 : Int, qz_fg [true, true, true, true, true, false] x.1 = [some (.inr (.inr (some (10, x0b, 0)))), some (.inl (i3 x1)), some (.inr (.inr (some (69, 0, 0)))), some (.inl (i3 x3)), some (.inl (i3 x4)), none] ∧ x.2 = ([], zm Z ν) ∧ zH s Z ∧ zC [69] Zs Z ∧ zU [] Zs Z ∧ m = (60 - x4).toNat ∧ (0 ≤ x3 ∧ x3 ≤ 60) ∧ (0 ≤ x4 ∧ x4 ≤ 60) ∧ (x3 ≤ x4) ∧ zE T (zl_54_1 x0b x1 (m + 1) Z x3 x4)) ?_ 65536 ((60 - x4).toNat) _ (by omega) ⟨Z, x3, x4, hL, rfl, hZ, hK, hU, rfl, gx3, gx4, gr0, hP⟩
  clear hP gr0 gx3 gx4 hZ hK hU hL
  clear x3 x4
  clear Z
  rintro m ⟨L, st, μ⟩ ⟨Z, x3, x4, hL, hx, hZ, hK, hU, hm, gx3, gx4, gr0, hP⟩
  cases hx
  refine fb_54_1 x0b (i3 x1) (i3 x3) (i3 x4) _ _ _ _ hL ?_
  have r1 := zH_k hZ 11 x0b 0 6 (lo := 0) (hi := 60) (by decide) rfl
  refine wz_br (i3Le (zm_rd (Z := Z) (ν := ν) (k := 11) (rfl : ((x0b : Nat) : Int) = x0b) (show ((0 : Nat) : Int) = 0 from rfl) (show ((6 : Nat) : Int) = 6 from rfl)) (rfl : i3 x4 = i3 x4) (by omega) (by omega) (by omega) (by omega)) (fun h2 => ?_) (fun h2 => ?_)
  · replace hP := zE_p hP h2
    exact hk _ _ _ _ (zconso rfl (zconso rfl (zconso rfl (zconso (zvo (rfl : i3 x3 = i3 x3)) (zconso rfl (zconso rfl rfl)))))) hZ hK hU (by omega) (by omega) (by omega) hP
  · replace hP := zE_n hP h2
    refine wz_i0 (i3O (n := 60) (rfl : i3 x4 = i3 x4) (by omega) (by omega) (by omega)) ?_
    have r3 := zH_k hZ 47 x0b x4 9 (lo := 0) (hi := 3) (by decide) rfl
    have r4 := zH_lt hZ x0b x4
    refine wz_br (i3NE (zm_rd (Z := Z) (ν := ν) (k := 47) (rfl : ((x0b : Nat) : Int) = x0b) (i3I (y := x4) (rfl : i3 x4 = i3 x4) (by omega) (by omega) (by omega)) (show ((9 : Nat) : Int) = 9 from rfl)) (show (0 : Int32) = i3 0 from rfl) (by omega) (by omega) (by omega) (by omega)) (fun h5 => ?_) (fun h5 => ?_)
    · replace hP := zE_p hP h5
      obtain ⟨m2, rfl⟩ : ∃ m2, m = m2 + 1 := ⟨m - 1, by omega⟩
      exact wz_k1 ⟨m2, by omega, Z, x3, (x4 + 1), (zconso rfl (zconso (zvo (rfl : i3 x1 = i3 x1)) (zconso rfl (zconso (zvo (rfl : i3 x3 = i3 x3)) (zconso (zvo (i3A (rfl : i3 x4 = i3 x4) (show (1 : Int32) = i3 1 from rfl))) (zconso rfl rfl)))))), rfl, hZ, hK, hU, by omega, by omega, by omega, by omega,  hP⟩
    · replace hP := zE_n hP h5
      refine wz_br (i3E (rfl : i3 x1 = i3 x1) (show (5 : Int32) = i3 5 from rfl) (by omega) (by omega) (by omega) (by omega)) (fun h6 => ?_) (fun h6 => ?_)
      · replace hP := zE_p hP h6
        refine wz_br (i3Le (show (10 : Int32) = i3 10 from rfl) (rfl : i3 x3 = i3 x3) (by omega) (by omega) (by omega) (by omega)) (fun h7 => ?_) (fun h7 => ?_)
        · replace hP := zE_p hP h7
          obtain ⟨m2, rfl⟩ : ∃ m2, m = m2 + 1 := ⟨m - 1, by omega⟩
          exact wz_k1 ⟨m2, by omega, Z, (x3 + 1), (x4 + 1), (zconso rfl (zconso (zvo (rfl : i3 x1 = i3 x1)) (zconso rfl (zconso (zvo (i3A (rfl : i3 x3 = i3 x3) (show (1 : Int32) = i3 1 from rfl))) (zconso (zvo (i3A (rfl : i3 x4 = i3 x4) (show (1 : Int32) = i3 1 from rfl))) (zconso rfl rfl)))))), rfl, hZ, hK, hU, by omega, by omega, by omega, by omega,  hP⟩
        · replace hP := zE_n hP h7
          refine wz_i0 (i3O (n := 24) (rfl : i3 x3 = i3 x3) (by omega) (by omega) (by omega)) ?_
          have r8 := zH_k hZ 47 x0b x4 3 (lo := 0) (hi := 40) (by decide) rfl
          obtain ⟨Z9, hZ9⟩ := zx (zu Z 69 0 0 x3 (Z 47 x0b x4 3))
          replace hP := zl_e hP hZ9
          have hZ9I := zH_u hZ hZ9 (lo := -2147483648) (hi := 2147483647) (by decide) rfl (by omega) ⟨by decide, by decide⟩ (Or.inl (by decide)) rfl
          have hZ9U : zU [] Zs Z9 := zU_u hU hZ9 (Or.inl rfl)
          have hZ9K : zC [69] Zs Z9 := zC_u hK hZ9 rfl
          intro μ9 e9
          replace e9 := e9.trans (zm_wI (Z := Z) (ν := ν) hZ9 (show ((0 : Nat) : Int) = 0 from rfl) (show ((0 : Nat) : Int) = 0 from rfl) (i3I (y := x3) (rfl : i3 x3 = i3 x3) (by omega) (by omega) (by omega)) (zm_rd (Z := Z) (ν := ν) (k := 47) (rfl : ((x0b : Nat) : Int) = x0b) (i3I (y := x4) (rfl : i3 x4 = i3 x4) (by omega) (by omega) (by omega)) (show ((3 : Nat) : Int) = 3 from rfl)))
          subst e9
          obtain ⟨m2, rfl⟩ : ∃ m2, m = m2 + 1 := ⟨m - 1, by omega⟩
          exact wz_k1 ⟨m2, by omega, Z9, (x3 + 1), (x4 + 1), (zconso rfl (zconso (zvo (rfl : i3 x1 = i3 x1)) (zconso rfl (zconso (zvo (i3A (rfl : i3 x3 = i3 x3) (show (1 : Int32) = i3 1 from rfl))) (zconso (zvo (i3A (rfl : i3 x4 = i3 x4) (show (1 : Int32) = i3 1 from rfl))) (zconso rfl rfl)))))), rfl, hZ9I, hZ9K, hZ9U, by omega, by omega, by omega, by omega,  hP⟩
      · replace hP := zE_n hP h6
        have r10 := zH_k hZ 47 x0b x4 1 (lo := 0) (hi := 7) (by decide) rfl
        refine wz_i0 (i3O (n := 8) (zm_rd (Z := Z) (ν := ν) (k := 47) (rfl : ((x0b : Nat) : Int) = x0b) (i3I (y := x4) (rfl : i3 x4 = i3 x4) (by omega) (by omega) (by omega)) (show ((1 : Nat) : Int) = 1 from rfl)) (by omega) (by omega) (by omega)) ?_
        have r11 := zH_k hZ 45 x0b (Z 47 x0b x4 1) 0 (lo := 0) (hi := 4) (by decide) rfl
        refine wz_br (i3NE (zm_rd (Z := Z) (ν := ν) (k := 45) (rfl : ((x0b : Nat) : Int) = x0b) (i3I (y := (Z 47 x0b x4 1)) (zm_rd (Z := Z) (ν := ν) (k := 47) (rfl : ((x0b : Nat) : Int) = x0b) (i3I (y := x4) (rfl : i3 x4 = i3 x4) (by omega) (by omega) (by omega)) (show ((1 : Nat) : Int) = 1 from rfl)) (by omega) (by omega) (by omega)) (show ((0 : Nat) : Int) = 0 from rfl)) (rfl : i3 x1 = i3 x1) (by omega) (by omega) (by omega) (by omega)) (fun h12 => ?_) (fun h12 => ?_)
        · replace hP := zE_p hP h12
          obtain ⟨m2, rfl⟩ : ∃ m2, m = m2 + 1 := ⟨m - 1, by omega⟩
          exact wz_k1 ⟨m2, by omega, Z, x3, (x4 + 1), (zconso rfl (zconso (zvo (rfl : i3 x1 = i3 x1)) (zconso rfl (zconso (zvo (rfl : i3 x3 = i3 x3)) (zconso (zvo (i3A (rfl : i3 x4 = i3 x4) (show (1 : Int32) = i3 1 from rfl))) (zconso rfl rfl)))))), rfl, hZ, hK, hU, by omega, by omega, by omega, by omega,  hP⟩
        · replace hP := zE_n hP h12
          refine wz_br (i3Le (show (10 : Int32) = i3 10 from rfl) (rfl : i3 x3 = i3 x3) (by omega) (by omega) (by omega) (by omega)) (fun h13 => ?_) (fun h13 => ?_)
          · replace hP := zE_p hP h13
            obtain ⟨m2, rfl⟩ : ∃ m2, m = m2 + 1 := ⟨m - 1, by omega⟩
            exact wz_k1 ⟨m2, by omega, Z, (x3 + 1), (x4 + 1), (zconso rfl (zconso (zvo (rfl : i3 x1 = i3 x1)) (zconso rfl (zconso (zvo (i3A (rfl : i3 x3 = i3 x3) (show (1 : Int32) = i3 1 from rfl))) (zconso (zvo (i3A (rfl : i3 x4 = i3 x4) (show (1 : Int32) = i3 1 from rfl))) (zconso rfl rfl)))))), rfl, hZ, hK, hU, by omega, by omega, by omega, by omega,  hP⟩
          · replace hP := zE_n hP h13
            refine wz_i0 (i3O (n := 24) (rfl : i3 x3 = i3 x3) (by omega) (by omega) (by omega)) ?_
            have r14 := zH_k hZ 47 x0b x4 3 (lo := 0) (hi := 40) (by decide) rfl
            obtain ⟨Z15, hZ15⟩ := zx (zu Z 69 0 0 x3 (Z 47 x0b x4 3))
            replace hP := zl_e hP hZ15
            have hZ15I := zH_u hZ hZ15 (lo := -2147483648) (hi := 2147483647) (by decide) rfl (by omega) ⟨by decide, by decide⟩ (Or.inl (by decide)) rfl
            have hZ15U : zU [] Zs Z15 := zU_u hU hZ15 (Or.inl rfl)
            have hZ15K : zC [69] Zs Z15 := zC_u hK hZ15 rfl
            intro μ9 e9
            replace e9 := e9.trans (zm_wI (Z := Z) (ν := ν) hZ15 (show ((0 : Nat) : Int) = 0 from rfl) (show ((0 : Nat) : Int) = 0 from rfl) (i3I (y := x3) (rfl : i3 x3 = i3 x3) (by omega) (by omega) (by omega)) (zm_rd (Z := Z) (ν := ν) (k := 47) (rfl : ((x0b : Nat) : Int) = x0b) (i3I (y := x4) (rfl : i3 x4 = i3 x4) (by omega) (by omega) (by omega)) (show ((3 : Nat) : Int) = 3 from rfl)))
            subst e9
            obtain ⟨m2, rfl⟩ : ∃ m2, m = m2 + 1 := ⟨m - 1, by omega⟩
            exact wz_k1 ⟨m2, by omega, Z15, (x3 + 1), (x4 + 1), (zconso rfl (zconso (zvo (rfl : i3 x1 = i3 x1)) (zconso rfl (zconso (zvo (i3A (rfl : i3 x3 = i3 x3) (show (1 : Int32) = i3 1 from rfl))) (zconso (zvo (i3A (rfl : i3 x4 = i3 x4) (show (1 : Int32) = i3 1 from rfl))) (zconso rfl rfl)))))), rfl, hZ15I, hZ15K, hZ15U, by omega, by omega, by omega, by omega,  hP⟩
/- yX2_partedFor -/
def zf_54 (Z : qz_Z) (a0b : Int) (a1 : Int) : qz_Z × Int := (zlet3 (zl_54_1 a0b a1 61 Z 0 0) (fun Z3 y1 y2 => (Z3, y1)))
theorem sp_54 {s : zSM} {Z : qz_Z} {ν : qz_N} (hZ : zH s Z) (a0b : Nat) {a1 : Int} (ga1 : 0 ≤ a1 ∧ a1 ≤ 5) (hM : s.2 + 0 ≤ 1000000000) : ∃ (Z1 : qz_Z) (P : Int), (Z1, P) = zf_54 Z a0b a1 ∧ (qf_54 [.inr (.inr (some (10, a0b, 0))), .inl (i3 a1), .inr (.inr (some (69, 0, 0)))] (zm Z ν) = some (zm Z1 ν, .inl (some (.inl (i3 P)))) ∧ zH s Z1 ∧ zC [69] Z Z1 ∧ zU [] Z Z1 ∧ 0 ≤ P ∧ P ≤ 60) := by
  obtain ⟨P, hP⟩ := zx (zf_54 Z a0b a1)
  refine zc_W (Q := fun Z1 P => zH s Z1 ∧ zC [69] Z Z1 ∧ zU [] Z Z1 ∧ 0 ≤ P ∧ P ≤ 60) hP (fw_54 a0b (i3 a1) _ _ ?_)
  replace hP : zE P (zf_54 Z a0b a1) := hP
  unfold zf_54 at hP
  refine sl_54_1 (ν := ν) hZ (zbh (c := 0) (k := 0) hM (Nat.le_of_ble_eq_true rfl)) zC_r a0b (x1 := a1) (by omega) (x3 := 0) (by omega) (x4 := 0) (by omega) zU_r (by omega) (zconso rfl (zconso (zvo (rfl : i3 a1 = i3 a1)) (zconso rfl (zconso (zvo (show (0 : Int32) = i3 0 from rfl)) (zconso (zvo (show (0 : Int32) = i3 0 from rfl)) (zconso rfl rfl)))))) rfl ?_
  intro L4 Z3 y1 y2 hL4 hZ3I kZ3 jZ3 gy1 gy2 gL4_0 q9
  replace hP := zl_e3 hP (Eq.symm q9)
  clear q9
  have hZ3U : zU [] Z Z3 := zU_t zU_r jZ3 zU_b0
  have hZ3K : zC [69] Z Z3 := zC_t zC_r kZ3 (by decide)
  refine fc_54_2 (i3 y1) _ _ _ _ hL4 ?_
  exact zlW hP (rfl : i3 y1 = i3 y1) ⟨hZ3I, hZ3K, hZ3U, by omega, by omega⟩
/- yX11_fewest -/
def zx_200 (Z : qz_Z) (a1 : Int) (a2 : Int) : qz_Z × Int × Int := (if 0 ≤ a2 ∧ a2 < 6 then (if 10 ≤ a1 ∧ a1 ≤ 99 then (zlet2 (zf_54 Z 0 a2) (fun Z3 v4 => (if 10 < v4 then (Z3, 0, 15) else (zlet (zf_46 Z3 v4) (fun v7 => (if a1 < v7 then (Z3, 0, 15) else (zlet2 (zf_44 Z3 v4 a1) (fun Z11 v12 => (Z11, v12, 0))))))))) else (Z, 0, 13)) else (Z, 0, 24))
theorem sx_200 {M : Nat} {Z : qz_Z} {ν : qz_N} (hZ : zH ((none, M) : zSM) Z) (hM : ((none, M) : zSM).2 + 0 ≤ 1000000000) {a1 : Int} (ga1 : -2147483648 ≤ a1 ∧ a1 ≤ 2147483647) {a2 : Int} (ga2 : -2147483648 ≤ a2 ∧ a2 ≤ 2147483647) : ∃ (Z1 : qz_Z) (ν1 : qz_N) (v E : Int), (Z1, v, E) = zx_200 Z a1 a2 ∧ qf_200 [.inr (.inr (some (0, 0, 0))), .inl (i3 a1), .inl (i3 a2)] (zm Z ν) = some (zm Z1 ν1, zoX v E) ∧ (fun Z1 ν1 => zH ((none, M) : zSM) Z1 ∧ zC [69, 70] Z Z1 ∧ zU [] Z Z1 ∧ zG 1 6 ν ν1) Z1 ν1 := by
  obtain ⟨P, hP⟩ := zx (zx_200 Z a1 a2)
  refine zc_G (Q := fun Z1 ν1 => zH ((none, M) : zSM) Z1 ∧ zC [69, 70] Z Z1 ∧ zU [] Z Z1 ∧ zG 1 6 ν ν1) hP (fw_200 (i3 a1) (i3 a2) _ _ ?_)
  replace hP : zE P (zx_200 Z a1 a2) := hP
  unfold zx_200 at hP
  refine wz_thing (rfl : i3 a2 = i3 a2) (show (6 : Int32) = i3 6 from rfl) (by omega) (by omega) (by omega) (by omega) (fun h1 => ?_) (fun h1 => ?_)
  · replace hP := zE_p hP h1
    refine wz_inR (rfl : i3 a1 = i3 a1) (show (10 : Int32) = i3 10 from rfl) (show (99 : Int32) = i3 99 from rfl) (by omega) (by omega) (by omega) (by omega) (by omega) (by omega) (fun h2 => ?_) (fun h2 => ?_)
    · replace hP := zE_p hP h2
      obtain ⟨Z3, v4, hv4, c9, hZ3I, kZ3, jZ3, lv4, uv4⟩ := sp_54 (ν := ν) hZ 0 (a1 := a2) (by omega) (zbh (c := 0) (k := 0) hM (Nat.le_of_ble_eq_true rfl))
      have hZ3U : zU [] Z Z3 := zU_t zU_r jZ3 zU_b0
      have hZ3K : zC [69, 70] Z Z3 := zC_t zC_r kZ3 (by decide)
      replace hP := zl_e2 hP hv4
      refine wz_cI_of (zas (zcons rfl (zcons (zvi (rfl : i3 a2 = i3 a2)) (zcons rfl rfl))) c9) ?_
      clear c9 hv4
      refine wz_br (i3L (show (10 : Int32) = i3 10 from rfl) (rfl : i3 v4 = i3 v4) (by omega) (by omega) (by omega) (by omega)) (fun h5 => ?_) (fun h5 => ?_)
      · replace hP := zE_p hP h5
        refine wz_inT_n (show (0 : Int32) = i3 0 from rfl) (by omega) (by omega) (by omega) ?_
        exact zlGe (E := 14) hP ⟨hZ3I, hZ3K, hZ3U, zG_w (zG_k rfl) (Nat.le_of_ble_eq_true rfl) (Nat.le_of_ble_eq_true rfl)⟩
      · replace hP := zE_n hP h5
        obtain ⟨v7, hv7, c9, lv7, uv7⟩ := sp_46 (ν := ν) hZ3I (a1 := v4) (by omega) (zbh (c := 0) (k := 0) hM (Nat.le_of_ble_eq_true rfl))
        replace hP := zl_e hP hv7
        refine wz_cI_of (zas (zcons rfl (zcons (zvi (rfl : i3 v4 = i3 v4)) rfl)) c9) ?_
        clear c9
        refine wz_br (i3L (rfl : i3 a1 = i3 a1) (rfl : i3 v7 = i3 v7) (by omega) (by omega) (by omega) (by omega)) (fun h8 => ?_) (fun h8 => ?_)
        · replace hP := zE_p hP h8
          refine wz_inT_n (show (0 : Int32) = i3 0 from rfl) (by omega) (by omega) (by omega) ?_
          exact zlGe (E := 14) hP ⟨hZ3I, hZ3K, hZ3U, zG_w (zG_k rfl) (Nat.le_of_ble_eq_true rfl) (Nat.le_of_ble_eq_true rfl)⟩
        · replace hP := zE_n hP h8
          refine wz_inT_y (show (1 : Int32) = i3 1 from rfl) (by omega) (by omega) (by omega) ?_
          obtain ⟨Z11, v12, hv12, c9, hZ11I, kZ11, jZ11, lv12, uv12⟩ := sp_44 (ν := ν) hZ3I (a1 := v4) (by omega) (a2 := a1) (by omega) (zbh (c := 0) (k := 0) hM (Nat.le_of_ble_eq_true rfl))
          have hZ11U : zU [] Z Z11 := zU_t hZ3U jZ11 zU_b0
          have hZ11K : zC [69, 70] Z Z11 := zC_t hZ3K kZ11 (by decide)
          replace hP := zl_e2 hP hv12
          refine wz_cI_of (zas (zcons rfl (zcons (zvi (rfl : i3 v4 = i3 v4)) (zcons (zvi (rfl : i3 a1 = i3 a1)) (zcons rfl rfl)))) c9) ?_
          clear c9 hv12
          exact zlG hP (rfl : i3 v12 = i3 v12) ⟨hZ11I, hZ11K, hZ11U, zG_w zG_r (Nat.le_of_ble_eq_true rfl) (Nat.le_of_ble_eq_true rfl)⟩
    · replace hP := zE_n hP h2
      exact zlGe (E := 12) hP ⟨hZ, zC_r, zU_r, zG_w (zG_k rfl) (Nat.le_of_ble_eq_true rfl) (Nat.le_of_ble_eq_true rfl)⟩
  · replace hP := zE_n hP h1
    exact zlGe (E := 23) hP ⟨hZ, zC_r, zU_r, zG_w (zG_k rfl) (Nat.le_of_ble_eq_true rfl) (Nat.le_of_ble_eq_true rfl)⟩
/- yX11_found -/
def zx_201 (Z : qz_Z) (a1 : Int) (a2 : Int) : qz_Z × Int × Int := (if 0 ≤ a1 ∧ a1 < (min 24 (Z 11 0 0 11)) then (if 0 ≤ a2 ∧ a2 ≤ 5 then (Z, (Z 52 0 ((max 0 (((Z 11 0 0 11) - 1) - a1)) % 24) a2), 0) else (Z, 0, 13)) else (Z, 0, 24))
theorem sx_201 {M : Nat} {Z : qz_Z} {ν : qz_N} (hZ : zH ((none, M) : zSM) Z) (hM : ((none, M) : zSM).2 + 0 ≤ 1000000000) {a1 : Int} (ga1 : -2147483648 ≤ a1 ∧ a1 ≤ 2147483647) {a2 : Int} (ga2 : -2147483648 ≤ a2 ∧ a2 ≤ 2147483647) : ∃ (Z1 : qz_Z) (ν1 : qz_N) (v E : Int), (Z1, v, E) = zx_201 Z a1 a2 ∧ qf_201 [.inr (.inr (some (0, 0, 0))), .inl (i3 a1), .inl (i3 a2)] (zm Z ν) = some (zm Z1 ν1, zoX v E) ∧ (fun Z1 ν1 => zH ((none, M) : zSM) Z1 ∧ zC [] Z Z1 ∧ zU [] Z Z1 ∧ zG 1 6 ν ν1) Z1 ν1 := by
  obtain ⟨P, hP⟩ := zx (zx_201 Z a1 a2)
  refine zc_G (Q := fun Z1 ν1 => zH ((none, M) : zSM) Z1 ∧ zC [] Z Z1 ∧ zU [] Z Z1 ∧ zG 1 6 ν ν1) hP (fw_201 (i3 a1) (i3 a2) _ _ ?_)
  replace hP : zE P (zx_201 Z a1 a2) := hP
  unfold zx_201 at hP
  have r1 := zH_c11 hZ 0 (zbh (c := 0) (k := 0) hM (Nat.le_of_ble_eq_true rfl))
  refine wz_thing (rfl : i3 a1 = i3 a1) (i3Mn (show (24 : Int32) = i3 24 from rfl) (zm_rd (Z := Z) (ν := ν) (k := 11) (show ((0 : Nat) : Int) = 0 from rfl) (show ((0 : Nat) : Int) = 0 from rfl) (show ((11 : Nat) : Int) = 11 from rfl)) (by omega) (by omega) (by omega) (by omega)) (by omega) (by omega) (by omega) (by omega) (fun h2 => ?_) (fun h2 => ?_)
  · replace hP := zE_p hP h2
    refine wz_inR (rfl : i3 a2 = i3 a2) (show (0 : Int32) = i3 0 from rfl) (show (5 : Int32) = i3 5 from rfl) (by omega) (by omega) (by omega) (by omega) (by omega) (by omega) (fun h3 => ?_) (fun h3 => ?_)
    · replace hP := zE_p hP h3
      refine wz_i0 (i3O (n := 24) (i3R (i3Mx (show (0 : Int32) = i3 0 from rfl) (i3S (i3S (zm_rd (Z := Z) (ν := ν) (k := 11) (show ((0 : Nat) : Int) = 0 from rfl) (show ((0 : Nat) : Int) = 0 from rfl) (show ((11 : Nat) : Int) = 11 from rfl)) (show (1 : Int32) = i3 1 from rfl)) (rfl : i3 a1 = i3 a1)) (by omega) (by omega) (by omega) (by omega)) (show (24 : Int32) = i3 24 from rfl) (by omega) (by omega) (by omega) (by omega)) (by omega) (by omega) (by omega)) ?_
      refine wz_i0 (i3O (n := 6) (rfl : i3 a2 = i3 a2) (by omega) (by omega) (by omega)) ?_
      have r4 := zH_f hZ 52 0 ((max 0 (((Z 11 0 0 11) - 1) - a1)) % 24) a2
      exact zlG hP (zm_rd (Z := Z) (ν := ν) (k := 52) (show ((0 : Nat) : Int) = 0 from rfl) (i3I (y := ((max 0 (((Z 11 0 0 11) - 1) - a1)) % 24)) (i3R (i3Mx (show (0 : Int32) = i3 0 from rfl) (i3S (i3S (zm_rd (Z := Z) (ν := ν) (k := 11) (show ((0 : Nat) : Int) = 0 from rfl) (show ((0 : Nat) : Int) = 0 from rfl) (show ((11 : Nat) : Int) = 11 from rfl)) (show (1 : Int32) = i3 1 from rfl)) (rfl : i3 a1 = i3 a1)) (by omega) (by omega) (by omega) (by omega)) (show (24 : Int32) = i3 24 from rfl) (by omega) (by omega) (by omega) (by omega)) (by omega) (by omega) (by omega)) (i3I (y := a2) (rfl : i3 a2 = i3 a2) (by omega) (by omega) (by omega))) ⟨hZ, zC_r, zU_r, zG_w zG_r (Nat.le_of_ble_eq_true rfl) (Nat.le_of_ble_eq_true rfl)⟩
    · replace hP := zE_n hP h3
      exact zlGe (E := 12) hP ⟨hZ, zC_r, zU_r, zG_w (zG_k rfl) (Nat.le_of_ble_eq_true rfl) (Nat.le_of_ble_eq_true rfl)⟩
  · replace hP := zE_n hP h2
    exact zlGe (E := 23) hP ⟨hZ, zC_r, zU_r, zG_w (zG_k rfl) (Nat.le_of_ble_eq_true rfl) (Nat.le_of_ble_eq_true rfl)⟩
/- yX11_gas -/
def zx_202 (Z : qz_Z) (a1 : Int) (a2 : Int) : qz_Z × Int × Int := (if 0 ≤ a1 ∧ a1 < (Z 11 0 0 2) then (if a2 = 0 then (zlet (zdd Z 6 a1 0 0 0 0 0) (fun Z4 => (zlet (zu Z4 43 0 a1 4 0) (fun Z5 => (if (Z4 43 0 a1 4) ≠ 1 then (Z5, 0, 0) else (Z5, 1, 0)))))) else (zlet (zdd Z 6 a1 1 0 0 0 0) (fun Z8 => (zlet (zu Z8 43 0 a1 4 1) (fun Z9 => (if (Z8 43 0 a1 4) ≠ 1 then (Z9, 0, 0) else (Z9, 1, 0))))))) else (Z, 0, 24))
theorem sx_202 {M : Nat} {Z : qz_Z} {ν : qz_N} (hZ : zH ((none, M) : zSM) Z) (hM : ((none, M) : zSM).2 + 0 ≤ 1000000000) {a1 : Int} (ga1 : -2147483648 ≤ a1 ∧ a1 ≤ 2147483647) {a2 : Int} (ga2 : -2147483648 ≤ a2 ∧ a2 ≤ 2147483647) : ∃ (Z1 : qz_Z) (ν1 : qz_N) (v E : Int), (Z1, v, E) = zx_202 Z a1 a2 ∧ qf_202 [.inr (.inr (some (0, 0, 0))), .inl (i3 a1), .inl (i3 a2)] (zm Z ν) = some (zm Z1 ν1, zoX v E) ∧ (fun Z1 ν1 => zH ((none, M) : zSM) Z1 ∧ zC [3, 12, 13, 14, 40, 41, 42, 43, 44, 45, 46, 47, 48, 49, 50, 51, 52, 53, 54, 61, 68, 1099, 1100, 1101, 1102, 1103, 1104, 1105, 1106, 1107, 1108, 1109, 1110, 1111, 1112, 1113, 1114, 1115, 1116] Z Z1 ∧ zU [0, 2, 3, 4, 5, 6, 7, 8, 9] Z Z1 ∧ zG 1 6 ν ν1) Z1 ν1 := by
  obtain ⟨P, hP⟩ := zx (zx_202 Z a1 a2)
  refine zc_G (Q := fun Z1 ν1 => zH ((none, M) : zSM) Z1 ∧ zC [3, 12, 13, 14, 40, 41, 42, 43, 44, 45, 46, 47, 48, 49, 50, 51, 52, 53, 54, 61, 68, 1099, 1100, 1101, 1102, 1103, 1104, 1105, 1106, 1107, 1108, 1109, 1110, 1111, 1112, 1113, 1114, 1115, 1116] Z Z1 ∧ zU [0, 2, 3, 4, 5, 6, 7, 8, 9] Z Z1 ∧ zG 1 6 ν ν1) hP (fw_202 (i3 a1) (i3 a2) _ _ ?_)
  replace hP : zE P (zx_202 Z a1 a2) := hP
  unfold zx_202 at hP
  have r1 := zH_k hZ 11 0 0 2 (lo := 0) (hi := 6) (by decide) rfl
  refine wz_thing (rfl : i3 a1 = i3 a1) (zm_rd (Z := Z) (ν := ν) (k := 11) (show ((0 : Nat) : Int) = 0 from rfl) (show ((0 : Nat) : Int) = 0 from rfl) (show ((2 : Nat) : Int) = 2 from rfl)) (by omega) (by omega) (by omega) (by omega) (fun h2 => ?_) (fun h2 => ?_)
  · replace hP := zE_p hP h2
    refine wz_br (i3E (rfl : i3 a2 = i3 a2) (show (0 : Int32) = i3 0 from rfl) (by omega) (by omega) (by omega) (by omega)) (fun h3 => ?_) (fun h3 => ?_)
    · replace hP := zE_p hP h3
      refine dc_J (zcons rfl (zcons (zvi (show (6 : Int32) = i3 6 from rfl)) (zcons (zvi (rfl : i3 a1 = i3 a1)) (zcons (zvi (show (0 : Int32) = i3 0 from rfl)) (zcons (zvi (show (0 : Int32) = i3 0 from rfl)) (zcons (zvi (show (0 : Int32) = i3 0 from rfl)) (zcons (zvi (show (0 : Int32) = i3 0 from rfl)) (zcons (zvi (show (0 : Int32) = i3 0 from rfl)) rfl)))))))) (dg (hZ).1 (by omega) (by omega) (by omega) (by omega) (by omega) (by omega) (by omega) ?_)
      have hZ4I := zH_dd hZ (a1 := 6) (a2 := a1) (a3 := 0) (a4 := 0) (a5 := 0) (a6 := 0) (a7 := 0) (by omega) (by omega) (by omega) (by omega) (by omega) (by omega) (by omega)
      have kZ4 : zC [3, 12, 13, 14, 40, 41, 42, 43, 44, 45, 46, 47, 48, 49, 50, 51, 52, 53, 54, 61, 68, 1099, 1100, 1101, 1102, 1103, 1104, 1105, 1106, 1107, 1108, 1109, 1110, 1111, 1112, 1113, 1114, 1115, 1116] Z (zdd Z 6 a1 0 0 0 0 0) := zC_k zdd_K (by decide) (by decide)
      have hZ4A : (zdd Z 6 a1 0 0 0 0 0) 68 0 0 0 = 6 ∧ (zdd Z 6 a1 0 0 0 0 0) 68 0 0 1 = a1 ∧ (zdd Z 6 a1 0 0 0 0 0) 68 0 0 2 = 0 ∧ (zdd Z 6 a1 0 0 0 0 0) 68 0 0 3 = 0 ∧ (zdd Z 6 a1 0 0 0 0 0) 68 0 0 4 = 0 ∧ (zdd Z 6 a1 0 0 0 0 0) 68 0 0 5 = 0 ∧ (zdd Z 6 a1 0 0 0 0 0) 68 0 0 6 = 0 := ⟨zdd_68, zdd_68, zdd_68, zdd_68, zdd_68, zdd_68, zdd_68⟩
      obtain ⟨Z4, hZ4⟩ := zx (zdd Z 6 a1 0 0 0 0 0)
      have dZ4 : ∀ {k : Nat} {i j : Int}, zhall k = true → ¬ (k = 11 ∧ (j = 15 ∨ j = 16)) → Z4 k 0 i j = Z k 0 i j := fun hk hj => by rw [hZ4]; exact zdd_h (hZ).1 hk hj
      have jZ4 : zU [0, 2, 3, 4, 5, 6, 7, 8, 9] Z (zdd Z 6 a1 0 0 0 0 0) := zU_dd (hZ).1
      rw [← hZ4] at hZ4I kZ4 jZ4 hZ4A ⊢
      have hZ4U : zU [0, 2, 3, 4, 5, 6, 7, 8, 9] Z Z4 := zU_t zU_r jZ4 (zU_b1 (List.Mem.head _) (zU_b1 (List.Mem.tail _ (List.Mem.head _)) (zU_b1 (List.Mem.tail _ (List.Mem.tail _ (List.Mem.head _))) (zU_b1 (List.Mem.tail _ (List.Mem.tail _ (List.Mem.tail _ (List.Mem.head _)))) (zU_b1 (List.Mem.tail _ (List.Mem.tail _ (List.Mem.tail _ (List.Mem.tail _ (List.Mem.head _))))) (zU_b1 (List.Mem.tail _ (List.Mem.tail _ (List.Mem.tail _ (List.Mem.tail _ (List.Mem.tail _ (List.Mem.head _)))))) (zU_b1 (List.Mem.tail _ (List.Mem.tail _ (List.Mem.tail _ (List.Mem.tail _ (List.Mem.tail _ (List.Mem.tail _ (List.Mem.head _))))))) (zU_b1 (List.Mem.tail _ (List.Mem.tail _ (List.Mem.tail _ (List.Mem.tail _ (List.Mem.tail _ (List.Mem.tail _ (List.Mem.tail _ (List.Mem.head _)))))))) (zU_b1 (List.Mem.tail _ (List.Mem.tail _ (List.Mem.tail _ (List.Mem.tail _ (List.Mem.tail _ (List.Mem.tail _ (List.Mem.tail _ (List.Mem.tail _ (List.Mem.head _))))))))) zU_b0)))))))))
      replace hP := zl_e hP hZ4
      have hZ4K : zC [3, 12, 13, 14, 40, 41, 42, 43, 44, 45, 46, 47, 48, 49, 50, 51, 52, 53, 54, 61, 68, 1099, 1100, 1101, 1102, 1103, 1104, 1105, 1106, 1107, 1108, 1109, 1110, 1111, 1112, 1113, 1114, 1115, 1116] Z Z4 := zC_t zC_r kZ4 (by decide)
      clear kZ4 hZ4
      refine fw_121 _ _ _ _ ?_
      refine wz_i1 rfl ?_
      refine wz_i0 (i3O (n := 7) (show (0 : Int32) = i3 0 from rfl) (by omega) (by omega) (by omega)) ?_
      refine wz_i0 (Eq.trans (i3To (Eq.trans (zm_rd (Z := Z4) (ν := ν) (k := 68) (show ((0 : Nat) : Int) = 0 from rfl) (show ((0 : Nat) : Int) = 0 from rfl) (show ((0 : Nat) : Int) = 0 from rfl)) (congrArg i3 ((hZ4A.1)))) (by omega) (by omega)) (decide_eq_false (by omega))) ?_
      refine wz_i0 (Eq.trans (i3T (Eq.trans (zm_rd (Z := Z4) (ν := ν) (k := 68) (show ((0 : Nat) : Int) = 0 from rfl) (show ((0 : Nat) : Int) = 0 from rfl) (show ((0 : Nat) : Int) = 0 from rfl)) (congrArg i3 ((hZ4A.1)))) (by omega) (by omega)) (decide_eq_false (by omega))) ?_
      refine wz_i0 (Eq.trans (i3T (Eq.trans (zm_rd (Z := Z4) (ν := ν) (k := 68) (show ((0 : Nat) : Int) = 0 from rfl) (show ((0 : Nat) : Int) = 0 from rfl) (show ((0 : Nat) : Int) = 0 from rfl)) (congrArg i3 ((hZ4A.1)))) (by omega) (by omega)) (decide_eq_false (by omega))) ?_
      refine wz_i0 (Eq.trans (i3T (Eq.trans (zm_rd (Z := Z4) (ν := ν) (k := 68) (show ((0 : Nat) : Int) = 0 from rfl) (show ((0 : Nat) : Int) = 0 from rfl) (show ((0 : Nat) : Int) = 0 from rfl)) (congrArg i3 ((hZ4A.1)))) (by omega) (by omega)) (decide_eq_false (by omega))) ?_
      refine wz_i0 (Eq.trans (i3T (Eq.trans (zm_rd (Z := Z4) (ν := ν) (k := 68) (show ((0 : Nat) : Int) = 0 from rfl) (show ((0 : Nat) : Int) = 0 from rfl) (show ((0 : Nat) : Int) = 0 from rfl)) (congrArg i3 ((hZ4A.1)))) (by omega) (by omega)) (decide_eq_false (by omega))) ?_
      refine wz_i0 (Eq.trans (i3T (Eq.trans (zm_rd (Z := Z4) (ν := ν) (k := 68) (show ((0 : Nat) : Int) = 0 from rfl) (show ((0 : Nat) : Int) = 0 from rfl) (show ((0 : Nat) : Int) = 0 from rfl)) (congrArg i3 ((hZ4A.1)))) (by omega) (by omega)) (decide_eq_false (by omega))) ?_
      refine wz_i0 (Eq.trans (i3T (Eq.trans (zm_rd (Z := Z4) (ν := ν) (k := 68) (show ((0 : Nat) : Int) = 0 from rfl) (show ((0 : Nat) : Int) = 0 from rfl) (show ((0 : Nat) : Int) = 0 from rfl)) (congrArg i3 ((hZ4A.1)))) (by omega) (by omega)) (decide_eq_false (by omega))) ?_
      refine wz_i1 (Eq.trans (i3T (Eq.trans (zm_rd (Z := Z4) (ν := ν) (k := 68) (show ((0 : Nat) : Int) = 0 from rfl) (show ((0 : Nat) : Int) = 0 from rfl) (show ((0 : Nat) : Int) = 0 from rfl)) (congrArg i3 ((hZ4A.1)))) (by omega) (by omega)) (decide_eq_true (by omega))) ?_
      refine wz_i1 rfl ?_
      refine wz_i0 (i3O (n := 7) (show (1 : Int32) = i3 1 from rfl) (by omega) (by omega) (by omega)) ?_
      refine wz_i0 (i3O (n := 6) (Eq.trans (zm_rd (Z := Z4) (ν := ν) (k := 68) (show ((0 : Nat) : Int) = 0 from rfl) (show ((0 : Nat) : Int) = 0 from rfl) (show ((1 : Nat) : Int) = 1 from rfl)) (congrArg i3 ((hZ4A.2.1)))) (by omega) (by omega) (by omega)) ?_
      refine wz_i1 rfl ?_
      refine wz_i0 (i3O (n := 7) (show (2 : Int32) = i3 2 from rfl) (by omega) (by omega) (by omega)) ?_
      obtain ⟨Z5, hZ5⟩ := zx (zu Z4 43 0 a1 4 0)
      replace hP := zl_e hP hZ5
      have hZ5I := zH_0 hZ4I hZ5 (by decide) (Or.inl (by decide))
      have hZ5U : zU [0, 2, 3, 4, 5, 6, 7, 8, 9] Z Z5 := zU_u hZ4U hZ5 (Or.inr (List.Mem.head _))
      have hZ5K : zC [3, 12, 13, 14, 40, 41, 42, 43, 44, 45, 46, 47, 48, 49, 50, 51, 52, 53, 54, 61, 68, 1099, 1100, 1101, 1102, 1103, 1104, 1105, 1106, 1107, 1108, 1109, 1110, 1111, 1112, 1113, 1114, 1115, 1116] Z Z5 := zC_u hZ4K hZ5 (by decide)
      intro μ9 e9
      replace e9 := e9.trans (zm_wI (Z := Z4) (ν := ν) hZ5 (show ((0 : Nat) : Int) = 0 from rfl) (i3I (y := a1) (Eq.trans (zm_rd (Z := Z4) (ν := ν) (k := 68) (show ((0 : Nat) : Int) = 0 from rfl) (show ((0 : Nat) : Int) = 0 from rfl) (show ((1 : Nat) : Int) = 1 from rfl)) (congrArg i3 ((hZ4A.2.1)))) (by omega) (by omega) (by omega)) (show ((4 : Nat) : Int) = 4 from rfl) (Eq.trans (zm_rd (Z := Z4) (ν := ν) (k := 68) (show ((0 : Nat) : Int) = 0 from rfl) (show ((0 : Nat) : Int) = 0 from rfl) (show ((2 : Nat) : Int) = 2 from rfl)) (congrArg i3 ((hZ4A.2.2.1)))))
      subst e9
      have r6 := zH_k hZ4I 43 0 a1 4 (lo := 0) (hi := 1) (by decide) rfl
      refine wz_br (i3NE (zm_rd (Z := Z4) (ν := ν) (k := 43) (show ((0 : Nat) : Int) = 0 from rfl) (i3I (y := a1) (Eq.trans (zm_rd (Z := Z4) (ν := ν) (k := 68) (show ((0 : Nat) : Int) = 0 from rfl) (show ((0 : Nat) : Int) = 0 from rfl) (show ((1 : Nat) : Int) = 1 from rfl)) (congrArg i3 ((hZ4A.2.1)))) (by omega) (by omega) (by omega)) (show ((4 : Nat) : Int) = 4 from rfl)) (show (1 : Int32) = i3 1 from rfl) (by omega) (by omega) (by omega) (by omega)) (fun h7 => ?_) (fun h7 => ?_)
      · replace hP := zE_p hP h7
        exact zlG hP (show (0 : Int32) = i3 0 from rfl) ⟨hZ5I, hZ5K, hZ5U, zG_w zG_r (Nat.le_of_ble_eq_true rfl) (Nat.le_of_ble_eq_true rfl)⟩
      · replace hP := zE_n hP h7
        exact zlG hP (show (1 : Int32) = i3 1 from rfl) ⟨hZ5I, hZ5K, hZ5U, zG_w zG_r (Nat.le_of_ble_eq_true rfl) (Nat.le_of_ble_eq_true rfl)⟩
    · replace hP := zE_n hP h3
      refine dc_J (zcons rfl (zcons (zvi (show (6 : Int32) = i3 6 from rfl)) (zcons (zvi (rfl : i3 a1 = i3 a1)) (zcons (zvi (show (1 : Int32) = i3 1 from rfl)) (zcons (zvi (show (0 : Int32) = i3 0 from rfl)) (zcons (zvi (show (0 : Int32) = i3 0 from rfl)) (zcons (zvi (show (0 : Int32) = i3 0 from rfl)) (zcons (zvi (show (0 : Int32) = i3 0 from rfl)) rfl)))))))) (dg (hZ).1 (by omega) (by omega) (by omega) (by omega) (by omega) (by omega) (by omega) ?_)
      have hZ8I := zH_dd hZ (a1 := 6) (a2 := a1) (a3 := 1) (a4 := 0) (a5 := 0) (a6 := 0) (a7 := 0) (by omega) (by omega) (by omega) (by omega) (by omega) (by omega) (by omega)
      have kZ8 : zC [3, 12, 13, 14, 40, 41, 42, 43, 44, 45, 46, 47, 48, 49, 50, 51, 52, 53, 54, 61, 68, 1099, 1100, 1101, 1102, 1103, 1104, 1105, 1106, 1107, 1108, 1109, 1110, 1111, 1112, 1113, 1114, 1115, 1116] Z (zdd Z 6 a1 1 0 0 0 0) := zC_k zdd_K (by decide) (by decide)
      have hZ8A : (zdd Z 6 a1 1 0 0 0 0) 68 0 0 0 = 6 ∧ (zdd Z 6 a1 1 0 0 0 0) 68 0 0 1 = a1 ∧ (zdd Z 6 a1 1 0 0 0 0) 68 0 0 2 = 1 ∧ (zdd Z 6 a1 1 0 0 0 0) 68 0 0 3 = 0 ∧ (zdd Z 6 a1 1 0 0 0 0) 68 0 0 4 = 0 ∧ (zdd Z 6 a1 1 0 0 0 0) 68 0 0 5 = 0 ∧ (zdd Z 6 a1 1 0 0 0 0) 68 0 0 6 = 0 := ⟨zdd_68, zdd_68, zdd_68, zdd_68, zdd_68, zdd_68, zdd_68⟩
      obtain ⟨Z8, hZ8⟩ := zx (zdd Z 6 a1 1 0 0 0 0)
      have dZ8 : ∀ {k : Nat} {i j : Int}, zhall k = true → ¬ (k = 11 ∧ (j = 15 ∨ j = 16)) → Z8 k 0 i j = Z k 0 i j := fun hk hj => by rw [hZ8]; exact zdd_h (hZ).1 hk hj
      have jZ8 : zU [0, 2, 3, 4, 5, 6, 7, 8, 9] Z (zdd Z 6 a1 1 0 0 0 0) := zU_dd (hZ).1
      rw [← hZ8] at hZ8I kZ8 jZ8 hZ8A ⊢
      have hZ8U : zU [0, 2, 3, 4, 5, 6, 7, 8, 9] Z Z8 := zU_t zU_r jZ8 (zU_b1 (List.Mem.head _) (zU_b1 (List.Mem.tail _ (List.Mem.head _)) (zU_b1 (List.Mem.tail _ (List.Mem.tail _ (List.Mem.head _))) (zU_b1 (List.Mem.tail _ (List.Mem.tail _ (List.Mem.tail _ (List.Mem.head _)))) (zU_b1 (List.Mem.tail _ (List.Mem.tail _ (List.Mem.tail _ (List.Mem.tail _ (List.Mem.head _))))) (zU_b1 (List.Mem.tail _ (List.Mem.tail _ (List.Mem.tail _ (List.Mem.tail _ (List.Mem.tail _ (List.Mem.head _)))))) (zU_b1 (List.Mem.tail _ (List.Mem.tail _ (List.Mem.tail _ (List.Mem.tail _ (List.Mem.tail _ (List.Mem.tail _ (List.Mem.head _))))))) (zU_b1 (List.Mem.tail _ (List.Mem.tail _ (List.Mem.tail _ (List.Mem.tail _ (List.Mem.tail _ (List.Mem.tail _ (List.Mem.tail _ (List.Mem.head _)))))))) (zU_b1 (List.Mem.tail _ (List.Mem.tail _ (List.Mem.tail _ (List.Mem.tail _ (List.Mem.tail _ (List.Mem.tail _ (List.Mem.tail _ (List.Mem.tail _ (List.Mem.head _))))))))) zU_b0)))))))))
      replace hP := zl_e hP hZ8
      have hZ8K : zC [3, 12, 13, 14, 40, 41, 42, 43, 44, 45, 46, 47, 48, 49, 50, 51, 52, 53, 54, 61, 68, 1099, 1100, 1101, 1102, 1103, 1104, 1105, 1106, 1107, 1108, 1109, 1110, 1111, 1112, 1113, 1114, 1115, 1116] Z Z8 := zC_t zC_r kZ8 (by decide)
      clear kZ8 hZ8
      refine fw_121 _ _ _ _ ?_
      refine wz_i1 rfl ?_
      refine wz_i0 (i3O (n := 7) (show (0 : Int32) = i3 0 from rfl) (by omega) (by omega) (by omega)) ?_
      refine wz_i0 (Eq.trans (i3To (Eq.trans (zm_rd (Z := Z8) (ν := ν) (k := 68) (show ((0 : Nat) : Int) = 0 from rfl) (show ((0 : Nat) : Int) = 0 from rfl) (show ((0 : Nat) : Int) = 0 from rfl)) (congrArg i3 ((hZ8A.1)))) (by omega) (by omega)) (decide_eq_false (by omega))) ?_
      refine wz_i0 (Eq.trans (i3T (Eq.trans (zm_rd (Z := Z8) (ν := ν) (k := 68) (show ((0 : Nat) : Int) = 0 from rfl) (show ((0 : Nat) : Int) = 0 from rfl) (show ((0 : Nat) : Int) = 0 from rfl)) (congrArg i3 ((hZ8A.1)))) (by omega) (by omega)) (decide_eq_false (by omega))) ?_
      refine wz_i0 (Eq.trans (i3T (Eq.trans (zm_rd (Z := Z8) (ν := ν) (k := 68) (show ((0 : Nat) : Int) = 0 from rfl) (show ((0 : Nat) : Int) = 0 from rfl) (show ((0 : Nat) : Int) = 0 from rfl)) (congrArg i3 ((hZ8A.1)))) (by omega) (by omega)) (decide_eq_false (by omega))) ?_
      refine wz_i0 (Eq.trans (i3T (Eq.trans (zm_rd (Z := Z8) (ν := ν) (k := 68) (show ((0 : Nat) : Int) = 0 from rfl) (show ((0 : Nat) : Int) = 0 from rfl) (show ((0 : Nat) : Int) = 0 from rfl)) (congrArg i3 ((hZ8A.1)))) (by omega) (by omega)) (decide_eq_false (by omega))) ?_
      refine wz_i0 (Eq.trans (i3T (Eq.trans (zm_rd (Z := Z8) (ν := ν) (k := 68) (show ((0 : Nat) : Int) = 0 from rfl) (show ((0 : Nat) : Int) = 0 from rfl) (show ((0 : Nat) : Int) = 0 from rfl)) (congrArg i3 ((hZ8A.1)))) (by omega) (by omega)) (decide_eq_false (by omega))) ?_
      refine wz_i0 (Eq.trans (i3T (Eq.trans (zm_rd (Z := Z8) (ν := ν) (k := 68) (show ((0 : Nat) : Int) = 0 from rfl) (show ((0 : Nat) : Int) = 0 from rfl) (show ((0 : Nat) : Int) = 0 from rfl)) (congrArg i3 ((hZ8A.1)))) (by omega) (by omega)) (decide_eq_false (by omega))) ?_
      refine wz_i0 (Eq.trans (i3T (Eq.trans (zm_rd (Z := Z8) (ν := ν) (k := 68) (show ((0 : Nat) : Int) = 0 from rfl) (show ((0 : Nat) : Int) = 0 from rfl) (show ((0 : Nat) : Int) = 0 from rfl)) (congrArg i3 ((hZ8A.1)))) (by omega) (by omega)) (decide_eq_false (by omega))) ?_
      refine wz_i1 (Eq.trans (i3T (Eq.trans (zm_rd (Z := Z8) (ν := ν) (k := 68) (show ((0 : Nat) : Int) = 0 from rfl) (show ((0 : Nat) : Int) = 0 from rfl) (show ((0 : Nat) : Int) = 0 from rfl)) (congrArg i3 ((hZ8A.1)))) (by omega) (by omega)) (decide_eq_true (by omega))) ?_
      refine wz_i1 rfl ?_
      refine wz_i0 (i3O (n := 7) (show (1 : Int32) = i3 1 from rfl) (by omega) (by omega) (by omega)) ?_
      refine wz_i0 (i3O (n := 6) (Eq.trans (zm_rd (Z := Z8) (ν := ν) (k := 68) (show ((0 : Nat) : Int) = 0 from rfl) (show ((0 : Nat) : Int) = 0 from rfl) (show ((1 : Nat) : Int) = 1 from rfl)) (congrArg i3 ((hZ8A.2.1)))) (by omega) (by omega) (by omega)) ?_
      refine wz_i1 rfl ?_
      refine wz_i0 (i3O (n := 7) (show (2 : Int32) = i3 2 from rfl) (by omega) (by omega) (by omega)) ?_
      obtain ⟨Z9, hZ9⟩ := zx (zu Z8 43 0 a1 4 1)
      replace hP := zl_e hP hZ9
      have hZ9I := zH_u hZ8I hZ9 (lo := 0) (hi := 1) (by decide) rfl (by omega) ⟨by decide, by decide⟩ (Or.inl (by decide)) rfl
      have hZ9U : zU [0, 2, 3, 4, 5, 6, 7, 8, 9] Z Z9 := zU_u hZ8U hZ9 (Or.inr (List.Mem.head _))
      have hZ9K : zC [3, 12, 13, 14, 40, 41, 42, 43, 44, 45, 46, 47, 48, 49, 50, 51, 52, 53, 54, 61, 68, 1099, 1100, 1101, 1102, 1103, 1104, 1105, 1106, 1107, 1108, 1109, 1110, 1111, 1112, 1113, 1114, 1115, 1116] Z Z9 := zC_u hZ8K hZ9 (by decide)
      intro μ9 e9
      replace e9 := e9.trans (zm_wI (Z := Z8) (ν := ν) hZ9 (show ((0 : Nat) : Int) = 0 from rfl) (i3I (y := a1) (Eq.trans (zm_rd (Z := Z8) (ν := ν) (k := 68) (show ((0 : Nat) : Int) = 0 from rfl) (show ((0 : Nat) : Int) = 0 from rfl) (show ((1 : Nat) : Int) = 1 from rfl)) (congrArg i3 ((hZ8A.2.1)))) (by omega) (by omega) (by omega)) (show ((4 : Nat) : Int) = 4 from rfl) (Eq.trans (zm_rd (Z := Z8) (ν := ν) (k := 68) (show ((0 : Nat) : Int) = 0 from rfl) (show ((0 : Nat) : Int) = 0 from rfl) (show ((2 : Nat) : Int) = 2 from rfl)) (congrArg i3 ((hZ8A.2.2.1)))))
      subst e9
      have r10 := zH_k hZ8I 43 0 a1 4 (lo := 0) (hi := 1) (by decide) rfl
      refine wz_br (i3NE (zm_rd (Z := Z8) (ν := ν) (k := 43) (show ((0 : Nat) : Int) = 0 from rfl) (i3I (y := a1) (Eq.trans (zm_rd (Z := Z8) (ν := ν) (k := 68) (show ((0 : Nat) : Int) = 0 from rfl) (show ((0 : Nat) : Int) = 0 from rfl) (show ((1 : Nat) : Int) = 1 from rfl)) (congrArg i3 ((hZ8A.2.1)))) (by omega) (by omega) (by omega)) (show ((4 : Nat) : Int) = 4 from rfl)) (show (1 : Int32) = i3 1 from rfl) (by omega) (by omega) (by omega) (by omega)) (fun h11 => ?_) (fun h11 => ?_)
      · replace hP := zE_p hP h11
        exact zlG hP (show (0 : Int32) = i3 0 from rfl) ⟨hZ9I, hZ9K, hZ9U, zG_w zG_r (Nat.le_of_ble_eq_true rfl) (Nat.le_of_ble_eq_true rfl)⟩
      · replace hP := zE_n hP h11
        exact zlG hP (show (1 : Int32) = i3 1 from rfl) ⟨hZ9I, hZ9K, hZ9U, zG_w zG_r (Nat.le_of_ble_eq_true rfl) (Nat.le_of_ble_eq_true rfl)⟩
  · replace hP := zE_n hP h2
    exact zlGe (E := 23) hP ⟨hZ, zC_r, zU_r, zG_w (zG_k rfl) (Nat.le_of_ble_eq_true rfl) (Nat.le_of_ble_eq_true rfl)⟩
/- yX11_grade -/
def zx_203 (Z : qz_Z) (a1 : Int) (a2 : Int) (a3 : Int) (a4 : Int) : qz_Z × Int × Int := (if 0 ≤ a1 ∧ a1 < (Z 11 0 0 3) then (if 1 ≤ a2 ∧ a2 ≤ 20 then (if 0 ≤ a3 ∧ a3 ≤ 9 then (if 0 ≤ a4 ∧ a4 ≤ 65535 then (if (Z 44 0 a1 10) ≠ 0 then (Z, 0, 15) else (if (Z 44 0 a1 4) < a2 then (Z, 0, 15) else (zlet (zdd Z 3 a1 a2 a3 a4 0 0) (fun Z13 => (zlet2 (zf_95 Z13 0 a1 a2 a3 a4) (fun Z14 v15 => (Z14, v15, 0))))))) else (Z, 0, 13)) else (Z, 0, 13)) else (Z, 0, 13)) else (Z, 0, 24))
theorem sx_203 {M : Nat} {Z : qz_Z} {ν : qz_N} (hZ : zH ((none, M) : zSM) Z) (hM : ((none, M) : zSM).2 + 1 ≤ 1000000000) {a1 : Int} (ga1 : -2147483648 ≤ a1 ∧ a1 ≤ 2147483647) {a2 : Int} (ga2 : -2147483648 ≤ a2 ∧ a2 ≤ 2147483647) {a3 : Int} (ga3 : -2147483648 ≤ a3 ∧ a3 ≤ 2147483647) {a4 : Int} (ga4 : -2147483648 ≤ a4 ∧ a4 ≤ 2147483647) : ∃ (Z1 : qz_Z) (ν1 : qz_N) (v E : Int), (Z1, v, E) = zx_203 Z a1 a2 a3 a4 ∧ qf_203 [.inr (.inr (some (0, 0, 0))), .inl (i3 a1), .inl (i3 a2), .inl (i3 a3), .inl (i3 a4)] (zm Z ν) = some (zm Z1 ν1, zoX v E) ∧ (fun Z1 ν1 => zH (zb ((none, M) : zSM) 1) Z1 ∧ zC [3, 12, 13, 14, 40, 41, 42, 43, 44, 45, 46, 47, 48, 49, 50, 51, 52, 53, 54, 61, 68, 1099, 1100, 1101, 1102, 1103, 1104, 1105, 1106, 1107, 1108, 1109, 1110, 1111, 1112, 1113, 1114, 1115, 1116] Z Z1 ∧ zU [0, 2, 3, 4, 5, 6, 7, 8, 9] Z Z1 ∧ zG 1 6 ν ν1) Z1 ν1 := by
  obtain ⟨P, hP⟩ := zx (zx_203 Z a1 a2 a3 a4)
  refine zc_G (Q := fun Z1 ν1 => zH (zb ((none, M) : zSM) 1) Z1 ∧ zC [3, 12, 13, 14, 40, 41, 42, 43, 44, 45, 46, 47, 48, 49, 50, 51, 52, 53, 54, 61, 68, 1099, 1100, 1101, 1102, 1103, 1104, 1105, 1106, 1107, 1108, 1109, 1110, 1111, 1112, 1113, 1114, 1115, 1116] Z Z1 ∧ zU [0, 2, 3, 4, 5, 6, 7, 8, 9] Z Z1 ∧ zG 1 6 ν ν1) hP (fw_203 (i3 a1) (i3 a2) (i3 a3) (i3 a4) _ _ ?_)
  replace hP : zE P (zx_203 Z a1 a2 a3 a4) := hP
  unfold zx_203 at hP
  have r1 := zH_k hZ 11 0 0 3 (lo := 0) (hi := 48) (by decide) rfl
  refine wz_thing (rfl : i3 a1 = i3 a1) (zm_rd (Z := Z) (ν := ν) (k := 11) (show ((0 : Nat) : Int) = 0 from rfl) (show ((0 : Nat) : Int) = 0 from rfl) (show ((3 : Nat) : Int) = 3 from rfl)) (by omega) (by omega) (by omega) (by omega) (fun h2 => ?_) (fun h2 => ?_)
  · replace hP := zE_p hP h2
    refine wz_inR (rfl : i3 a2 = i3 a2) (show (1 : Int32) = i3 1 from rfl) (show (20 : Int32) = i3 20 from rfl) (by omega) (by omega) (by omega) (by omega) (by omega) (by omega) (fun h3 => ?_) (fun h3 => ?_)
    · replace hP := zE_p hP h3
      refine wz_inR (rfl : i3 a3 = i3 a3) (show (0 : Int32) = i3 0 from rfl) (show (9 : Int32) = i3 9 from rfl) (by omega) (by omega) (by omega) (by omega) (by omega) (by omega) (fun h4 => ?_) (fun h4 => ?_)
      · replace hP := zE_p hP h4
        refine wz_inR (rfl : i3 a4 = i3 a4) (show (0 : Int32) = i3 0 from rfl) (show (65535 : Int32) = i3 65535 from rfl) (by omega) (by omega) (by omega) (by omega) (by omega) (by omega) (fun h5 => ?_) (fun h5 => ?_)
        · replace hP := zE_p hP h5
          refine wz_i0 (i3O (n := 48) (rfl : i3 a1 = i3 a1) (by omega) (by omega) (by omega)) ?_
          have r6 := zH_k hZ 44 0 a1 10 (lo := 0) (hi := 4) (by decide) rfl
          refine wz_br (i3NE (zm_rd (Z := Z) (ν := ν) (k := 44) (show ((0 : Nat) : Int) = 0 from rfl) (i3I (y := a1) (rfl : i3 a1 = i3 a1) (by omega) (by omega) (by omega)) (show ((10 : Nat) : Int) = 10 from rfl)) (show (0 : Int32) = i3 0 from rfl) (by omega) (by omega) (by omega) (by omega)) (fun h7 => ?_) (fun h7 => ?_)
          · replace hP := zE_p hP h7
            refine wz_inT_n (show (0 : Int32) = i3 0 from rfl) (by omega) (by omega) (by omega) ?_
            exact zlGe (E := 14) hP ⟨(zbw (a := 0) (c := 1) hZ (Nat.le_of_ble_eq_true rfl)), zC_r, zU_r, zG_w (zG_k rfl) (Nat.le_of_ble_eq_true rfl) (Nat.le_of_ble_eq_true rfl)⟩
          · replace hP := zE_n hP h7
            refine wz_i0 (i3O (n := 48) (rfl : i3 a1 = i3 a1) (by omega) (by omega) (by omega)) ?_
            have r9 := zH_k hZ 44 0 a1 4 (lo := 0) (hi := 40) (by decide) rfl
            refine wz_br (i3L (zm_rd (Z := Z) (ν := ν) (k := 44) (show ((0 : Nat) : Int) = 0 from rfl) (i3I (y := a1) (rfl : i3 a1 = i3 a1) (by omega) (by omega) (by omega)) (show ((4 : Nat) : Int) = 4 from rfl)) (rfl : i3 a2 = i3 a2) (by omega) (by omega) (by omega) (by omega)) (fun h10 => ?_) (fun h10 => ?_)
            · replace hP := zE_p hP h10
              refine wz_inT_n (show (0 : Int32) = i3 0 from rfl) (by omega) (by omega) (by omega) ?_
              exact zlGe (E := 14) hP ⟨(zbw (a := 0) (c := 1) hZ (Nat.le_of_ble_eq_true rfl)), zC_r, zU_r, zG_w (zG_k rfl) (Nat.le_of_ble_eq_true rfl) (Nat.le_of_ble_eq_true rfl)⟩
            · replace hP := zE_n hP h10
              refine wz_inT_y (show (1 : Int32) = i3 1 from rfl) (by omega) (by omega) (by omega) ?_
              refine dc_J (zcons rfl (zcons (zvi (show (3 : Int32) = i3 3 from rfl)) (zcons (zvi (rfl : i3 a1 = i3 a1)) (zcons (zvi (rfl : i3 a2 = i3 a2)) (zcons (zvi (rfl : i3 a3 = i3 a3)) (zcons (zvi (rfl : i3 a4 = i3 a4)) (zcons (zvi (show (0 : Int32) = i3 0 from rfl)) (zcons (zvi (show (0 : Int32) = i3 0 from rfl)) rfl)))))))) (dg (hZ).1 (by omega) (by omega) (by omega) (by omega) (by omega) (by omega) (by omega) ?_)
              have hZ13I := zH_dd hZ (a1 := 3) (a2 := a1) (a3 := a2) (a4 := a3) (a5 := a4) (a6 := 0) (a7 := 0) (by omega) (by omega) (by omega) (by omega) (by omega) (by omega) (by omega)
              have kZ13 : zC [3, 12, 13, 14, 40, 41, 42, 43, 44, 45, 46, 47, 48, 49, 50, 51, 52, 53, 54, 61, 68, 1099, 1100, 1101, 1102, 1103, 1104, 1105, 1106, 1107, 1108, 1109, 1110, 1111, 1112, 1113, 1114, 1115, 1116] Z (zdd Z 3 a1 a2 a3 a4 0 0) := zC_k zdd_K (by decide) (by decide)
              have hZ13A : (zdd Z 3 a1 a2 a3 a4 0 0) 68 0 0 0 = 3 ∧ (zdd Z 3 a1 a2 a3 a4 0 0) 68 0 0 1 = a1 ∧ (zdd Z 3 a1 a2 a3 a4 0 0) 68 0 0 2 = a2 ∧ (zdd Z 3 a1 a2 a3 a4 0 0) 68 0 0 3 = a3 ∧ (zdd Z 3 a1 a2 a3 a4 0 0) 68 0 0 4 = a4 ∧ (zdd Z 3 a1 a2 a3 a4 0 0) 68 0 0 5 = 0 ∧ (zdd Z 3 a1 a2 a3 a4 0 0) 68 0 0 6 = 0 := ⟨zdd_68, zdd_68, zdd_68, zdd_68, zdd_68, zdd_68, zdd_68⟩
              obtain ⟨Z13, hZ13⟩ := zx (zdd Z 3 a1 a2 a3 a4 0 0)
              have dZ13 : ∀ {k : Nat} {i j : Int}, zhall k = true → ¬ (k = 11 ∧ (j = 15 ∨ j = 16)) → Z13 k 0 i j = Z k 0 i j := fun hk hj => by rw [hZ13]; exact zdd_h (hZ).1 hk hj
              have jZ13 : zU [0, 2, 3, 4, 5, 6, 7, 8, 9] Z (zdd Z 3 a1 a2 a3 a4 0 0) := zU_dd (hZ).1
              rw [← hZ13] at hZ13I kZ13 jZ13 hZ13A ⊢
              have hZ13U : zU [0, 2, 3, 4, 5, 6, 7, 8, 9] Z Z13 := zU_t zU_r jZ13 (zU_b1 (List.Mem.head _) (zU_b1 (List.Mem.tail _ (List.Mem.head _)) (zU_b1 (List.Mem.tail _ (List.Mem.tail _ (List.Mem.head _))) (zU_b1 (List.Mem.tail _ (List.Mem.tail _ (List.Mem.tail _ (List.Mem.head _)))) (zU_b1 (List.Mem.tail _ (List.Mem.tail _ (List.Mem.tail _ (List.Mem.tail _ (List.Mem.head _))))) (zU_b1 (List.Mem.tail _ (List.Mem.tail _ (List.Mem.tail _ (List.Mem.tail _ (List.Mem.tail _ (List.Mem.head _)))))) (zU_b1 (List.Mem.tail _ (List.Mem.tail _ (List.Mem.tail _ (List.Mem.tail _ (List.Mem.tail _ (List.Mem.tail _ (List.Mem.head _))))))) (zU_b1 (List.Mem.tail _ (List.Mem.tail _ (List.Mem.tail _ (List.Mem.tail _ (List.Mem.tail _ (List.Mem.tail _ (List.Mem.tail _ (List.Mem.head _)))))))) (zU_b1 (List.Mem.tail _ (List.Mem.tail _ (List.Mem.tail _ (List.Mem.tail _ (List.Mem.tail _ (List.Mem.tail _ (List.Mem.tail _ (List.Mem.tail _ (List.Mem.head _))))))))) zU_b0)))))))))
              replace hP := zl_e hP hZ13
              have hZ13K : zC [3, 12, 13, 14, 40, 41, 42, 43, 44, 45, 46, 47, 48, 49, 50, 51, 52, 53, 54, 61, 68, 1099, 1100, 1101, 1102, 1103, 1104, 1105, 1106, 1107, 1108, 1109, 1110, 1111, 1112, 1113, 1114, 1115, 1116] Z Z13 := zC_t zC_r kZ13 (by decide)
              clear kZ13 hZ13
              refine fw_121 _ _ _ _ ?_
              refine wz_i1 rfl ?_
              refine wz_i0 (i3O (n := 7) (show (0 : Int32) = i3 0 from rfl) (by omega) (by omega) (by omega)) ?_
              refine wz_i0 (Eq.trans (i3To (Eq.trans (zm_rd (Z := Z13) (ν := ν) (k := 68) (show ((0 : Nat) : Int) = 0 from rfl) (show ((0 : Nat) : Int) = 0 from rfl) (show ((0 : Nat) : Int) = 0 from rfl)) (congrArg i3 ((hZ13A.1)))) (by omega) (by omega)) (decide_eq_false (by omega))) ?_
              refine wz_i0 (Eq.trans (i3T (Eq.trans (zm_rd (Z := Z13) (ν := ν) (k := 68) (show ((0 : Nat) : Int) = 0 from rfl) (show ((0 : Nat) : Int) = 0 from rfl) (show ((0 : Nat) : Int) = 0 from rfl)) (congrArg i3 ((hZ13A.1)))) (by omega) (by omega)) (decide_eq_false (by omega))) ?_
              refine wz_i0 (Eq.trans (i3T (Eq.trans (zm_rd (Z := Z13) (ν := ν) (k := 68) (show ((0 : Nat) : Int) = 0 from rfl) (show ((0 : Nat) : Int) = 0 from rfl) (show ((0 : Nat) : Int) = 0 from rfl)) (congrArg i3 ((hZ13A.1)))) (by omega) (by omega)) (decide_eq_false (by omega))) ?_
              refine wz_i0 (Eq.trans (i3T (Eq.trans (zm_rd (Z := Z13) (ν := ν) (k := 68) (show ((0 : Nat) : Int) = 0 from rfl) (show ((0 : Nat) : Int) = 0 from rfl) (show ((0 : Nat) : Int) = 0 from rfl)) (congrArg i3 ((hZ13A.1)))) (by omega) (by omega)) (decide_eq_false (by omega))) ?_
              refine wz_i1 (Eq.trans (i3T (Eq.trans (zm_rd (Z := Z13) (ν := ν) (k := 68) (show ((0 : Nat) : Int) = 0 from rfl) (show ((0 : Nat) : Int) = 0 from rfl) (show ((0 : Nat) : Int) = 0 from rfl)) (congrArg i3 ((hZ13A.1)))) (by omega) (by omega)) (decide_eq_true (by omega))) ?_
              refine wz_i1 rfl ?_
              refine wz_i0 (i3O (n := 7) (show (1 : Int32) = i3 1 from rfl) (by omega) (by omega) (by omega)) ?_
              refine wz_i1 rfl ?_
              refine wz_i0 (i3O (n := 7) (show (2 : Int32) = i3 2 from rfl) (by omega) (by omega) (by omega)) ?_
              refine wz_i1 rfl ?_
              refine wz_i0 (i3O (n := 7) (show (3 : Int32) = i3 3 from rfl) (by omega) (by omega) (by omega)) ?_
              refine wz_i1 rfl ?_
              refine wz_i0 (i3O (n := 7) (show (4 : Int32) = i3 4 from rfl) (by omega) (by omega) (by omega)) ?_
              obtain ⟨Z14, v15, hv15, c9, hZ14I, kZ14, jZ14, lv15, uv15⟩ := sp_95 (ν := ν) hZ13I 0 (a1 := a1) (by omega) (a2 := a2) (by omega) (a3 := a3) (by omega) (a4 := a4) (by omega) (zbh (c := 0) (k := 1) hM (Nat.le_of_ble_eq_true rfl))
              have hZ14U : zU [0, 2, 3, 4, 5, 6, 7, 8, 9] Z Z14 := zU_t hZ13U jZ14 (zU_b1 (List.Mem.head _) zU_b0)
              have hZ14K : zC [3, 12, 13, 14, 40, 41, 42, 43, 44, 45, 46, 47, 48, 49, 50, 51, 52, 53, 54, 61, 68, 1099, 1100, 1101, 1102, 1103, 1104, 1105, 1106, 1107, 1108, 1109, 1110, 1111, 1112, 1113, 1114, 1115, 1116] Z Z14 := zC_t hZ13K kZ14 (by decide)
              replace hP := zl_e2 hP hv15
              refine wz_cI_of (zas (zcons rfl (zcons (zvi (Eq.trans (zm_rd (Z := Z13) (ν := ν) (k := 68) (show ((0 : Nat) : Int) = 0 from rfl) (show ((0 : Nat) : Int) = 0 from rfl) (show ((1 : Nat) : Int) = 1 from rfl)) (congrArg i3 ((hZ13A.2.1))))) (zcons (zvi (Eq.trans (zm_rd (Z := Z13) (ν := ν) (k := 68) (show ((0 : Nat) : Int) = 0 from rfl) (show ((0 : Nat) : Int) = 0 from rfl) (show ((2 : Nat) : Int) = 2 from rfl)) (congrArg i3 ((hZ13A.2.2.1))))) (zcons (zvi (Eq.trans (zm_rd (Z := Z13) (ν := ν) (k := 68) (show ((0 : Nat) : Int) = 0 from rfl) (show ((0 : Nat) : Int) = 0 from rfl) (show ((3 : Nat) : Int) = 3 from rfl)) (congrArg i3 ((hZ13A.2.2.2.1))))) (zcons (zvi (Eq.trans (zm_rd (Z := Z13) (ν := ν) (k := 68) (show ((0 : Nat) : Int) = 0 from rfl) (show ((0 : Nat) : Int) = 0 from rfl) (show ((4 : Nat) : Int) = 4 from rfl)) (congrArg i3 ((hZ13A.2.2.2.2.1))))) rfl))))) c9) ?_
              clear c9 hv15
              exact zlG hP (rfl : i3 v15 = i3 v15) ⟨hZ14I, hZ14K, hZ14U, zG_w zG_r (Nat.le_of_ble_eq_true rfl) (Nat.le_of_ble_eq_true rfl)⟩
        · replace hP := zE_n hP h5
          exact zlGe (E := 12) hP ⟨(zbw (a := 0) (c := 1) hZ (Nat.le_of_ble_eq_true rfl)), zC_r, zU_r, zG_w (zG_k rfl) (Nat.le_of_ble_eq_true rfl) (Nat.le_of_ble_eq_true rfl)⟩
      · replace hP := zE_n hP h4
        exact zlGe (E := 12) hP ⟨(zbw (a := 0) (c := 1) hZ (Nat.le_of_ble_eq_true rfl)), zC_r, zU_r, zG_w (zG_k rfl) (Nat.le_of_ble_eq_true rfl) (Nat.le_of_ble_eq_true rfl)⟩
    · replace hP := zE_n hP h3
      exact zlGe (E := 12) hP ⟨(zbw (a := 0) (c := 1) hZ (Nat.le_of_ble_eq_true rfl)), zC_r, zU_r, zG_w (zG_k rfl) (Nat.le_of_ble_eq_true rfl) (Nat.le_of_ble_eq_true rfl)⟩
  · replace hP := zE_n hP h2
    exact zlGe (E := 23) hP ⟨(zbw (a := 0) (c := 1) hZ (Nat.le_of_ble_eq_true rfl)), zC_r, zU_r, zG_w (zG_k rfl) (Nat.le_of_ble_eq_true rfl) (Nat.le_of_ble_eq_true rfl)⟩
/- yX11_grower -/
def zx_204 (Z : qz_Z) (a1 : Int) (a2 : Int) : qz_Z × Int × Int := (if 0 ≤ a1 ∧ a1 ≤ 25 then (if 0 ≤ a2 ∧ a2 ≤ 9 then (if 6 ≤ (Z 11 0 0 1) then (Z, 0, 15) else (zlet (zdd Z 1 a1 a2 0 0 0 0) (fun Z7 => (zlet (zu Z7 42 0 (Z7 11 0 0 1) 0 a1) (fun Z10 => (zlet (zu Z10 42 0 (Z7 11 0 0 1) 1 a2) (fun Z11 => (zlet (zu Z11 11 0 0 1 ((Z11 11 0 0 1) + 1)) (fun Z14 => (Z14, (Z11 11 0 0 1), 0)))))))))) else (Z, 0, 13)) else (Z, 0, 13))
theorem sx_204 {M : Nat} {Z : qz_Z} {ν : qz_N} (hZ : zH ((none, M) : zSM) Z) (hM : ((none, M) : zSM).2 + 0 ≤ 1000000000) {a1 : Int} (ga1 : -2147483648 ≤ a1 ∧ a1 ≤ 2147483647) {a2 : Int} (ga2 : -2147483648 ≤ a2 ∧ a2 ≤ 2147483647) : ∃ (Z1 : qz_Z) (ν1 : qz_N) (v E : Int), (Z1, v, E) = zx_204 Z a1 a2 ∧ qf_204 [.inr (.inr (some (0, 0, 0))), .inl (i3 a1), .inl (i3 a2)] (zm Z ν) = some (zm Z1 ν1, zoX v E) ∧ (fun Z1 ν1 => zH ((none, M) : zSM) Z1 ∧ zC [3, 12, 13, 14, 40, 41, 42, 43, 44, 45, 46, 47, 48, 49, 50, 51, 52, 53, 54, 61, 68, 1099, 1100, 1101, 1102, 1103, 1104, 1105, 1106, 1107, 1108, 1109, 1110, 1111, 1112, 1113, 1114, 1115, 1116] Z Z1 ∧ zU [0, 2, 3, 4, 5, 6, 7, 8, 9] Z Z1 ∧ zG 1 6 ν ν1) Z1 ν1 := by
  obtain ⟨P, hP⟩ := zx (zx_204 Z a1 a2)
  refine zc_G (Q := fun Z1 ν1 => zH ((none, M) : zSM) Z1 ∧ zC [3, 12, 13, 14, 40, 41, 42, 43, 44, 45, 46, 47, 48, 49, 50, 51, 52, 53, 54, 61, 68, 1099, 1100, 1101, 1102, 1103, 1104, 1105, 1106, 1107, 1108, 1109, 1110, 1111, 1112, 1113, 1114, 1115, 1116] Z Z1 ∧ zU [0, 2, 3, 4, 5, 6, 7, 8, 9] Z Z1 ∧ zG 1 6 ν ν1) hP (fw_204 (i3 a1) (i3 a2) _ _ ?_)
  replace hP : zE P (zx_204 Z a1 a2) := hP
  unfold zx_204 at hP
  refine wz_inR (rfl : i3 a1 = i3 a1) (show (0 : Int32) = i3 0 from rfl) (show (25 : Int32) = i3 25 from rfl) (by omega) (by omega) (by omega) (by omega) (by omega) (by omega) (fun h1 => ?_) (fun h1 => ?_)
  · replace hP := zE_p hP h1
    refine wz_inR (rfl : i3 a2 = i3 a2) (show (0 : Int32) = i3 0 from rfl) (show (9 : Int32) = i3 9 from rfl) (by omega) (by omega) (by omega) (by omega) (by omega) (by omega) (fun h2 => ?_) (fun h2 => ?_)
    · replace hP := zE_p hP h2
      have r3 := zH_k hZ 11 0 0 1 (lo := 0) (hi := 6) (by decide) rfl
      refine wz_br (i3Le (show (6 : Int32) = i3 6 from rfl) (zm_rd (Z := Z) (ν := ν) (k := 11) (show ((0 : Nat) : Int) = 0 from rfl) (show ((0 : Nat) : Int) = 0 from rfl) (show ((1 : Nat) : Int) = 1 from rfl)) (by omega) (by omega) (by omega) (by omega)) (fun h4 => ?_) (fun h4 => ?_)
      · replace hP := zE_p hP h4
        refine wz_inT_n (show (0 : Int32) = i3 0 from rfl) (by omega) (by omega) (by omega) ?_
        exact zlGe (E := 14) hP ⟨hZ, zC_r, zU_r, zG_w (zG_k rfl) (Nat.le_of_ble_eq_true rfl) (Nat.le_of_ble_eq_true rfl)⟩
      · replace hP := zE_n hP h4
        refine wz_inT_y (show (1 : Int32) = i3 1 from rfl) (by omega) (by omega) (by omega) ?_
        refine dc_J (zcons rfl (zcons (zvi (show (1 : Int32) = i3 1 from rfl)) (zcons (zvi (rfl : i3 a1 = i3 a1)) (zcons (zvi (rfl : i3 a2 = i3 a2)) (zcons (zvi (show (0 : Int32) = i3 0 from rfl)) (zcons (zvi (show (0 : Int32) = i3 0 from rfl)) (zcons (zvi (show (0 : Int32) = i3 0 from rfl)) (zcons (zvi (show (0 : Int32) = i3 0 from rfl)) rfl)))))))) (dg (hZ).1 (by omega) (by omega) (by omega) (by omega) (by omega) (by omega) (by omega) ?_)
        have hZ7I := zH_dd hZ (a1 := 1) (a2 := a1) (a3 := a2) (a4 := 0) (a5 := 0) (a6 := 0) (a7 := 0) (by omega) (by omega) (by omega) (by omega) (by omega) (by omega) (by omega)
        have kZ7 : zC [3, 12, 13, 14, 40, 41, 42, 43, 44, 45, 46, 47, 48, 49, 50, 51, 52, 53, 54, 61, 68, 1099, 1100, 1101, 1102, 1103, 1104, 1105, 1106, 1107, 1108, 1109, 1110, 1111, 1112, 1113, 1114, 1115, 1116] Z (zdd Z 1 a1 a2 0 0 0 0) := zC_k zdd_K (by decide) (by decide)
        have hZ7A : (zdd Z 1 a1 a2 0 0 0 0) 68 0 0 0 = 1 ∧ (zdd Z 1 a1 a2 0 0 0 0) 68 0 0 1 = a1 ∧ (zdd Z 1 a1 a2 0 0 0 0) 68 0 0 2 = a2 ∧ (zdd Z 1 a1 a2 0 0 0 0) 68 0 0 3 = 0 ∧ (zdd Z 1 a1 a2 0 0 0 0) 68 0 0 4 = 0 ∧ (zdd Z 1 a1 a2 0 0 0 0) 68 0 0 5 = 0 ∧ (zdd Z 1 a1 a2 0 0 0 0) 68 0 0 6 = 0 := ⟨zdd_68, zdd_68, zdd_68, zdd_68, zdd_68, zdd_68, zdd_68⟩
        obtain ⟨Z7, hZ7⟩ := zx (zdd Z 1 a1 a2 0 0 0 0)
        have dZ7 : ∀ {k : Nat} {i j : Int}, zhall k = true → ¬ (k = 11 ∧ (j = 15 ∨ j = 16)) → Z7 k 0 i j = Z k 0 i j := fun hk hj => by rw [hZ7]; exact zdd_h (hZ).1 hk hj
        have jZ7 : zU [0, 2, 3, 4, 5, 6, 7, 8, 9] Z (zdd Z 1 a1 a2 0 0 0 0) := zU_dd (hZ).1
        rw [← hZ7] at hZ7I kZ7 jZ7 hZ7A ⊢
        have hZ7U : zU [0, 2, 3, 4, 5, 6, 7, 8, 9] Z Z7 := zU_t zU_r jZ7 (zU_b1 (List.Mem.head _) (zU_b1 (List.Mem.tail _ (List.Mem.head _)) (zU_b1 (List.Mem.tail _ (List.Mem.tail _ (List.Mem.head _))) (zU_b1 (List.Mem.tail _ (List.Mem.tail _ (List.Mem.tail _ (List.Mem.head _)))) (zU_b1 (List.Mem.tail _ (List.Mem.tail _ (List.Mem.tail _ (List.Mem.tail _ (List.Mem.head _))))) (zU_b1 (List.Mem.tail _ (List.Mem.tail _ (List.Mem.tail _ (List.Mem.tail _ (List.Mem.tail _ (List.Mem.head _)))))) (zU_b1 (List.Mem.tail _ (List.Mem.tail _ (List.Mem.tail _ (List.Mem.tail _ (List.Mem.tail _ (List.Mem.tail _ (List.Mem.head _))))))) (zU_b1 (List.Mem.tail _ (List.Mem.tail _ (List.Mem.tail _ (List.Mem.tail _ (List.Mem.tail _ (List.Mem.tail _ (List.Mem.tail _ (List.Mem.head _)))))))) (zU_b1 (List.Mem.tail _ (List.Mem.tail _ (List.Mem.tail _ (List.Mem.tail _ (List.Mem.tail _ (List.Mem.tail _ (List.Mem.tail _ (List.Mem.tail _ (List.Mem.head _))))))))) zU_b0)))))))))
        replace hP := zl_e hP hZ7
        have hZ7K : zC [3, 12, 13, 14, 40, 41, 42, 43, 44, 45, 46, 47, 48, 49, 50, 51, 52, 53, 54, 61, 68, 1099, 1100, 1101, 1102, 1103, 1104, 1105, 1106, 1107, 1108, 1109, 1110, 1111, 1112, 1113, 1114, 1115, 1116] Z Z7 := zC_t zC_r kZ7 (by decide)
        clear kZ7 hZ7
        refine fw_121 _ _ _ _ ?_
        refine wz_i1 rfl ?_
        refine wz_i0 (i3O (n := 7) (show (0 : Int32) = i3 0 from rfl) (by omega) (by omega) (by omega)) ?_
        refine wz_i0 (Eq.trans (i3To (Eq.trans (zm_rd (Z := Z7) (ν := ν) (k := 68) (show ((0 : Nat) : Int) = 0 from rfl) (show ((0 : Nat) : Int) = 0 from rfl) (show ((0 : Nat) : Int) = 0 from rfl)) (congrArg i3 ((hZ7A.1)))) (by omega) (by omega)) (decide_eq_false (by omega))) ?_
        refine wz_i0 (Eq.trans (i3T (Eq.trans (zm_rd (Z := Z7) (ν := ν) (k := 68) (show ((0 : Nat) : Int) = 0 from rfl) (show ((0 : Nat) : Int) = 0 from rfl) (show ((0 : Nat) : Int) = 0 from rfl)) (congrArg i3 ((hZ7A.1)))) (by omega) (by omega)) (decide_eq_false (by omega))) ?_
        refine wz_i1 (Eq.trans (i3T (Eq.trans (zm_rd (Z := Z7) (ν := ν) (k := 68) (show ((0 : Nat) : Int) = 0 from rfl) (show ((0 : Nat) : Int) = 0 from rfl) (show ((0 : Nat) : Int) = 0 from rfl)) (congrArg i3 ((hZ7A.1)))) (by omega) (by omega)) (decide_eq_true (by omega))) ?_
        refine wz_i1 rfl ?_
        refine wz_i0 (i3O (n := 7) (show (1 : Int32) = i3 1 from rfl) (by omega) (by omega) (by omega)) ?_
        refine wz_i1 rfl ?_
        refine wz_i0 (i3O (n := 7) (show (2 : Int32) = i3 2 from rfl) (by omega) (by omega) (by omega)) ?_
        have r8 := zH_k hZ7I 11 0 0 1 (lo := 0) (hi := 6) (by decide) rfl
        have q9 := dZ7 (k := 11) (i := 0) (j := 1) (by decide) (by omega)
        refine wz_i0 (i3O (n := 6) (zm_rd (Z := Z7) (ν := ν) (k := 11) (show ((0 : Nat) : Int) = 0 from rfl) (show ((0 : Nat) : Int) = 0 from rfl) (show ((1 : Nat) : Int) = 1 from rfl)) (by omega) (by omega) (by omega)) ?_
        obtain ⟨Z10, hZ10⟩ := zx (zu Z7 42 0 (Z7 11 0 0 1) 0 a1)
        replace hP := zl_e hP hZ10
        have hZ10I := zH_u hZ7I hZ10 (lo := 0) (hi := 25) (by decide) rfl (by omega) ⟨by decide, by decide⟩ (Or.inl (by decide)) rfl
        have hZ10U : zU [0, 2, 3, 4, 5, 6, 7, 8, 9] Z Z10 := zU_u hZ7U hZ10 (Or.inr (List.Mem.head _))
        have hZ10K : zC [3, 12, 13, 14, 40, 41, 42, 43, 44, 45, 46, 47, 48, 49, 50, 51, 52, 53, 54, 61, 68, 1099, 1100, 1101, 1102, 1103, 1104, 1105, 1106, 1107, 1108, 1109, 1110, 1111, 1112, 1113, 1114, 1115, 1116] Z Z10 := zC_u hZ7K hZ10 (by decide)
        intro μ9 e9
        replace e9 := e9.trans (zm_wI (Z := Z7) (ν := ν) hZ10 (show ((0 : Nat) : Int) = 0 from rfl) (i3I (y := (Z7 11 0 0 1)) (zm_rd (Z := Z7) (ν := ν) (k := 11) (show ((0 : Nat) : Int) = 0 from rfl) (show ((0 : Nat) : Int) = 0 from rfl) (show ((1 : Nat) : Int) = 1 from rfl)) (by omega) (by omega) (by omega)) (show ((0 : Nat) : Int) = 0 from rfl) (Eq.trans (zm_rd (Z := Z7) (ν := ν) (k := 68) (show ((0 : Nat) : Int) = 0 from rfl) (show ((0 : Nat) : Int) = 0 from rfl) (show ((1 : Nat) : Int) = 1 from rfl)) (congrArg i3 ((hZ7A.2.1)))))
        subst e9
        obtain ⟨Z11, hZ11⟩ := zx (zu Z10 42 0 (Z7 11 0 0 1) 1 a2)
        replace hP := zl_e hP hZ11
        have hZ11I := zH_u hZ10I hZ11 (lo := 0) (hi := 9) (by decide) rfl (by omega) ⟨by decide, by decide⟩ (Or.inl (by decide)) rfl
        have hZ11U : zU [0, 2, 3, 4, 5, 6, 7, 8, 9] Z Z11 := zU_u hZ10U hZ11 (Or.inr (List.Mem.head _))
        have hZ11K : zC [3, 12, 13, 14, 40, 41, 42, 43, 44, 45, 46, 47, 48, 49, 50, 51, 52, 53, 54, 61, 68, 1099, 1100, 1101, 1102, 1103, 1104, 1105, 1106, 1107, 1108, 1109, 1110, 1111, 1112, 1113, 1114, 1115, 1116] Z Z11 := zC_u hZ10K hZ11 (by decide)
        intro μ9 e9
        replace e9 := e9.trans (zm_wI (Z := Z10) (ν := ν) hZ11 (show ((0 : Nat) : Int) = 0 from rfl) (i3I (y := (Z7 11 0 0 1)) (zm_rd (Z := Z7) (ν := ν) (k := 11) (show ((0 : Nat) : Int) = 0 from rfl) (show ((0 : Nat) : Int) = 0 from rfl) (show ((1 : Nat) : Int) = 1 from rfl)) (by omega) (by omega) (by omega)) (show ((1 : Nat) : Int) = 1 from rfl) (Eq.trans (zm_rd (Z := Z7) (ν := ν) (k := 68) (show ((0 : Nat) : Int) = 0 from rfl) (show ((0 : Nat) : Int) = 0 from rfl) (show ((2 : Nat) : Int) = 2 from rfl)) (congrArg i3 ((hZ7A.2.2.1)))))
        subst e9
        have r12 := zH_k hZ11I 11 0 0 1 (lo := 0) (hi := 6) (by decide) rfl
        have q13 := (zu_ne (k' := 11) (b' := 0) (i' := 0) (j' := 1) hZ11 (fun q => absurd q.1 (by decide))).trans (zu_ne (k' := 11) (b' := 0) (i' := 0) (j' := 1) hZ10 (fun q => absurd q.1 (by decide)))
        obtain ⟨Z14, hZ14⟩ := zx (zu Z11 11 0 0 1 ((Z11 11 0 0 1) + 1))
        replace hP := zl_e hP hZ14
        have hZ14I := zH_u hZ11I hZ14 (lo := 0) (hi := 6) (by decide) rfl (by omega) ⟨by decide, by decide⟩ (Or.inl (by decide)) rfl
        have hZ14U : zU [0, 2, 3, 4, 5, 6, 7, 8, 9] Z Z14 := zU_u hZ11U hZ14 (Or.inr (List.Mem.head _))
        have hZ14K : zC [3, 12, 13, 14, 40, 41, 42, 43, 44, 45, 46, 47, 48, 49, 50, 51, 52, 53, 54, 61, 68, 1099, 1100, 1101, 1102, 1103, 1104, 1105, 1106, 1107, 1108, 1109, 1110, 1111, 1112, 1113, 1114, 1115, 1116] Z Z14 := zC_u hZ11K hZ14 (by decide)
        intro μ9 e9
        replace e9 := e9.trans (zm_wI (Z := Z11) (ν := ν) hZ14 (show ((0 : Nat) : Int) = 0 from rfl) (show ((0 : Nat) : Int) = 0 from rfl) (show ((1 : Nat) : Int) = 1 from rfl) (i3A (zm_rd (Z := Z11) (ν := ν) (k := 11) (show ((0 : Nat) : Int) = 0 from rfl) (show ((0 : Nat) : Int) = 0 from rfl) (show ((1 : Nat) : Int) = 1 from rfl)) (show (1 : Int32) = i3 1 from rfl)))
        subst e9
        exact zlG hP (zm_rd (Z := Z11) (ν := ν) (k := 11) (show ((0 : Nat) : Int) = 0 from rfl) (show ((0 : Nat) : Int) = 0 from rfl) (show ((1 : Nat) : Int) = 1 from rfl)) ⟨hZ14I, hZ14K, hZ14U, zG_w zG_r (Nat.le_of_ble_eq_true rfl) (Nat.le_of_ble_eq_true rfl)⟩
    · replace hP := zE_n hP h2
      exact zlGe (E := 12) hP ⟨hZ, zC_r, zU_r, zG_w (zG_k rfl) (Nat.le_of_ble_eq_true rfl) (Nat.le_of_ble_eq_true rfl)⟩
  · replace hP := zE_n hP h1
    exact zlGe (E := 12) hP ⟨hZ, zC_r, zU_r, zG_w (zG_k rfl) (Nat.le_of_ble_eq_true rfl) (Nat.le_of_ble_eq_true rfl)⟩
/- yX5_soldOf -/
def zl_103_1 (x0b : Int) (x1 : Int) : Nat → qz_Z → Int → Int → Int × Int
  | 0, Z, x2, x3 => (x2, x3)
  | m + 1, Z, x2, x3 => (if (Z 11 x0b 0 6) ≤ x3 then (x2, x3) else (if (Z 47 x0b x3 0) ≠ x1 then zl_103_1 x0b x1 m Z x2 (x3 + 1) else zl_103_1 x0b x1 m Z (w3 (x2 + (Z 47 x0b x3 3))) (x3 + 1)))
theorem sl_103_1 {s : zSM} {Z : qz_Z} {ν : qz_N} (hZ : zH s Z) (hM : s.2 + 0 ≤ 1000000000) (x0b : Nat) {x1 : Int} (gx1 : 0 ≤ x1 ∧ x1 ≤ 47) {x2 : Int} (gx2 : -2147483648 ≤ x2 ∧ x2 ≤ 2147483647) {x3 : Int} (gx3 : 0 ≤ x3 ∧ x3 ≤ 60) {k : wz_K} {R : wz_R} {L : qz_L} (hL : qz_fg [true, true, true, true] L = [some (.inr (.inr (some (10, x0b, 0)))), some (.inl (i3 x1)), some (.inl (i3 x2)), some (.inl (i3 x3))]) {T : Int × Int} (hP : zE T (zl_103_1 x0b x1 ((60 - x3).toNat + 1) Z x2 x3)) (hk : ∀ (L9 : qz_L) (yx2 yx3 : Int), qz_fg [false, false, true, false] L9 = [none, none, some (.inl (i3 yx2)), none] → (-2147483648 ≤ yx2 ∧ yx2 ≤ 2147483647) → (0 ≤ yx3 ∧ yx3 ≤ 60) → zE T ((yx2, yx3)) → k 0 (L9, [], zm Z ν)) : wz_loop qb_103_1 65536 k R (L, [], zm Z ν) := by
  refine wz_lp sb_103_1 (fun m x => ∃ x2 : Int, ∃ x3 : Int, qz_fg [true, true, true, true] x.1 = [some (.inr (.inr (some (10, x0b, 0)))), some (.inl (i3 x1)), some (.inl (i3 x2)), some (.inl (i3 x3))] ∧ x.2 = ([], zm Z ν) ∧ m = (60 - x3).toNat ∧ (-2147483648 ≤ x2 ∧ x2 ≤ 2147483647) ∧ (0 ≤ x3 ∧ x3 ≤ 60) ∧ zE T (zl_103_1 x0b x1 (m + 1) Z x2 x3)) ?_ 65536 ((60 - x3).toNat) _ (by omega) ⟨x2, x3, hL, rfl, rfl, gx2, gx3, hP⟩
  clear hP gx2 gx3 hL
  clear x2 x3
  rintro m ⟨L, st, μ⟩ ⟨x2, x3, hL, hx, hm, gx2, gx3, hP⟩
  cases hx
  refine fb_103_1 x0b (i3 x1) (i3 x2) (i3 x3) _ _ _ _ hL ?_
  have r1 := zH_k hZ 11 x0b 0 6 (lo := 0) (hi := 60) (by decide) rfl
  refine wz_br (i3Le (zm_rd (Z := Z) (ν := ν) (k := 11) (rfl : ((x0b : Nat) : Int) = x0b) (show ((0 : Nat) : Int) = 0 from rfl) (show ((6 : Nat) : Int) = 6 from rfl)) (rfl : i3 x3 = i3 x3) (by omega) (by omega) (by omega) (by omega)) (fun h2 => ?_) (fun h2 => ?_)
  · replace hP := zE_p hP h2
    exact hk _ _ _ (zconso rfl (zconso rfl (zconso (zvo (rfl : i3 x2 = i3 x2)) (zconso rfl rfl))))  (by omega) (by omega)  hP
  · replace hP := zE_n hP h2
    refine wz_i0 (i3O (n := 60) (rfl : i3 x3 = i3 x3) (by omega) (by omega) (by omega)) ?_
    have r3 := zH_k hZ 47 x0b x3 0 (lo := 0) (hi := 47) (by decide) rfl
    refine wz_br (i3NE (zm_rd (Z := Z) (ν := ν) (k := 47) (rfl : ((x0b : Nat) : Int) = x0b) (i3I (y := x3) (rfl : i3 x3 = i3 x3) (by omega) (by omega) (by omega)) (show ((0 : Nat) : Int) = 0 from rfl)) (rfl : i3 x1 = i3 x1) (by omega) (by omega) (by omega) (by omega)) (fun h4 => ?_) (fun h4 => ?_)
    · replace hP := zE_p hP h4
      obtain ⟨m2, rfl⟩ : ∃ m2, m = m2 + 1 := ⟨m - 1, by omega⟩
      exact wz_k1 ⟨m2, by omega, x2, (x3 + 1), (zconso rfl (zconso (zvo (rfl : i3 x1 = i3 x1)) (zconso (zvo (rfl : i3 x2 = i3 x2)) (zconso (zvo (i3A (rfl : i3 x3 = i3 x3) (show (1 : Int32) = i3 1 from rfl))) rfl)))), rfl,  by omega, by omega, by omega,  hP⟩
    · replace hP := zE_n hP h4
      refine wz_i0 (i3O (n := 60) (rfl : i3 x3 = i3 x3) (by omega) (by omega) (by omega)) ?_
      have r5 := zH_k hZ 47 x0b x3 3 (lo := 0) (hi := 40) (by decide) rfl
      have r6 := w3_r (x2 + (Z 47 x0b x3 3))
      obtain ⟨m2, rfl⟩ : ∃ m2, m = m2 + 1 := ⟨m - 1, by omega⟩
      exact wz_k1 ⟨m2, by omega, (w3 (x2 + (Z 47 x0b x3 3))), (x3 + 1), (zconso rfl (zconso (zvo (rfl : i3 x1 = i3 x1)) (zconso (zvo (i3W (i3A (rfl : i3 x2 = i3 x2) (zm_rd (Z := Z) (ν := ν) (k := 47) (rfl : ((x0b : Nat) : Int) = x0b) (i3I (y := x3) (rfl : i3 x3 = i3 x3) (by omega) (by omega) (by omega)) (show ((3 : Nat) : Int) = 3 from rfl))))) (zconso (zvo (i3A (rfl : i3 x3 = i3 x3) (show (1 : Int32) = i3 1 from rfl))) rfl)))), rfl,  by omega, by omega, by omega,  hP⟩
/- yX5_soldOf -/
def zf_103 (Z : qz_Z) (a0b : Int) (a1 : Int) : Int := (zlet2 (zl_103_1 a0b a1 61 Z 0 0) (fun y1 y2 => y1))
theorem sp_103 {s : zSM} {Z : qz_Z} {ν : qz_N} (hZ : zH s Z) (a0b : Nat) {a1 : Int} (ga1 : 0 ≤ a1 ∧ a1 ≤ 47) (hM : s.2 + 0 ≤ 1000000000) : ∃ P : Int, P = zf_103 Z a0b a1 ∧ (qf_103 [.inr (.inr (some (10, a0b, 0))), .inl (i3 a1)] (zm Z ν) = some (zm Z ν, .inl (some (.inl (i3 P)))) ∧ -2147483648 ≤ P ∧ P ≤ 2147483647) := by
  obtain ⟨P, hP⟩ := zx (zf_103 Z a0b a1)
  refine zc_R (Q := fun P => -2147483648 ≤ P ∧ P ≤ 2147483647) hP (fw_103 a0b (i3 a1) _ _ ?_)
  replace hP : zE P (zf_103 Z a0b a1) := hP
  unfold zf_103 at hP
  refine sl_103_1 (ν := ν) hZ (zbh (c := 0) (k := 0) hM (Nat.le_of_ble_eq_true rfl)) a0b (x1 := a1) (by omega) (x2 := 0) (by omega) (x3 := 0) (by omega)  (zconso rfl (zconso (zvo (rfl : i3 a1 = i3 a1)) (zconso (zvo (show (0 : Int32) = i3 0 from rfl)) (zconso (zvo (show (0 : Int32) = i3 0 from rfl)) rfl)))) rfl ?_
  intro L3 y1 y2 hL3 gy1 gy2 q9
  replace hP := zl_e2 hP (Eq.symm q9)
  clear q9
  refine fc_103_2 (i3 y1) _ _ _ _ hL3 ?_
  exact zlR hP (rfl : i3 y1 = i3 y1) ⟨by omega, by omega⟩
/- yX5_tellForGrower -/
def zf_106 (Z : qz_Z) (a0b : Int) (a1 : Int) (a2 : Int) : Int := (if a2 < 2 ∨ 7 < a2 then (Z 44 a0b a1 4) else (if a2 = 2 then 1 else (if a2 = 3 then (Z 44 a0b a1 3) else (if a2 = 4 then (zlet (zf_103 Z a0b a1) (fun v7 => v7)) else (if a2 = 5 then (Z 44 a0b a1 6) else (if a2 = 6 then (if (Z 44 a0b a1 10) = 0 then 1 else (if (Z 44 a0b a1 10) ≠ 1 then 0 else 1)) else (if (Z 44 a0b a1 10) = 0 then (if (Z 44 a0b a1 9) ≠ (-1) then 0 else 1) else (if (Z 44 a0b a1 10) ≠ 1 then 0 else (if (Z 44 a0b a1 9) ≠ (-1) then 0 else 1)))))))))
theorem sp_106 {s : zSM} {Z : qz_Z} {ν : qz_N} (hZ : zH s Z) (a0b : Nat) {a1 : Int} (ga1 : 0 ≤ a1 ∧ a1 ≤ 47) {a2 : Int} (ga2 : 2 ≤ a2 ∧ a2 ≤ 8) (hM : s.2 + 0 ≤ 1000000000) : ∃ P : Int, P = zf_106 Z a0b a1 a2 ∧ (qf_106 [.inr (.inr (some (10, a0b, 0))), .inl (i3 a1), .inl (i3 a2)] (zm Z ν) = some (zm Z ν, .inl (some (.inl (i3 P)))) ∧ -2147483648 ≤ P ∧ P ≤ 2147483647) := by
  obtain ⟨P, hP⟩ := zx (zf_106 Z a0b a1 a2)
  refine zc_R (Q := fun P => -2147483648 ≤ P ∧ P ≤ 2147483647) hP (fw_106 a0b (i3 a1) (i3 a2) _ _ ?_)
  replace hP : zE P (zf_106 Z a0b a1 a2) := hP
  unfold zf_106 at hP
  refine wz_i0 (i3O (n := 48) (rfl : i3 a1 = i3 a1) (by omega) (by omega) (by omega)) ?_
  refine wz_br (i3To (rfl : i3 a2 = i3 a2) (by omega) (by omega)) (fun h1 => ?_) (fun h1 => ?_)
  · replace hP := zE_p hP h1
    have r2 := zH_k hZ 44 a0b a1 4 (lo := 0) (hi := 40) (by decide) rfl
    exact zlR hP (zm_rd (Z := Z) (ν := ν) (k := 44) (rfl : ((a0b : Nat) : Int) = a0b) (i3I (y := a1) (rfl : i3 a1 = i3 a1) (by omega) (by omega) (by omega)) (show ((4 : Nat) : Int) = 4 from rfl)) ⟨by omega, by omega⟩
  · replace hP := zE_n hP h1
    refine wz_br (i3T (rfl : i3 a2 = i3 a2) (by omega) (by omega)) (fun h3 => ?_) (fun h3 => ?_)
    · replace hP := zE_p hP h3
      exact zlR hP (show (1 : Int32) = i3 1 from rfl) ⟨by omega, by omega⟩
    · replace hP := zE_n hP h3
      refine wz_br (i3T (rfl : i3 a2 = i3 a2) (by omega) (by omega)) (fun h4 => ?_) (fun h4 => ?_)
      · replace hP := zE_p hP h4
        have r5 := zH_k hZ 44 a0b a1 3 (lo := 0) (hi := 40) (by decide) rfl
        exact zlR hP (zm_rd (Z := Z) (ν := ν) (k := 44) (rfl : ((a0b : Nat) : Int) = a0b) (i3I (y := a1) (rfl : i3 a1 = i3 a1) (by omega) (by omega) (by omega)) (show ((3 : Nat) : Int) = 3 from rfl)) ⟨by omega, by omega⟩
      · replace hP := zE_n hP h4
        refine wz_br (i3T (rfl : i3 a2 = i3 a2) (by omega) (by omega)) (fun h6 => ?_) (fun h6 => ?_)
        · replace hP := zE_p hP h6
          obtain ⟨v7, hv7, c9, lv7, uv7⟩ := sp_103 (ν := ν) hZ a0b (a1 := a1) (by omega) (zbh (c := 0) (k := 0) hM (Nat.le_of_ble_eq_true rfl))
          replace hP := zl_e hP hv7
          refine wz_cI_of (zas (zcons rfl (zcons (zvi (rfl : i3 a1 = i3 a1)) rfl)) c9) ?_
          clear c9
          exact zlR hP (rfl : i3 v7 = i3 v7) ⟨by omega, by omega⟩
        · replace hP := zE_n hP h6
          refine wz_br (i3T (rfl : i3 a2 = i3 a2) (by omega) (by omega)) (fun h8 => ?_) (fun h8 => ?_)
          · replace hP := zE_p hP h8
            have r9 := zH_f hZ 44 a0b a1 6
            exact zlR hP (zm_rd (Z := Z) (ν := ν) (k := 44) (rfl : ((a0b : Nat) : Int) = a0b) (i3I (y := a1) (rfl : i3 a1 = i3 a1) (by omega) (by omega) (by omega)) (show ((6 : Nat) : Int) = 6 from rfl)) ⟨by omega, by omega⟩
          · replace hP := zE_n hP h8
            refine wz_br (i3T (rfl : i3 a2 = i3 a2) (by omega) (by omega)) (fun h10 => ?_) (fun h10 => ?_)
            · replace hP := zE_p hP h10
              have r11 := zH_k hZ 44 a0b a1 10 (lo := 0) (hi := 4) (by decide) rfl
              refine wz_br (i3E (zm_rd (Z := Z) (ν := ν) (k := 44) (rfl : ((a0b : Nat) : Int) = a0b) (i3I (y := a1) (rfl : i3 a1 = i3 a1) (by omega) (by omega) (by omega)) (show ((10 : Nat) : Int) = 10 from rfl)) (show (0 : Int32) = i3 0 from rfl) (by omega) (by omega) (by omega) (by omega)) (fun h12 => ?_) (fun h12 => ?_)
              · replace hP := zE_p hP h12
                exact zlR hP (show (1 : Int32) = i3 1 from rfl) ⟨by omega, by omega⟩
              · replace hP := zE_n hP h12
                refine wz_br (i3NE (zm_rd (Z := Z) (ν := ν) (k := 44) (rfl : ((a0b : Nat) : Int) = a0b) (i3I (y := a1) (rfl : i3 a1 = i3 a1) (by omega) (by omega) (by omega)) (show ((10 : Nat) : Int) = 10 from rfl)) (show (1 : Int32) = i3 1 from rfl) (by omega) (by omega) (by omega) (by omega)) (fun h13 => ?_) (fun h13 => ?_)
                · replace hP := zE_p hP h13
                  exact zlR hP (show (0 : Int32) = i3 0 from rfl) ⟨by omega, by omega⟩
                · replace hP := zE_n hP h13
                  exact zlR hP (show (1 : Int32) = i3 1 from rfl) ⟨by omega, by omega⟩
            · replace hP := zE_n hP h10
              refine wz_i1 (Eq.trans (i3T (rfl : i3 a2 = i3 a2) (by omega) (by omega)) (decide_eq_true (by omega))) ?_
              have r14 := zH_k hZ 44 a0b a1 10 (lo := 0) (hi := 4) (by decide) rfl
              refine wz_br (i3E (zm_rd (Z := Z) (ν := ν) (k := 44) (rfl : ((a0b : Nat) : Int) = a0b) (i3I (y := a1) (rfl : i3 a1 = i3 a1) (by omega) (by omega) (by omega)) (show ((10 : Nat) : Int) = 10 from rfl)) (show (0 : Int32) = i3 0 from rfl) (by omega) (by omega) (by omega) (by omega)) (fun h15 => ?_) (fun h15 => ?_)
              · replace hP := zE_p hP h15
                have r16 := zH_k hZ 44 a0b a1 9 (lo := -1) (hi := 3) (by decide) rfl
                refine wz_br (i3NE (zm_rd (Z := Z) (ν := ν) (k := 44) (rfl : ((a0b : Nat) : Int) = a0b) (i3I (y := a1) (rfl : i3 a1 = i3 a1) (by omega) (by omega) (by omega)) (show ((9 : Nat) : Int) = 9 from rfl)) (show (-1 : Int32) = i3 (-1) from rfl) (by omega) (by omega) (by omega) (by omega)) (fun h17 => ?_) (fun h17 => ?_)
                · replace hP := zE_p hP h17
                  exact zlR hP (show (0 : Int32) = i3 0 from rfl) ⟨by omega, by omega⟩
                · replace hP := zE_n hP h17
                  exact zlR hP (show (1 : Int32) = i3 1 from rfl) ⟨by omega, by omega⟩
              · replace hP := zE_n hP h15
                refine wz_br (i3NE (zm_rd (Z := Z) (ν := ν) (k := 44) (rfl : ((a0b : Nat) : Int) = a0b) (i3I (y := a1) (rfl : i3 a1 = i3 a1) (by omega) (by omega) (by omega)) (show ((10 : Nat) : Int) = 10 from rfl)) (show (1 : Int32) = i3 1 from rfl) (by omega) (by omega) (by omega) (by omega)) (fun h18 => ?_) (fun h18 => ?_)
                · replace hP := zE_p hP h18
                  exact zlR hP (show (0 : Int32) = i3 0 from rfl) ⟨by omega, by omega⟩
                · replace hP := zE_n hP h18
                  have r19 := zH_k hZ 44 a0b a1 9 (lo := -1) (hi := 3) (by decide) rfl
                  refine wz_br (i3NE (zm_rd (Z := Z) (ν := ν) (k := 44) (rfl : ((a0b : Nat) : Int) = a0b) (i3I (y := a1) (rfl : i3 a1 = i3 a1) (by omega) (by omega) (by omega)) (show ((9 : Nat) : Int) = 9 from rfl)) (show (-1 : Int32) = i3 (-1) from rfl) (by omega) (by omega) (by omega) (by omega)) (fun h20 => ?_) (fun h20 => ?_)
                  · replace hP := zE_p hP h20
                    exact zlR hP (show (0 : Int32) = i3 0 from rfl) ⟨by omega, by omega⟩
                  · replace hP := zE_n hP h20
                    exact zlR hP (show (1 : Int32) = i3 1 from rfl) ⟨by omega, by omega⟩
/- yX5_tellGrower -/
def zl_107_1 (x0b : Int) (x1 : Int) (x2 : Int) : Nat → qz_Z → Int → Int → Int × Int
  | 0, Z, x3, x4 => (x3, x4)
  | m + 1, Z, x3, x4 => (if (Z 11 x0b 0 3) ≤ x4 then (x3, x4) else (if (Z 44 x0b x4 0) ≠ x1 then zl_107_1 x0b x1 x2 m Z x3 (x4 + 1) else (zlet (zf_106 Z x0b x4 x2) (fun v5 => zl_107_1 x0b x1 x2 m Z (w3 (x3 + v5)) (x4 + 1)))))
theorem sl_107_1 {s : zSM} {Z : qz_Z} {ν : qz_N} (hZ : zH s Z) (hM : s.2 + 0 ≤ 1000000000) (x0b : Nat) {x1 : Int} (gx1 : 0 ≤ x1 ∧ x1 ≤ 5) {x2 : Int} (gx2 : 2 ≤ x2 ∧ x2 ≤ 8) {x3 : Int} (gx3 : -2147483648 ≤ x3 ∧ x3 ≤ 2147483647) {x4 : Int} (gx4 : 0 ≤ x4 ∧ x4 ≤ 48) {k : wz_K} {R : wz_R} {L : qz_L} (hL : qz_fg [true, true, true, true, true] L = [some (.inr (.inr (some (10, x0b, 0)))), some (.inl (i3 x1)), some (.inl (i3 x2)), some (.inl (i3 x3)), some (.inl (i3 x4))]) {T : Int × Int} (hP : zE T (zl_107_1 x0b x1 x2 ((48 - x4).toNat + 1) Z x3 x4)) (hk : ∀ (L9 : qz_L) (yx3 yx4 : Int), qz_fg [false, false, false, true, false] L9 = [none, none, none, some (.inl (i3 yx3)), none] → (-2147483648 ≤ yx3 ∧ yx3 ≤ 2147483647) → (0 ≤ yx4 ∧ yx4 ≤ 48) → zE T ((yx3, yx4)) → k 0 (L9, [], zm Z ν)) : wz_loop qb_107_1 65536 k R (L, [], zm Z ν) := by
  refine wz_lp sb_107_1 (fun m x => ∃ x3 : Int, ∃ x4 : Int, qz_fg [true, true, true, true, true] x.1 = [some (.inr (.inr (some (10, x0b, 0)))), some (.inl (i3 x1)), some (.inl (i3 x2)), some (.inl (i3 x3)), some (.inl (i3 x4))] ∧ x.2 = ([], zm Z ν) ∧ m = (48 - x4).toNat ∧ (-2147483648 ≤ x3 ∧ x3 ≤ 2147483647) ∧ (0 ≤ x4 ∧ x4 ≤ 48) ∧ zE T (zl_107_1 x0b x1 x2 (m + 1) Z x3 x4)) ?_ 65536 ((48 - x4).toNat) _ (by omega) ⟨x3, x4, hL, rfl, rfl, gx3, gx4, hP⟩
  clear hP gx3 gx4 hL
  clear x3 x4
  rintro m ⟨L, st, μ⟩ ⟨x3, x4, hL, hx, hm, gx3, gx4, hP⟩
  cases hx
  refine fb_107_1 x0b (i3 x1) (i3 x2) (i3 x3) (i3 x4) _ _ _ _ hL ?_
  have r1 := zH_k hZ 11 x0b 0 3 (lo := 0) (hi := 48) (by decide) rfl
  refine wz_br (i3Le (zm_rd (Z := Z) (ν := ν) (k := 11) (rfl : ((x0b : Nat) : Int) = x0b) (show ((0 : Nat) : Int) = 0 from rfl) (show ((3 : Nat) : Int) = 3 from rfl)) (rfl : i3 x4 = i3 x4) (by omega) (by omega) (by omega) (by omega)) (fun h2 => ?_) (fun h2 => ?_)
  · replace hP := zE_p hP h2
    exact hk _ _ _ (zconso rfl (zconso rfl (zconso rfl (zconso (zvo (rfl : i3 x3 = i3 x3)) (zconso rfl rfl)))))  (by omega) (by omega)  hP
  · replace hP := zE_n hP h2
    refine wz_i0 (i3O (n := 48) (rfl : i3 x4 = i3 x4) (by omega) (by omega) (by omega)) ?_
    have r3 := zH_k hZ 44 x0b x4 0 (lo := 0) (hi := 5) (by decide) rfl
    refine wz_br (i3NE (zm_rd (Z := Z) (ν := ν) (k := 44) (rfl : ((x0b : Nat) : Int) = x0b) (i3I (y := x4) (rfl : i3 x4 = i3 x4) (by omega) (by omega) (by omega)) (show ((0 : Nat) : Int) = 0 from rfl)) (rfl : i3 x1 = i3 x1) (by omega) (by omega) (by omega) (by omega)) (fun h4 => ?_) (fun h4 => ?_)
    · replace hP := zE_p hP h4
      obtain ⟨m2, rfl⟩ : ∃ m2, m = m2 + 1 := ⟨m - 1, by omega⟩
      exact wz_k1 ⟨m2, by omega, x3, (x4 + 1), (zconso rfl (zconso (zvo (rfl : i3 x1 = i3 x1)) (zconso (zvo (rfl : i3 x2 = i3 x2)) (zconso (zvo (rfl : i3 x3 = i3 x3)) (zconso (zvo (i3A (rfl : i3 x4 = i3 x4) (show (1 : Int32) = i3 1 from rfl))) rfl))))), rfl,  by omega, by omega, by omega,  hP⟩
    · replace hP := zE_n hP h4
      obtain ⟨v5, hv5, c9, lv5, uv5⟩ := sp_106 (ν := ν) hZ x0b (a1 := x4) (by omega) (a2 := x2) (by omega) (zbh (c := 0) (k := 0) hM (Nat.le_of_ble_eq_true rfl))
      replace hP := zl_e hP hv5
      refine wz_cI_of (zas (zcons rfl (zcons (zvi (rfl : i3 x4 = i3 x4)) (zcons (zvi (rfl : i3 x2 = i3 x2)) rfl))) c9) ?_
      clear c9
      have r6 := w3_r (x3 + v5)
      obtain ⟨m2, rfl⟩ : ∃ m2, m = m2 + 1 := ⟨m - 1, by omega⟩
      exact wz_k1 ⟨m2, by omega, (w3 (x3 + v5)), (x4 + 1), (zconso rfl (zconso (zvo (rfl : i3 x1 = i3 x1)) (zconso (zvo (rfl : i3 x2 = i3 x2)) (zconso (zvo (i3W (i3A (rfl : i3 x3 = i3 x3) (rfl : i3 v5 = i3 v5)))) (zconso (zvo (i3A (rfl : i3 x4 = i3 x4) (show (1 : Int32) = i3 1 from rfl))) rfl))))), rfl,  by omega, by omega, by omega,  hP⟩
/- yX5_tellGrower -/
def zf_107 (Z : qz_Z) (a0b : Int) (a1 : Int) (a2 : Int) : Int := (if 1 < a2 then (zlet2 (zl_107_1 a0b a1 a2 49 Z 0 0) (fun y2 y3 => y2)) else (Z 42 a0b a1 a2))
theorem sp_107 {s : zSM} {Z : qz_Z} {ν : qz_N} (hZ : zH s Z) (a0b : Nat) {a1 : Int} (ga1 : 0 ≤ a1 ∧ a1 ≤ 5) {a2 : Int} (ga2 : 0 ≤ a2 ∧ a2 ≤ 8) (hM : s.2 + 0 ≤ 1000000000) : ∃ P : Int, P = zf_107 Z a0b a1 a2 ∧ (qf_107 [.inr (.inr (some (10, a0b, 0))), .inl (i3 a1), .inl (i3 a2)] (zm Z ν) = some (zm Z ν, .inl (some (.inl (i3 P)))) ∧ -2147483648 ≤ P ∧ P ≤ 2147483647) := by
  obtain ⟨P, hP⟩ := zx (zf_107 Z a0b a1 a2)
  refine zc_R (Q := fun P => -2147483648 ≤ P ∧ P ≤ 2147483647) hP (fw_107 a0b (i3 a1) (i3 a2) _ _ ?_)
  replace hP : zE P (zf_107 Z a0b a1 a2) := hP
  unfold zf_107 at hP
  refine wz_br (i3L (show (1 : Int32) = i3 1 from rfl) (rfl : i3 a2 = i3 a2) (by omega) (by omega) (by omega) (by omega)) (fun h1 => ?_) (fun h1 => ?_)
  · replace hP := zE_p hP h1
    refine sl_107_1 (ν := ν) hZ (zbh (c := 0) (k := 0) hM (Nat.le_of_ble_eq_true rfl)) a0b (x1 := a1) (by omega) (x2 := a2) (by omega) (x3 := 0) (by omega) (x4 := 0) (by omega)  (zconso rfl (zconso (zvo (rfl : i3 a1 = i3 a1)) (zconso (zvo (rfl : i3 a2 = i3 a2)) (zconso (zvo (show (0 : Int32) = i3 0 from rfl)) (zconso (zvo (show (0 : Int32) = i3 0 from rfl)) rfl))))) rfl ?_
    intro L4 y2 y3 hL4 gy2 gy3 q9
    replace hP := zl_e2 hP (Eq.symm q9)
    clear q9
    refine fc_107_2 (i3 y2) _ _ _ _ hL4 ?_
    exact zlR hP (rfl : i3 y2 = i3 y2) ⟨by omega, by omega⟩
  · replace hP := zE_n hP h1
    refine wz_i0 (i3O (n := 6) (rfl : i3 a1 = i3 a1) (by omega) (by omega) (by omega)) ?_
    refine wz_i0 (i3O (n := 7) (rfl : i3 a2 = i3 a2) (by omega) (by omega) (by omega)) ?_
    have r5 := zH_f hZ 42 a0b a1 a2
    exact zlR hP (zm_rd (Z := Z) (ν := ν) (k := 42) (rfl : ((a0b : Nat) : Int) = a0b) (i3I (y := a1) (rfl : i3 a1 = i3 a1) (by omega) (by omega) (by omega)) (i3I (y := a2) (rfl : i3 a2 = i3 a2) (by omega) (by omega) (by omega))) ⟨by omega, by omega⟩
/- yX11_grown -/
def zx_205 (Z : qz_Z) (a1 : Int) (a2 : Int) : qz_Z × Int × Int := (if 0 ≤ a1 ∧ a1 < (Z 11 0 0 1) then (if 0 ≤ a2 ∧ a2 ≤ 8 then (zlet (zf_107 Z 0 a1 a2) (fun v4 => (Z, v4, 0))) else (Z, 0, 13)) else (Z, 0, 24))
theorem sx_205 {M : Nat} {Z : qz_Z} {ν : qz_N} (hZ : zH ((none, M) : zSM) Z) (hM : ((none, M) : zSM).2 + 0 ≤ 1000000000) {a1 : Int} (ga1 : -2147483648 ≤ a1 ∧ a1 ≤ 2147483647) {a2 : Int} (ga2 : -2147483648 ≤ a2 ∧ a2 ≤ 2147483647) : ∃ (Z1 : qz_Z) (ν1 : qz_N) (v E : Int), (Z1, v, E) = zx_205 Z a1 a2 ∧ qf_205 [.inr (.inr (some (0, 0, 0))), .inl (i3 a1), .inl (i3 a2)] (zm Z ν) = some (zm Z1 ν1, zoX v E) ∧ (fun Z1 ν1 => zH ((none, M) : zSM) Z1 ∧ zC [] Z Z1 ∧ zU [] Z Z1 ∧ zG 1 6 ν ν1) Z1 ν1 := by
  obtain ⟨P, hP⟩ := zx (zx_205 Z a1 a2)
  refine zc_G (Q := fun Z1 ν1 => zH ((none, M) : zSM) Z1 ∧ zC [] Z Z1 ∧ zU [] Z Z1 ∧ zG 1 6 ν ν1) hP (fw_205 (i3 a1) (i3 a2) _ _ ?_)
  replace hP : zE P (zx_205 Z a1 a2) := hP
  unfold zx_205 at hP
  have r1 := zH_k hZ 11 0 0 1 (lo := 0) (hi := 6) (by decide) rfl
  refine wz_thing (rfl : i3 a1 = i3 a1) (zm_rd (Z := Z) (ν := ν) (k := 11) (show ((0 : Nat) : Int) = 0 from rfl) (show ((0 : Nat) : Int) = 0 from rfl) (show ((1 : Nat) : Int) = 1 from rfl)) (by omega) (by omega) (by omega) (by omega) (fun h2 => ?_) (fun h2 => ?_)
  · replace hP := zE_p hP h2
    refine wz_inR (rfl : i3 a2 = i3 a2) (show (0 : Int32) = i3 0 from rfl) (show (8 : Int32) = i3 8 from rfl) (by omega) (by omega) (by omega) (by omega) (by omega) (by omega) (fun h3 => ?_) (fun h3 => ?_)
    · replace hP := zE_p hP h3
      obtain ⟨v4, hv4, c9, lv4, uv4⟩ := sp_107 (ν := ν) hZ 0 (a1 := a1) (by omega) (a2 := a2) (by omega) (zbh (c := 0) (k := 0) hM (Nat.le_of_ble_eq_true rfl))
      replace hP := zl_e hP hv4
      refine wz_cI_of (zas (zcons rfl (zcons (zvi (rfl : i3 a1 = i3 a1)) (zcons (zvi (rfl : i3 a2 = i3 a2)) rfl))) c9) ?_
      clear c9
      exact zlG hP (rfl : i3 v4 = i3 v4) ⟨hZ, zC_r, zU_r, zG_w zG_r (Nat.le_of_ble_eq_true rfl) (Nat.le_of_ble_eq_true rfl)⟩
    · replace hP := zE_n hP h3
      exact zlGe (E := 12) hP ⟨hZ, zC_r, zU_r, zG_w (zG_k rfl) (Nat.le_of_ble_eq_true rfl) (Nat.le_of_ble_eq_true rfl)⟩
  · replace hP := zE_n hP h2
    exact zlGe (E := 23) hP ⟨hZ, zC_r, zU_r, zG_w (zG_k rfl) (Nat.le_of_ble_eq_true rfl) (Nat.le_of_ble_eq_true rfl)⟩
/- yX11_hand -/
def zx_206 (Z : qz_Z) (a1 : Int) (a2 : Int) : qz_Z × Int × Int := (if 0 ≤ a1 ∧ a1 < (Z 11 0 0 7) then (if 0 ≤ a2 ∧ a2 ≤ 12 then (if a2 ≠ 12 then (Z, (Z 48 0 a1 a2), 0) else (if (((Z 11 0 0 13) % 24) - (Z 48 0 a1 0)) < 0 then (Z, 0, 0) else (if (Z 48 0 a1 1) ≤ (((Z 11 0 0 13) % 24) - (Z 48 0 a1 0)) then (Z, 0, 0) else (Z, 1, 0)))) else (Z, 0, 13)) else (Z, 0, 24))
theorem sx_206 {M : Nat} {Z : qz_Z} {ν : qz_N} (hZ : zH ((none, M) : zSM) Z) (hM : ((none, M) : zSM).2 + 0 ≤ 1000000000) {a1 : Int} (ga1 : -2147483648 ≤ a1 ∧ a1 ≤ 2147483647) {a2 : Int} (ga2 : -2147483648 ≤ a2 ∧ a2 ≤ 2147483647) : ∃ (Z1 : qz_Z) (ν1 : qz_N) (v E : Int), (Z1, v, E) = zx_206 Z a1 a2 ∧ qf_206 [.inr (.inr (some (0, 0, 0))), .inl (i3 a1), .inl (i3 a2)] (zm Z ν) = some (zm Z1 ν1, zoX v E) ∧ (fun Z1 ν1 => zH ((none, M) : zSM) Z1 ∧ zC [] Z Z1 ∧ zU [] Z Z1 ∧ zG 1 6 ν ν1) Z1 ν1 := by
  obtain ⟨P, hP⟩ := zx (zx_206 Z a1 a2)
  refine zc_G (Q := fun Z1 ν1 => zH ((none, M) : zSM) Z1 ∧ zC [] Z Z1 ∧ zU [] Z Z1 ∧ zG 1 6 ν ν1) hP (fw_206 (i3 a1) (i3 a2) _ _ ?_)
  replace hP : zE P (zx_206 Z a1 a2) := hP
  unfold zx_206 at hP
  have r1 := zH_k hZ 11 0 0 7 (lo := 0) (hi := 2) (by decide) rfl
  refine wz_thing (rfl : i3 a1 = i3 a1) (zm_rd (Z := Z) (ν := ν) (k := 11) (show ((0 : Nat) : Int) = 0 from rfl) (show ((0 : Nat) : Int) = 0 from rfl) (show ((7 : Nat) : Int) = 7 from rfl)) (by omega) (by omega) (by omega) (by omega) (fun h2 => ?_) (fun h2 => ?_)
  · replace hP := zE_p hP h2
    refine wz_inR (rfl : i3 a2 = i3 a2) (show (0 : Int32) = i3 0 from rfl) (show (12 : Int32) = i3 12 from rfl) (by omega) (by omega) (by omega) (by omega) (by omega) (by omega) (fun h3 => ?_) (fun h3 => ?_)
    · replace hP := zE_p hP h3
      refine wz_br (i3NE (rfl : i3 a2 = i3 a2) (show (12 : Int32) = i3 12 from rfl) (by omega) (by omega) (by omega) (by omega)) (fun h4 => ?_) (fun h4 => ?_)
      · replace hP := zE_p hP h4
        refine wz_i0 (i3O (n := 2) (rfl : i3 a1 = i3 a1) (by omega) (by omega) (by omega)) ?_
        refine wz_i0 (i3O (n := 12) (rfl : i3 a2 = i3 a2) (by omega) (by omega) (by omega)) ?_
        have r5 := zH_f hZ 48 0 a1 a2
        exact zlG hP (zm_rd (Z := Z) (ν := ν) (k := 48) (show ((0 : Nat) : Int) = 0 from rfl) (i3I (y := a1) (rfl : i3 a1 = i3 a1) (by omega) (by omega) (by omega)) (i3I (y := a2) (rfl : i3 a2 = i3 a2) (by omega) (by omega) (by omega))) ⟨hZ, zC_r, zU_r, zG_w zG_r (Nat.le_of_ble_eq_true rfl) (Nat.le_of_ble_eq_true rfl)⟩
      · replace hP := zE_n hP h4
        refine wz_i0 (i3O (n := 2) (rfl : i3 a1 = i3 a1) (by omega) (by omega) (by omega)) ?_
        have r6 := zH_k hZ 11 0 0 13 (lo := 0) (hi := 671) (by decide) rfl
        have r7 := zH_k hZ 48 0 a1 0 (lo := 0) (hi := 23) (by decide) rfl
        refine wz_br (i3L (i3S (i3R (zm_rd (Z := Z) (ν := ν) (k := 11) (show ((0 : Nat) : Int) = 0 from rfl) (show ((0 : Nat) : Int) = 0 from rfl) (show ((13 : Nat) : Int) = 13 from rfl)) (show (24 : Int32) = i3 24 from rfl) (by omega) (by omega) (by omega) (by omega)) (zm_rd (Z := Z) (ν := ν) (k := 48) (show ((0 : Nat) : Int) = 0 from rfl) (i3I (y := a1) (rfl : i3 a1 = i3 a1) (by omega) (by omega) (by omega)) (show ((0 : Nat) : Int) = 0 from rfl))) (show (0 : Int32) = i3 0 from rfl) (by omega) (by omega) (by omega) (by omega)) (fun h8 => ?_) (fun h8 => ?_)
        · replace hP := zE_p hP h8
          exact zlG hP (show (0 : Int32) = i3 0 from rfl) ⟨hZ, zC_r, zU_r, zG_w zG_r (Nat.le_of_ble_eq_true rfl) (Nat.le_of_ble_eq_true rfl)⟩
        · replace hP := zE_n hP h8
          refine wz_i0 (i3O (n := 2) (rfl : i3 a1 = i3 a1) (by omega) (by omega) (by omega)) ?_
          have r9 := zH_k hZ 48 0 a1 1 (lo := 0) (hi := 6) (by decide) rfl
          refine wz_br (i3Le (zm_rd (Z := Z) (ν := ν) (k := 48) (show ((0 : Nat) : Int) = 0 from rfl) (i3I (y := a1) (rfl : i3 a1 = i3 a1) (by omega) (by omega) (by omega)) (show ((1 : Nat) : Int) = 1 from rfl)) (i3S (i3R (zm_rd (Z := Z) (ν := ν) (k := 11) (show ((0 : Nat) : Int) = 0 from rfl) (show ((0 : Nat) : Int) = 0 from rfl) (show ((13 : Nat) : Int) = 13 from rfl)) (show (24 : Int32) = i3 24 from rfl) (by omega) (by omega) (by omega) (by omega)) (zm_rd (Z := Z) (ν := ν) (k := 48) (show ((0 : Nat) : Int) = 0 from rfl) (i3I (y := a1) (rfl : i3 a1 = i3 a1) (by omega) (by omega) (by omega)) (show ((0 : Nat) : Int) = 0 from rfl))) (by omega) (by omega) (by omega) (by omega)) (fun h10 => ?_) (fun h10 => ?_)
          · replace hP := zE_p hP h10
            exact zlG hP (show (0 : Int32) = i3 0 from rfl) ⟨hZ, zC_r, zU_r, zG_w zG_r (Nat.le_of_ble_eq_true rfl) (Nat.le_of_ble_eq_true rfl)⟩
          · replace hP := zE_n hP h10
            exact zlG hP (show (1 : Int32) = i3 1 from rfl) ⟨hZ, zC_r, zU_r, zG_w zG_r (Nat.le_of_ble_eq_true rfl) (Nat.le_of_ble_eq_true rfl)⟩
    · replace hP := zE_n hP h3
      exact zlGe (E := 12) hP ⟨hZ, zC_r, zU_r, zG_w (zG_k rfl) (Nat.le_of_ble_eq_true rfl) (Nat.le_of_ble_eq_true rfl)⟩
  · replace hP := zE_n hP h2
    exact zlGe (E := 23) hP ⟨hZ, zC_r, zU_r, zG_w (zG_k rfl) (Nat.le_of_ble_eq_true rfl) (Nat.le_of_ble_eq_true rfl)⟩
/- yX2_nextDue -/
def zl_52_1 (x0b : Int) (x1b : Int) (x1ij : Int) : Nat → qz_Z → Int → Int → Int × Int
  | 0, Z, x2, x3 => (x2, x3)
  | m + 1, Z, x2, x3 => (if x3 < 0 then (x2, x3) else (if (Z 50 x1b x1ij (17 + x3)) ≤ (Z 11 x0b 0 13) then zl_52_1 x0b x1b x1ij m Z x2 (x3 + (-1)) else zl_52_1 x0b x1b x1ij m Z (Z 50 x1b x1ij (12 + x3)) (x3 + (-1))))
theorem sl_52_1 {s : zSM} {Z : qz_Z} {ν : qz_N} (hZ : zH s Z) (hM : s.2 + 0 ≤ 1000000000) (x0b : Nat) (x1b : Nat) (x1i : Nat) {x1ij : Int} (ex1i : (x1i : Int) = x1ij) (gx1ij : 0 ≤ x1ij ∧ x1ij ≤ 3) {x2 : Int} (gx2 : -1 ≤ x2 ∧ x2 ≤ 5) {x3 : Int} (gx3 : -1 ≤ x3 ∧ x3 ≤ 4) {k : wz_K} {R : wz_R} {L : qz_L} (hL : qz_fg [true, true, true, true] L = [some (.inr (.inr (some (10, x0b, 0)))), some (.inr (.inr (some (50, x1b, x1i)))), some (.inl (i3 x2)), some (.inl (i3 x3))]) {T : Int × Int} (hP : zE T (zl_52_1 x0b x1b x1ij ((x3 - (-1)).toNat + 1) Z x2 x3)) (hk : ∀ (L9 : qz_L) (yx2 yx3 : Int), qz_fg [false, false, true, false] L9 = [none, none, some (.inl (i3 yx2)), none] → (-1 ≤ yx2 ∧ yx2 ≤ 5) → (-1 ≤ yx3 ∧ yx3 ≤ 4) → zE T ((yx2, yx3)) → k 0 (L9, [], zm Z ν)) : wz_loop qb_52_1 65536 k R (L, [], zm Z ν) := by
  refine wz_lp sb_52_1 (fun m x => ∃ x2 : Int, ∃ x3 : Int, qz_fg [true, true, true, true] x.1 = [some (.inr (.inr (some (10, x0b, 0)))), some (.inr (.inr (some (50, x1b, x1i)))), some (.inl (i3 x2)), some (.inl (i3 x3))] ∧ x.2 = ([], zm Z ν) ∧ m = (x3 - (-1)).toNat ∧ (-1 ≤ x2 ∧ x2 ≤ 5) ∧ (-1 ≤ x3 ∧ x3 ≤ 4) ∧ zE T (zl_52_1 x0b x1b x1ij (m + 1) Z x2 x3)) ?_ 65536 ((x3 - (-1)).toNat) _ (by omega) ⟨x2, x3, hL, rfl, rfl, gx2, gx3, hP⟩
  clear hP gx2 gx3 hL
  clear x2 x3
  rintro m ⟨L, st, μ⟩ ⟨x2, x3, hL, hx, hm, gx2, gx3, hP⟩
  cases hx
  refine fb_52_1 x0b x1b x1i (i3 x2) (i3 x3) _ _ _ _ hL ?_
  refine wz_br (i3L (rfl : i3 x3 = i3 x3) (show (0 : Int32) = i3 0 from rfl) (by omega) (by omega) (by omega) (by omega)) (fun h1 => ?_) (fun h1 => ?_)
  · replace hP := zE_p hP h1
    exact hk _ _ _ (zconso rfl (zconso rfl (zconso (zvo (rfl : i3 x2 = i3 x2)) (zconso rfl rfl))))  (by omega) (by omega)  hP
  · replace hP := zE_n hP h1
    refine wz_i0 (i3O (n := 22) (i3A (show (17 : Int32) = i3 17 from rfl) (rfl : i3 x3 = i3 x3)) (by omega) (by omega) (by omega)) ?_
    have r2 := zH_k hZ 50 x1b x1ij (17 + x3) (lo := -1) (hi := 743) (by decide) (zrn_of (lo := 17) (n := 5) (by decide) (by decide +kernel) (by omega) (by omega))
    have r3 := zH_k hZ 11 x0b 0 13 (lo := 0) (hi := 671) (by decide) rfl
    refine wz_br (i3Le (zm_rd (Z := Z) (ν := ν) (k := 50) (rfl : ((x1b : Nat) : Int) = x1b) ex1i (i3I (y := (17 + x3)) (i3A (show (17 : Int32) = i3 17 from rfl) (rfl : i3 x3 = i3 x3)) (by omega) (by omega) (by omega))) (zm_rd (Z := Z) (ν := ν) (k := 11) (rfl : ((x0b : Nat) : Int) = x0b) (show ((0 : Nat) : Int) = 0 from rfl) (show ((13 : Nat) : Int) = 13 from rfl)) (by omega) (by omega) (by omega) (by omega)) (fun h4 => ?_) (fun h4 => ?_)
    · replace hP := zE_p hP h4
      obtain ⟨m2, rfl⟩ : ∃ m2, m = m2 + 1 := ⟨m - 1, by omega⟩
      exact wz_k1 ⟨m2, by omega, x2, (x3 + (-1)), (zconso rfl (zconso rfl (zconso (zvo (rfl : i3 x2 = i3 x2)) (zconso (zvo (i3A (rfl : i3 x3 = i3 x3) (show (-1 : Int32) = i3 (-1) from rfl))) rfl)))), rfl,  by omega, by omega, by omega,  hP⟩
    · replace hP := zE_n hP h4
      refine wz_i0 (i3O (n := 22) (i3A (show (12 : Int32) = i3 12 from rfl) (rfl : i3 x3 = i3 x3)) (by omega) (by omega) (by omega)) ?_
      have r5 := zH_k hZ 50 x1b x1ij (12 + x3) (lo := -1) (hi := 4) (by decide) (zrn_of (lo := 12) (n := 5) (by decide) (by decide +kernel) (by omega) (by omega))
      obtain ⟨m2, rfl⟩ : ∃ m2, m = m2 + 1 := ⟨m - 1, by omega⟩
      exact wz_k1 ⟨m2, by omega, (Z 50 x1b x1ij (12 + x3)), (x3 + (-1)), (zconso rfl (zconso rfl (zconso (zvo (zm_rd (Z := Z) (ν := ν) (k := 50) (rfl : ((x1b : Nat) : Int) = x1b) ex1i (i3I (y := (12 + x3)) (i3A (show (12 : Int32) = i3 12 from rfl) (rfl : i3 x3 = i3 x3)) (by omega) (by omega) (by omega)))) (zconso (zvo (i3A (rfl : i3 x3 = i3 x3) (show (-1 : Int32) = i3 (-1) from rfl))) rfl)))), rfl,  by omega, by omega, by omega,  hP⟩
/- yX2_nextDue -/
def zf_52 (Z : qz_Z) (a0b : Int) (a1b : Int) (a1ij : Int) : Int := (zlet2 (zl_52_1 a0b a1b a1ij 6 Z 5 4) (fun y1 y2 => y1))
theorem sp_52 {s : zSM} {Z : qz_Z} {ν : qz_N} (hZ : zH s Z) (a0b : Nat) (a1b : Nat) (a1i : Nat) {a1ij : Int} (ea1i : (a1i : Int) = a1ij) (ga1i : 0 ≤ a1ij ∧ a1ij ≤ 3) (hM : s.2 + 0 ≤ 1000000000) : ∃ P : Int, P = zf_52 Z a0b a1b a1ij ∧ (qf_52 [.inr (.inr (some (10, a0b, 0))), .inr (.inr (some (50, a1b, a1i)))] (zm Z ν) = some (zm Z ν, .inl (some (.inl (i3 P)))) ∧ -1 ≤ P ∧ P ≤ 5) := by
  obtain ⟨P, hP⟩ := zx (zf_52 Z a0b a1b a1ij)
  refine zc_R (Q := fun P => -1 ≤ P ∧ P ≤ 5) hP (fw_52 a0b a1b a1i _ _ ?_)
  replace hP : zE P (zf_52 Z a0b a1b a1ij) := hP
  unfold zf_52 at hP
  refine sl_52_1 (ν := ν) hZ (zbh (c := 0) (k := 0) hM (Nat.le_of_ble_eq_true rfl)) a0b a1b _ ea1i (by omega) (x2 := 5) (by omega) (x3 := 4) (by omega)  (zconso rfl (zconso rfl (zconso (zvo (show (5 : Int32) = i3 5 from rfl)) (zconso (zvo (show (4 : Int32) = i3 4 from rfl)) rfl)))) rfl ?_
  intro L3 y1 y2 hL3 gy1 gy2 q9
  replace hP := zl_e2 hP (Eq.symm q9)
  clear q9
  refine fc_52_2 (i3 y1) _ _ _ _ hL3 ?_
  exact zlR hP (rfl : i3 y1 = i3 y1) ⟨by omega, by omega⟩
