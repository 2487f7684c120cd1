/-! FRAMES of the reference's quiet faces: what they leave as it is. -/
/-- both are the same; all kinds but 1, 2, and of 1 all but 2, 3, are as they were -/
def kn0 (Z0 Z Z' : qz_Z) : Prop := (∀ a, Z 2 0 0 a = Z' 2 0 0 a) ∧ ∀ (k : Nat) b i j, k ≠ 2 → ¬ (k = 1 ∧ (j = 2 ∨ j = 3)) → Z k b i j = Z0 k b i j
def kn (Z0 Z Z' : qz_Z) : Prop := kn0 Z0 Z Z' ∧ Z 1 0 0 2 = Z' 1 0 0 2
def kn3 (Z0 Z Z' : qz_Z) : Prop := kn Z0 Z Z' ∧ Z 1 0 0 3 = Z' 1 0 0 3
def kdm2 (Z0 : qz_Z) (dm dm' : qz_Z → Int → Int → Int → Int → Int → Int → Int → qz_Z) : Prop := ∀ {X X' : qz_Z} {a1 a2 a3 a4 a5 a6 a7 : Int}, kn Z0 X X' → kn Z0 (dm X a1 a2 a3 a4 a5 a6 a7) (dm' X' a1 a2 a3 a4 a5 a6 a7)
theorem kdm2_q {Z0 : qz_Z} : kdm2 Z0 zq0 zq0 := fun h => h
section KNW
variable {Z0 Z Z' : qz_Z}
theorem kn_u {a a' v v' : Int} (h : kn Z0 Z Z') (e1 : a = a') (e2 : v = v') : kn Z0 (zu Z 2 0 0 a v) (zu Z' 2 0 0 a' v') := by
  have g := ym_u (Z := Z) (Z' := Z') ⟨h.1.1, h.2⟩ e1 e2
  exact ⟨⟨g.1, fun k b i j hk hn => (zu_ne rfl (fun q => hk q.1)).trans (h.1.2 k b i j hk hn)⟩, g.2⟩
theorem kn_t {v v' : Int} (h : kn0 Z0 Z Z') (e : v = v') : kn Z0 (zu Z 1 0 0 2 v) (zu Z' 1 0 0 2 v') := by
  have g := ym_t (Z := Z) (Z' := Z') h.1 e
  exact ⟨⟨g.1, fun k b i j hk hn => (zu_ne rfl (fun q => hn ⟨q.1, .inl q.2.2.2⟩)).trans (h.2 k b i j hk hn)⟩, g.2⟩
theorem kn_3 {v v' : Int} (h : kn Z0 Z Z') (e : v = v') : kn3 Z0 (zu Z 1 0 0 3 v) (zu Z' 1 0 0 3 v') := by
  have g := ym_3 (Z := Z) (Z' := Z') ⟨h.1.1, h.2⟩ e
  exact ⟨⟨⟨g.1.1, fun k b i j hk hn => (zu_ne rfl (fun q => hn ⟨q.1, .inr q.2.2.2⟩)).trans (h.1.2 k b i j hk hn)⟩, g.1.2⟩, g.2⟩
theorem kq_312 {a1 a2 a1' a2' : Int} (h : kn Z0 Z Z') (i1 : a1 = a1') (i2 : a2 = a2') : kn Z0 (zf_312 Z a1 a2) (zf_312 Z' a1' a2') := by
  have g := dq_312 (Z := Z) (Z' := Z') ⟨h.1.1, h.2⟩ i1 i2
  exact ⟨⟨g.1, fun k b i j hk hn => (z312_n (fun q => hk q.1)).trans (h.1.2 k b i j hk hn)⟩, g.2⟩
end KNW
section KNF
variable {Z0 : qz_Z}
theorem kq_390 {Z Z' : qz_Z} {a1 a1' : Int} (h0 : (kn0 Z0) Z Z') (ia1 : a1 = a1') : zf_390 Z a1 = zf_390 Z' a1' := by
  subst ia1
  have e0_2 : ∀ a, Z 2 0 0 a = Z' 2 0 0 a := h0.1
  unfold zf_390
  refine dite rfl (fun _ => ?_) (fun _ => ?_)
  · exact rfl
  · refine dite rfl (fun _ => ?_) (fun _ => ?_)
    · exact rfl
    · refine dite (by simp only [e0_2]) (fun _ => ?_) (fun _ => ?_)
      · exact rfl
      · exact rfl
theorem kl_488_1 : ∀ (m : Nat) {Z Z' : qz_Z} {x1 x2 x3 x1' x2' x3' : Int}, x1 = x1' → (kn0 Z0) Z Z' → x2 = x2' → x3 = x3' → zl_488_1 x1 m Z x2 x3 = zl_488_1 x1' m Z' x2' x3'
  | 0, Z, Z', x1, x2, x3, x1', x2', x3', ix1, h0, ix2, ix3 => by
    subst ix1
    subst ix2
    subst ix3
    unfold zl_488_1
    exact rfl
  | m + 1, Z, Z', x1, x2, x3, x1', x2', x3', ix1, h0, ix2, ix3 => by
    subst ix1
    subst ix2
    subst ix3
    have e0_2 : ∀ a, Z 2 0 0 a = Z' 2 0 0 a := h0.1
    unfold zl_488_1
    refine dite (by simp only [e0_2]) (fun _ => ?_) (fun _ => ?_)
    · exact rfl
    · refine dite (by simp only [e0_2]) (fun _ => ?_) (fun _ => ?_)
      · exact kl_488_1 m rfl h0 rfl rfl
      · refine dite (by simp only [e0_2]) (fun _ => ?_) (fun _ => ?_)
        · exact kl_488_1 m rfl h0 rfl rfl
        · exact kl_488_1 m rfl h0 rfl rfl
theorem kq_488 {Z Z' : qz_Z} {a1 a1' : Int} (h0 : (kn0 Z0) Z Z') (ia1 : a1 = a1') : zf_488 Z a1 = zf_488 Z' a1' := by
  subst ia1
  unfold zf_488
  refine dlet2e (kl_488_1 _ rfl h0 rfl rfl) (fun y1 y2 => ?_)
  exact rfl
theorem kq_477 {Z Z' : qz_Z} {a1 a2 a1' a2' : Int} (h0 : (kn0 Z0) Z Z') (ia1 : a1 = a1') (ia2 : a2 = a2') : zf_477 Z a1 a2 = zf_477 Z' a1' a2' := by
  subst ia1
  subst ia2
  have e0_2 : ∀ a, Z 2 0 0 a = Z' 2 0 0 a := h0.1
  have p0_390 : ∀ u1 : Int, zf_390 Z u1 = zf_390 Z' u1 := fun u1 => kq_390 h0 rfl
  have p0_488 : ∀ u1 : Int, zf_488 Z u1 = zf_488 Z' u1 := fun u1 => kq_488 h0 rfl
  unfold zf_477
  refine dite (by simp only [e0_2]) (fun _ => ?_) (fun _ => ?_)
  · exact rfl
  · refine dite (by simp only [e0_2]) (fun _ => ?_) (fun _ => ?_)
    · exact rfl
    · refine dlet_i (by simp only [e0_2, p0_390]) (fun v7 => ?_)
      refine dite rfl (fun _ => ?_) (fun _ => ?_)
      · exact rfl
      · refine dlet_i (by simp only [p0_390]) (fun v9 => ?_)
        refine dite rfl (fun _ => ?_) (fun _ => ?_)
        · exact rfl
        · refine dite rfl (fun _ => ?_) (fun _ => ?_)
          · refine dlet_i (by simp only [p0_488]) (fun v12 => ?_)
            refine dite (by simp only [e0_2]) (fun _ => ?_) (fun _ => ?_)
            · exact rfl
            · exact rfl
          · refine dlet_i (by simp only [p0_488]) (fun v15 => ?_)
            refine dite rfl (fun _ => ?_) (fun _ => ?_)
            · exact rfl
            · exact rfl
theorem kq_472 {Z Z' : qz_Z} {a1 a2 a1' a2' : Int} (h0 : (kn Z0) Z Z') (ia1 : a1 = a1') (ia2 : a2 = a2') : (kn Z0) (zf_472 Z a1 a2) (zf_472 Z' a1' a2') := by
  subst ia1
  subst ia2
  have e0_2 : ∀ a, Z 2 0 0 a = Z' 2 0 0 a := h0.1.1
  unfold zf_472
  refine dite (by simp only [e0_2]) (fun _ => ?_) (fun _ => ?_)
  · refine dite rfl (fun _ => ?_) (fun _ => ?_)
    · refine dlet_Z (P := (kn Z0)) (kn_u h0 rfl rfl) (fun Z7 Z7' h7 => ?_)
      exact h7
    · refine dite rfl (fun _ => ?_) (fun _ => ?_)
      · refine dlet_Z (P := (kn Z0)) (kn_u h0 rfl rfl) (fun Z9 Z9' h9 => ?_)
        exact h9
      · refine dlet_Z (P := (kn Z0)) (kn_u h0 rfl (by simp only [e0_2])) (fun Z11 Z11' h11 => ?_)
        refine dlet_Z (P := (kn Z0)) (kn_u h11 rfl rfl) (fun Z12 Z12' h12 => ?_)
        exact h12
  · refine dite (by simp only [e0_2]) (fun _ => ?_) (fun _ => ?_)
    · refine dite rfl (fun _ => ?_) (fun _ => ?_)
      · refine dlet_Z (P := (kn Z0)) (kn_u h0 rfl rfl) (fun Z20 Z20' h20 => ?_)
        exact h20
      · refine dite rfl (fun _ => ?_) (fun _ => ?_)
        · refine dlet_Z (P := (kn Z0)) (kn_u h0 rfl rfl) (fun Z22 Z22' h22 => ?_)
          exact h22
        · refine dlet_Z (P := (kn Z0)) (kn_u h0 rfl (by simp only [e0_2])) (fun Z24 Z24' h24 => ?_)
          refine dlet_Z (P := (kn Z0)) (kn_u h24 rfl rfl) (fun Z25 Z25' h25 => ?_)
          exact h25
    · refine dlet_Z (P := (kn Z0)) (kn_u h0 (by simp only [e0_2]) (by simp only [e0_2])) (fun Z32 Z32' h32 => ?_)
      have e32_2 : ∀ a, Z32 2 0 0 a = Z32' 2 0 0 a := h32.1.1
      refine dite rfl (fun _ => ?_) (fun _ => ?_)
      · refine dlet_Z (P := (kn Z0)) (kn_u h32 rfl rfl) (fun Z34 Z34' h34 => ?_)
        exact h34
      · refine dite rfl (fun _ => ?_) (fun _ => ?_)
        · refine dlet_Z (P := (kn Z0)) (kn_u h32 rfl rfl) (fun Z41 Z41' h41 => ?_)
          exact h41
        · refine dlet_Z (P := (kn Z0)) (kn_u h32 rfl (by simp only [e32_2])) (fun Z48 Z48' h48 => ?_)
          refine dlet_Z (P := (kn Z0)) (kn_u h48 rfl rfl) (fun Z49 Z49' h49 => ?_)
          exact h49
theorem ky_453 {Z Z' : qz_Z} {a1 a2 a1' a2' : Int} {dm dm' : qz_Z → Int → Int → Int → Int → Int → Int → Int → qz_Z} (hdm : kdm2 Z0 dm dm') (h0 : (kn0 Z0) Z Z') (ia1 : a1 = a1') (ia2 : a2 = a2') : dMe ((kn Z0)) (zy_453 Z dm a1 a2) (zy_453 Z' dm' a1' a2') := by
  subst ia1
  subst ia2
  have e0_2 : ∀ a, Z 2 0 0 a = Z' 2 0 0 a := h0.1
  unfold zy_453
  refine dite rfl (fun _ => ?_) (fun _ => ?_)
  · refine dite rfl (fun _ => ?_) (fun _ => ?_)
    · refine dlet_Z (P := (kn Z0)) (kn_t h0 rfl) (fun Z6 Z6' h6 => ?_)
      exact ⟨h6, rfl⟩
    · refine dite (by simp only [e0_2]) (fun _ => ?_) (fun _ => ?_)
      · refine dlet_Z (P := (kn Z0)) (kn_t h0 rfl) (fun Z9 Z9' h9 => ?_)
        exact ⟨h9, rfl⟩
      · refine dite rfl (fun _ => ?_) (fun _ => ?_)
        · refine dlet_Z (P := (kn Z0)) (kn_t h0 rfl) (fun Z11 Z11' h11 => ?_)
          have p11_477 : ∀ u1 u2 : Int, zf_477 Z11 u1 u2 = zf_477 Z11' u1 u2 := fun u1 u2 => kq_477 h11.1 rfl rfl
          refine dlet_i (by simp only [p11_477]) (fun v12 => ?_)
          refine dite rfl (fun _ => ?_) (fun _ => ?_)
          · refine dlet_Z (P := (kn Z0)) (kn_t h11.1 rfl) (fun Z14 Z14' h14 => ?_)
            exact ⟨h14, rfl⟩
          · refine dlet_Z (P := (kn Z0)) (kn_t h11.1 rfl) (fun Z15 Z15' h15 => ?_)
            refine dlet_Z (P := (kn Z0)) (hdm h15) (fun Z22 Z22' h22 => ?_)
            refine dlet_Z (P := (kn Z0)) (kq_472 h22 rfl rfl) (fun Z27 Z27' h27 => ?_)
            have e27_2 : ∀ a, Z27 2 0 0 a = Z27' 2 0 0 a := h27.1.1
            have p27_488 : ∀ u1 : Int, zf_488 Z27 u1 = zf_488 Z27' u1 := fun u1 => kq_488 h27.1 rfl
            refine dlet_i (by simp only [p27_488]) (fun v28 => ?_)
            exact ⟨h27, (by simp only [e27_2])⟩
        · refine dite rfl (fun _ => ?_) (fun _ => ?_)
          · refine dlet_Z (P := (kn Z0)) (kn_t h0 rfl) (fun Z31 Z31' h31 => ?_)
            exact ⟨h31, rfl⟩
          · refine dite (by simp only [e0_2]) (fun _ => ?_) (fun _ => ?_)
            · refine dlet_Z (P := (kn Z0)) (kn_t h0 rfl) (fun Z34 Z34' h34 => ?_)
              exact ⟨h34, rfl⟩
            · refine dlet_Z (P := (kn Z0)) (kn_t h0 rfl) (fun Z35 Z35' h35 => ?_)
              have p35_477 : ∀ u1 u2 : Int, zf_477 Z35 u1 u2 = zf_477 Z35' u1 u2 := fun u1 u2 => kq_477 h35.1 rfl rfl
              refine dlet_i (by simp only [p35_477]) (fun v36 => ?_)
              refine dite rfl (fun _ => ?_) (fun _ => ?_)
              · refine dlet_Z (P := (kn Z0)) (kn_t h35.1 rfl) (fun Z38 Z38' h38 => ?_)
                exact ⟨h38, rfl⟩
              · refine dlet_Z (P := (kn Z0)) (kn_t h35.1 rfl) (fun Z39 Z39' h39 => ?_)
                refine dlet_Z (P := (kn Z0)) (hdm h39) (fun Z46 Z46' h46 => ?_)
                refine dlet_Z (P := (kn Z0)) (kq_472 h46 rfl rfl) (fun Z51 Z51' h51 => ?_)
                have e51_2 : ∀ a, Z51 2 0 0 a = Z51' 2 0 0 a := h51.1.1
                have p51_488 : ∀ u1 : Int, zf_488 Z51 u1 = zf_488 Z51' u1 := fun u1 => kq_488 h51.1 rfl
                refine dlet_i (by simp only [p51_488]) (fun v52 => ?_)
                exact ⟨h51, (by simp only [e51_2])⟩
  · refine dite rfl (fun _ => ?_) (fun _ => ?_)
    · refine dlet_Z (P := (kn Z0)) (kn_t h0 rfl) (fun Z55 Z55' h55 => ?_)
      exact ⟨h55, rfl⟩
    · refine dite (by simp only [e0_2]) (fun _ => ?_) (fun _ => ?_)
      · refine dlet_Z (P := (kn Z0)) (kn_t h0 rfl) (fun Z58 Z58' h58 => ?_)
        exact ⟨h58, rfl⟩
      · refine dlet_Z (P := (kn Z0)) (kn_t h0 rfl) (fun Z59 Z59' h59 => ?_)
        have p59_477 : ∀ u1 u2 : Int, zf_477 Z59 u1 u2 = zf_477 Z59' u1 u2 := fun u1 u2 => kq_477 h59.1 rfl rfl
        refine dlet_i (by simp only [p59_477]) (fun v60 => ?_)
        refine dite rfl (fun _ => ?_) (fun _ => ?_)
        · refine dlet_Z (P := (kn Z0)) (kn_t h59.1 rfl) (fun Z62 Z62' h62 => ?_)
          exact ⟨h62, rfl⟩
        · refine dlet_Z (P := (kn Z0)) (kn_t h59.1 rfl) (fun Z63 Z63' h63 => ?_)
          refine dlet_Z (P := (kn Z0)) (hdm h63) (fun Z70 Z70' h70 => ?_)
          refine dlet_Z (P := (kn Z0)) (kq_472 h70 rfl rfl) (fun Z75 Z75' h75 => ?_)
          have p75_488 : ∀ u1 : Int, zf_488 Z75 u1 = zf_488 Z75' u1 := fun u1 => kq_488 h75.1 rfl
          refine dlet_i (by simp only [p75_488]) (fun v76 => ?_)
          exact ⟨h75, rfl⟩
theorem kq_478 {Z Z' : qz_Z} {a1 a1' : Int} (h0 : (kn Z0) Z Z') (ia1 : a1 = a1') : (kn Z0) (zf_478 Z a1) (zf_478 Z' a1') := by
  subst ia1
  have e0_2 : ∀ a, Z 2 0 0 a = Z' 2 0 0 a := h0.1.1
  unfold zf_478
  refine dite (by simp only [e0_2]) (fun _ => ?_) (fun _ => ?_)
  · refine dlet_Z (P := (kn Z0)) (kn_u h0 rfl rfl) (fun Z6 Z6' h6 => ?_)
    exact h6
  · refine dite (by simp only [e0_2]) (fun _ => ?_) (fun _ => ?_)
    · refine dlet_Z (P := (kn Z0)) (kn_u h0 rfl rfl) (fun Z8 Z8' h8 => ?_)
      exact h8
    · refine dlet_Z (P := (kn Z0)) (kn_u h0 (by simp only [e0_2]) (by simp only [e0_2])) (fun Z10 Z10' h10 => ?_)
      refine dlet_Z (P := (kn Z0)) (kn_u h10 rfl rfl) (fun Z11 Z11' h11 => ?_)
      exact h11
theorem kl_435_1 : ∀ (m : Nat) {Z Z' : qz_Z} {x1 x2 x3 x1' x2' x3' : Int}, x1 = x1' → (kn0 Z0) Z Z' → x2 = x2' → x3 = x3' → zl_435_1 x1 m Z x2 x3 = zl_435_1 x1' m Z' x2' x3'
  | 0, Z, Z', x1, x2, x3, x1', x2', x3', ix1, h0, ix2, ix3 => by
    subst ix1
    subst ix2
    subst ix3
    unfold zl_435_1
    exact rfl
  | m + 1, Z, Z', x1, x2, x3, x1', x2', x3', ix1, h0, ix2, ix3 => by
    subst ix1
    subst ix2
    subst ix3
    have e0_2 : ∀ a, Z 2 0 0 a = Z' 2 0 0 a := h0.1
    unfold zl_435_1
    refine dite (by simp only [e0_2]) (fun _ => ?_) (fun _ => ?_)
    · exact rfl
    · refine dite (by simp only [e0_2]) (fun _ => ?_) (fun _ => ?_)
      · exact kl_435_1 m rfl h0 rfl rfl
      · refine dite (by simp only [e0_2]) (fun _ => ?_) (fun _ => ?_)
        · exact kl_435_1 m rfl h0 rfl rfl
        · exact kl_435_1 m rfl h0 rfl rfl
theorem kq_435 {Z Z' : qz_Z} {a1 a1' : Int} (h0 : (kn0 Z0) Z Z') (ia1 : a1 = a1') : zf_435 Z a1 = zf_435 Z' a1' := by
  subst ia1
  unfold zf_435
  refine dlet2e (kl_435_1 _ rfl h0 rfl rfl) (fun y1 y2 => ?_)
  exact rfl
theorem kq_429 {Z Z' : qz_Z} {a1 a1' : Int} (h0 : (kn Z0) Z Z') (ia1 : a1 = a1') : (kn Z0) (zf_429 Z a1) (zf_429 Z' a1') := by
  subst ia1
  have e0_2 : ∀ a, Z 2 0 0 a = Z' 2 0 0 a := h0.1.1
  have p0_435 : ∀ u1 : Int, zf_435 Z u1 = zf_435 Z' u1 := fun u1 => kq_435 h0.1 rfl
  unfold zf_429
  refine dite (by simp only [e0_2]) (fun _ => ?_) (fun _ => ?_)
  · exact h0
  · refine dite (by simp only [e0_2]) (fun _ => ?_) (fun _ => ?_)
    · exact h0
    · refine dlet_i (by simp only [p0_435]) (fun v7 => ?_)
      refine dite rfl (fun _ => ?_) (fun _ => ?_)
      · exact h0
      · refine dlet_Z (P := (kn Z0)) (kn_u h0 rfl rfl) (fun Z9 Z9' h9 => ?_)
        refine dlet_Z (P := (kn Z0)) (kq_478 h9 rfl) (fun Z16 Z16' h16 => ?_)
        exact h16
theorem kq_276 {Z Z' : qz_Z} {a1 a1' : Int} (h0 : (kn Z0) Z Z') (ia1 : a1 = a1') : (kn Z0) (zf_276 Z a1) (zf_276 Z' a1') := by
  subst ia1
  have e0_2 : ∀ a, Z 2 0 0 a = Z' 2 0 0 a := h0.1.1
  unfold zf_276
  refine dlet_Z (P := (kn Z0)) (kn_u h0 (by simp only [e0_2]) (by simp only [e0_2])) (fun Z11 Z11' h11 => ?_)
  refine dlet_Z (P := (kn Z0)) (kn_u h11 rfl rfl) (fun Z12 Z12' h12 => ?_)
  have e12_2 : ∀ a, Z12 2 0 0 a = Z12' 2 0 0 a := h12.1.1
  refine dite (by simp only [e0_2, e12_2]) (fun _ => ?_) (fun _ => ?_)
  · exact h12
  · refine dite (by simp only [e0_2, e12_2]) (fun _ => ?_) (fun _ => ?_)
    · refine dlet_Z (P := (kn Z0)) (kn_u h12 (by simp only [e0_2]) (by simp only [e0_2, e12_2])) (fun Z24 Z24' h24 => ?_)
      exact h24
    · refine dlet_Z (P := (kn Z0)) (kn_u h12 (by simp only [e0_2]) (by simp only [e0_2, e12_2])) (fun Z25 Z25' h25 => ?_)
      exact h25
theorem kq_403 {Z Z' : qz_Z} {a1 a2 a3 a4 a1' a2' a3' a4' : Int} (h0 : (kn Z0) Z Z') (ia1 : a1 = a1') (ia2 : a2 = a2') (ia3 : a3 = a3') (ia4 : a4 = a4') : (kn Z0) (zf_403 Z a1 a2 a3 a4) (zf_403 Z' a1' a2' a3' a4') := by
  subst ia1
  subst ia2
  subst ia3
  subst ia4
  have e0_2 : ∀ a, Z 2 0 0 a = Z' 2 0 0 a := h0.1.1
  unfold zf_403
  refine dite rfl (fun _ => ?_) (fun _ => ?_)
  · refine dlet_Z (P := (kn Z0)) (kn_u h0 rfl (by simp only [e0_2])) (fun Z4 Z4' h4 => ?_)
    have e4_2 : ∀ a, Z4 2 0 0 a = Z4' 2 0 0 a := h4.1.1
    refine dlet_Z (P := (kn Z0)) (kn_u h4 rfl (by simp only [e4_2])) (fun Z7 Z7' h7 => ?_)
    have e7_2 : ∀ a, Z7 2 0 0 a = Z7' 2 0 0 a := h7.1.1
    refine dlet_Z (P := (kn Z0)) (kn_u h7 (by simp only [e7_2]) rfl) (fun Z9 Z9' h9 => ?_)
    refine dlet_Z (P := (kn Z0)) (kn_u h9 (by simp only [e7_2]) rfl) (fun Z10 Z10' h10 => ?_)
    refine dlet_Z (P := (kn Z0)) (kn_u h10 (by simp only [e7_2]) rfl) (fun Z11 Z11' h11 => ?_)
    refine dlet_Z (P := (kn Z0)) (kn_u h11 (by simp only [e7_2]) rfl) (fun Z12 Z12' h12 => ?_)
    have e12_2 : ∀ a, Z12 2 0 0 a = Z12' 2 0 0 a := h12.1.1
    refine dlet_Z (P := (kn Z0)) (kn_u h12 (by simp only [e7_2]) (by simp only [e12_2])) (fun Z14 Z14' h14 => ?_)
    have e14_2 : ∀ a, Z14 2 0 0 a = Z14' 2 0 0 a := h14.1.1
    refine dlet_Z (P := (kn Z0)) (kn_u h14 rfl (by simp only [e14_2])) (fun Z17 Z17' h17 => ?_)
    exact h17
  · exact h0
theorem kq_432 {Z Z' : qz_Z} {a1 a1' : Int} (h0 : (kn Z0) Z Z') (ia1 : a1 = a1') : (kn Z0) (zf_432 Z a1) (zf_432 Z' a1') := by
  subst ia1
  have e0_2 : ∀ a, Z 2 0 0 a = Z' 2 0 0 a := h0.1.1
  unfold zf_432
  refine dlet_Z (P := (kn Z0)) (kn_u h0 rfl (by simp only [e0_2])) (fun Z3 Z3' h3 => ?_)
  have e3_2 : ∀ a, Z3 2 0 0 a = Z3' 2 0 0 a := h3.1.1
  refine dlet_Z (P := (kn Z0)) (kn_u h3 rfl (by simp only [e0_2, e3_2])) (fun Z5 Z5' h5 => ?_)
  refine dlet_Z (P := (kn Z0)) (kn_u h5 rfl rfl) (fun Z6 Z6' h6 => ?_)
  have e6_2 : ∀ a, Z6 2 0 0 a = Z6' 2 0 0 a := h6.1.1
  refine dlet_Z (P := (kn Z0)) (kn_u h6 rfl (by simp only [e6_2])) (fun Z8 Z8' h8 => ?_)
  refine dlet_Z (P := (kn Z0)) (kq_429 h8 (by simp only [e0_2])) (fun Z9 Z9' h9 => ?_)
  refine dlet_Z (P := (kn Z0)) (kq_276 h9 rfl) (fun Z10 Z10' h10 => ?_)
  have e10_2 : ∀ a, Z10 2 0 0 a = Z10' 2 0 0 a := h10.1.1
  refine dlet_Z (P := (kn Z0)) (kq_403 h10 rfl rfl (by simp only [e10_2]) (by simp only [e10_2])) (fun Z17 Z17' h17 => ?_)
  exact h17
theorem kl_431_1 : ∀ (m : Nat) {Z Z' : qz_Z} {x1 x3 x1' x3' : Int}, x1 = x1' → (kn Z0) Z Z' → x3 = x3' → dMe ((kn Z0)) (zl_431_1 x1 m Z x3) (zl_431_1 x1' m Z' x3')
  | 0, Z, Z', x1, x3, x1', x3', ix1, h0, ix3 => by
    subst ix1
    subst ix3
    unfold zl_431_1
    exact ⟨h0, rfl⟩
  | m + 1, Z, Z', x1, x3, x1', x3', ix1, h0, ix3 => by
    subst ix1
    subst ix3
    have e0_2 : ∀ a, Z 2 0 0 a = Z' 2 0 0 a := h0.1.1
    unfold zl_431_1
    refine dite (by simp only [e0_2]) (fun _ => ?_) (fun _ => ?_)
    · exact ⟨h0, rfl⟩
    · refine dite (by simp only [e0_2]) (fun _ => ?_) (fun _ => ?_)
      · exact kl_431_1 m rfl h0 rfl
      · refine dite (by simp only [e0_2]) (fun _ => ?_) (fun _ => ?_)
        · exact kl_431_1 m rfl h0 rfl
        · refine dlet_Z (P := (kn Z0)) (kq_432 h0 rfl) (fun Z8 Z8' h8 => ?_)
          exact kl_431_1 m rfl h8 rfl
theorem kl_306_1 : ∀ (m : Nat) {Z Z' : qz_Z} {x1 x2 x3 x4 x1' x2' x3' x4' : Int}, x1 = x1' → x2 = x2' → (kn0 Z0) Z Z' → x3 = x3' → x4 = x4' → zl_306_1 x1 x2 m Z x3 x4 = zl_306_1 x1' x2' m Z' x3' x4'
  | 0, Z, Z', x1, x2, x3, x4, x1', x2', x3', x4', ix1, ix2, h0, ix3, ix4 => by
    subst ix1
    subst ix2
    subst ix3
    subst ix4
    unfold zl_306_1
    exact rfl
  | m + 1, Z, Z', x1, x2, x3, x4, x1', x2', x3', x4', ix1, ix2, h0, ix3, ix4 => by
    subst ix1
    subst ix2
    subst ix3
    subst ix4
    have e0_2 : ∀ a, Z 2 0 0 a = Z' 2 0 0 a := h0.1
    unfold zl_306_1
    refine dite (by simp only [e0_2]) (fun _ => ?_) (fun _ => ?_)
    · exact rfl
    · refine dite (by simp only [e0_2]) (fun _ => ?_) (fun _ => ?_)
      · exact kl_306_1 m rfl rfl h0 rfl rfl
      · exact kl_306_1 m rfl rfl h0 rfl rfl
theorem kq_306 {Z Z' : qz_Z} {a1 a2 a1' a2' : Int} (h0 : (kn0 Z0) Z Z') (ia1 : a1 = a1') (ia2 : a2 = a2') : zf_306 Z a1 a2 = zf_306 Z' a1' a2' := by
  subst ia1
  subst ia2
  unfold zf_306
  refine dlet2e (kl_306_1 _ rfl rfl h0 rfl rfl) (fun y2 y3 => ?_)
  exact rfl
theorem kl_305_1 : ∀ (m : Nat) {Z Z' : qz_Z} {x1 x2 x3 x1' x2' x3' : Int}, x1 = x1' → (kn0 Z0) Z Z' → x2 = x2' → x3 = x3' → zl_305_1 x1 m Z x2 x3 = zl_305_1 x1' m Z' x2' x3'
  | 0, Z, Z', x1, x2, x3, x1', x2', x3', ix1, h0, ix2, ix3 => by
    subst ix1
    subst ix2
    subst ix3
    unfold zl_305_1
    exact rfl
  | m + 1, Z, Z', x1, x2, x3, x1', x2', x3', ix1, h0, ix2, ix3 => by
    subst ix1
    subst ix2
    subst ix3
    have e0_2 : ∀ a, Z 2 0 0 a = Z' 2 0 0 a := h0.1
    have p0_306 : ∀ u1 u2 : Int, zf_306 Z u1 u2 = zf_306 Z' u1 u2 := fun u1 u2 => kq_306 h0 rfl rfl
    unfold zl_305_1
    refine dite (by simp only [e0_2]) (fun _ => ?_) (fun _ => ?_)
    · exact rfl
    · refine dlet_i (by simp only [p0_306]) (fun v3 => ?_)
      refine dite rfl (fun _ => ?_) (fun _ => ?_)
      · exact kl_305_1 m rfl h0 rfl rfl
      · exact kl_305_1 m rfl h0 rfl rfl
theorem kq_305 {Z Z' : qz_Z} {a1 a1' : Int} (h0 : (kn0 Z0) Z Z') (ia1 : a1 = a1') : zf_305 Z a1 = zf_305 Z' a1' := by
  subst ia1
  unfold zf_305
  refine dlet2e (kl_305_1 _ rfl h0 rfl rfl) (fun y1 y2 => ?_)
  exact rfl
theorem kq_431 {Z Z' : qz_Z} {a1 a2 a1' a2' : Int} (h0 : (kn Z0) Z Z') (ia1 : a1 = a1') (ia2 : a2 = a2') : (kn Z0) (zf_431 Z a1 a2) (zf_431 Z' a1' a2') := by
  subst ia1
  subst ia2
  have e0_2 : ∀ a, Z 2 0 0 a = Z' 2 0 0 a := h0.1.1
  have p0_305 : ∀ u1 : Int, zf_305 Z u1 = zf_305 Z' u1 := fun u1 => kq_305 h0.1 rfl
  have p0_306 : ∀ u1 u2 : Int, zf_306 Z u1 u2 = zf_306 Z' u1 u2 := fun u1 u2 => kq_306 h0.1 rfl rfl
  unfold zf_431
  refine dite (by simp only [e0_2]) (fun _ => ?_) (fun _ => ?_)
  · refine dlet_Z (P := (kn Z0)) (kn_u h0 rfl (by simp only [e0_2])) (fun Z8 Z8' h8 => ?_)
    refine dlet_Z (P := (kn Z0)) (kn_u h8 rfl rfl) (fun Z9 Z9' h9 => ?_)
    refine dlet_Z (P := (kn Z0)) (kn_u h9 rfl rfl) (fun Z10 Z10' h10 => ?_)
    refine dlet_Z (P := (kn Z0)) (kn_u h10 rfl rfl) (fun Z11 Z11' h11 => ?_)
    refine dlet_Z (P := (kn Z0)) (kq_478 h11 rfl) (fun Z23 Z23' h23 => ?_)
    refine dlet2 (kl_431_1 _ rfl h23 rfl) (fun Z25 Z25' y24 h25 => ?_)
    exact h25
  · refine dlet_i (by simp only [p0_305]) (fun v27 => ?_)
    refine dite rfl (fun _ => ?_) (fun _ => ?_)
    · refine dlet_Z (P := (kn Z0)) (kn_u h0 rfl (by simp only [e0_2])) (fun Z32 Z32' h32 => ?_)
      refine dlet_Z (P := (kn Z0)) (kn_u h32 rfl rfl) (fun Z33 Z33' h33 => ?_)
      refine dlet_Z (P := (kn Z0)) (kn_u h33 rfl rfl) (fun Z34 Z34' h34 => ?_)
      refine dlet_Z (P := (kn Z0)) (kn_u h34 rfl rfl) (fun Z35 Z35' h35 => ?_)
      refine dlet_Z (P := (kn Z0)) (kq_478 h35 rfl) (fun Z47 Z47' h47 => ?_)
      refine dlet2 (kl_431_1 _ rfl h47 rfl) (fun Z49 Z49' y48 h49 => ?_)
      exact h49
    · refine dlet_i (by simp only [p0_306]) (fun v51 => ?_)
      refine dlet_Z (P := (kn Z0)) (kq_312 h0 rfl rfl) (fun Z55 Z55' h55 => ?_)
      have e55_2 : ∀ a, Z55 2 0 0 a = Z55' 2 0 0 a := h55.1.1
      refine dlet_Z (P := (kn Z0)) (kn_u h55 rfl (by simp only [e55_2])) (fun Z61 Z61' h61 => ?_)
      refine dlet_Z (P := (kn Z0)) (kn_u h61 rfl rfl) (fun Z62 Z62' h62 => ?_)
      refine dlet_Z (P := (kn Z0)) (kn_u h62 rfl rfl) (fun Z63 Z63' h63 => ?_)
      refine dlet_Z (P := (kn Z0)) (kn_u h63 rfl rfl) (fun Z64 Z64' h64 => ?_)
      refine dlet_Z (P := (kn Z0)) (kq_478 h64 rfl) (fun Z76 Z76' h76 => ?_)
      refine dlet2 (kl_431_1 _ rfl h76 rfl) (fun Z78 Z78' y77 h78 => ?_)
      exact h78
theorem ky_338 {Z Z' : qz_Z} {a1 a1' : Int} {dm dm' : qz_Z → Int → Int → Int → Int → Int → Int → Int → qz_Z} (hdm : kdm2 Z0 dm dm') (h0 : (kn0 Z0) Z Z') (ia1 : a1 = a1') : dMe ((kn Z0)) (zy_338 Z dm a1) (zy_338 Z' dm' a1') := by
  subst ia1
  have e0_2 : ∀ a, Z 2 0 0 a = Z' 2 0 0 a := h0.1
  unfold zy_338
  refine dite rfl (fun _ => ?_) (fun _ => ?_)
  · refine dlet_Z (P := (kn Z0)) (kn_t h0 rfl) (fun Z5 Z5' h5 => ?_)
    exact ⟨h5, rfl⟩
  · refine dite (by simp only [e0_2]) (fun _ => ?_) (fun _ => ?_)
    · refine dlet_Z (P := (kn Z0)) (kn_t h0 rfl) (fun Z8 Z8' h8 => ?_)
      exact ⟨h8, rfl⟩
    · refine dlet_Z (P := (kn Z0)) (kn_t h0 rfl) (fun Z9 Z9' h9 => ?_)
      have e9_2 : ∀ a, Z9 2 0 0 a = Z9' 2 0 0 a := h9.1.1
      refine dite (by simp only [e9_2]) (fun _ => ?_) (fun _ => ?_)
      · refine dlet_Z (P := (kn Z0)) (kn_t h9.1 rfl) (fun Z15 Z15' h15 => ?_)
        exact ⟨h15, rfl⟩
      · refine dlet_Z (P := (kn Z0)) (kn_t h9.1 rfl) (fun Z16 Z16' h16 => ?_)
        refine dlet_Z (P := (kn Z0)) (hdm h16) (fun Z23 Z23' h23 => ?_)
        have e23_2 : ∀ a, Z23 2 0 0 a = Z23' 2 0 0 a := h23.1.1
        refine dlet_Z (P := (kn Z0)) (kq_431 h23 rfl rfl) (fun Z24 Z24' h24 => ?_)
        exact ⟨h24, (by simp only [e23_2])⟩
theorem ky_315 {Z Z' : qz_Z} {a1 a1' : Int} {dm dm' : qz_Z → Int → Int → Int → Int → Int → Int → Int → qz_Z} (hdm : kdm2 Z0 dm dm') (h0 : (kn0 Z0) Z Z') (ia1 : a1 = a1') : dMe ((kn Z0)) (zy_315 Z dm a1) (zy_315 Z' dm' a1') := by
  subst ia1
  have e0_2 : ∀ a, Z 2 0 0 a = Z' 2 0 0 a := h0.1
  unfold zy_315
  refine dite rfl (fun _ => ?_) (fun _ => ?_)
  · refine dlet_Z (P := (kn Z0)) (kn_t h0 rfl) (fun Z5 Z5' h5 => ?_)
    exact ⟨h5, rfl⟩
  · refine dite (by simp only [e0_2]) (fun _ => ?_) (fun _ => ?_)
    · refine dlet_Z (P := (kn Z0)) (kn_t h0 rfl) (fun Z8 Z8' h8 => ?_)
      exact ⟨h8, rfl⟩
    · refine dlet_Z (P := (kn Z0)) (kn_t h0 rfl) (fun Z9 Z9' h9 => ?_)
      have e9_2 : ∀ a, Z9 2 0 0 a = Z9' 2 0 0 a := h9.1.1
      refine dite (by simp only [e9_2]) (fun _ => ?_) (fun _ => ?_)
      · refine dlet_Z (P := (kn Z0)) (kn_t h9.1 rfl) (fun Z12 Z12' h12 => ?_)
        exact ⟨h12, rfl⟩
      · refine dlet_Z (P := (kn Z0)) (kn_t h9.1 rfl) (fun Z13 Z13' h13 => ?_)
        refine dlet_Z (P := (kn Z0)) (hdm h13) (fun Z20 Z20' h20 => ?_)
        have e20_2 : ∀ a, Z20 2 0 0 a = Z20' 2 0 0 a := h20.1.1
        refine dlet_Z (P := (kn Z0)) (kn_u h20 rfl rfl) (fun Z21 Z21' h21 => ?_)
        refine dlet_Z (P := (kn Z0)) (kn_u h21 rfl rfl) (fun Z22 Z22' h22 => ?_)
        exact ⟨h22, (by simp only [e20_2])⟩
theorem kq_307 {Z Z' : qz_Z} {a1 a2 a3 a4 a1' a2' a3' a4' : Int} (h0 : (kn Z0) Z Z') (ia1 : a1 = a1') (ia2 : a2 = a2') (ia3 : a3 = a3') (ia4 : a4 = a4') : (kn Z0) (zf_307 Z a1 a2 a3 a4) (zf_307 Z' a1' a2' a3' a4') := by
  subst ia1
  subst ia2
  subst ia3
  subst ia4
  have e0_2 : ∀ a, Z 2 0 0 a = Z' 2 0 0 a := h0.1.1
  unfold zf_307
  refine dlet_Z (P := (kn Z0)) (kn_u h0 (by simp only [e0_2]) rfl) (fun Z8 Z8' h8 => ?_)
  refine dlet_Z (P := (kn Z0)) (kn_u h8 (by simp only [e0_2]) rfl) (fun Z9 Z9' h9 => ?_)
  refine dlet_Z (P := (kn Z0)) (kn_u h9 (by simp only [e0_2]) rfl) (fun Z12 Z12' h12 => ?_)
  refine dlet_Z (P := (kn Z0)) (kn_u h12 rfl (by simp only [e0_2])) (fun Z15 Z15' h15 => ?_)
  refine dlet_Z (P := (kn Z0)) (kn_u h15 rfl rfl) (fun Z27 Z27' h27 => ?_)
  exact h27
theorem ky_459 {Z Z' : qz_Z} {a1 a2 a3 a4 a1' a2' a3' a4' : Int} {dm dm' : qz_Z → Int → Int → Int → Int → Int → Int → Int → qz_Z} (hdm : kdm2 Z0 dm dm') (h0 : (kn0 Z0) Z Z') (ia1 : a1 = a1') (ia2 : a2 = a2') (ia3 : a3 = a3') (ia4 : a4 = a4') : dMe ((kn Z0)) (zy_459 Z dm a1 a2 a3 a4) (zy_459 Z' dm' a1' a2' a3' a4') := by
  subst ia1
  subst ia2
  subst ia3
  subst ia4
  have e0_2 : ∀ a, Z 2 0 0 a = Z' 2 0 0 a := h0.1
  unfold zy_459
  refine dite rfl (fun _ => ?_) (fun _ => ?_)
  · refine dlet_Z (P := (kn Z0)) (kn_t h0 rfl) (fun Z5 Z5' h5 => ?_)
    exact ⟨h5, rfl⟩
  · refine dite (by simp only [e0_2]) (fun _ => ?_) (fun _ => ?_)
    · refine dlet_Z (P := (kn Z0)) (kn_t h0 rfl) (fun Z8 Z8' h8 => ?_)
      exact ⟨h8, rfl⟩
    · refine dite rfl (fun _ => ?_) (fun _ => ?_)
      · refine dlet_Z (P := (kn Z0)) (kn_t h0 rfl) (fun Z10 Z10' h10 => ?_)
        exact ⟨h10, rfl⟩
      · refine dite (by simp only [e0_2]) (fun _ => ?_) (fun _ => ?_)
        · refine dlet_Z (P := (kn Z0)) (kn_t h0 rfl) (fun Z13 Z13' h13 => ?_)
          exact ⟨h13, rfl⟩
        · refine dlet_Z (P := (kn Z0)) (kn_t h0 rfl) (fun Z14 Z14' h14 => ?_)
          have e14_2 : ∀ a, Z14 2 0 0 a = Z14' 2 0 0 a := h14.1.1
          refine dite rfl (fun _ => ?_) (fun _ => ?_)
          · refine dlet_Z (P := (kn Z0)) (kn_t h14.1 rfl) (fun Z16 Z16' h16 => ?_)
            exact ⟨h16, rfl⟩
          · refine dite rfl (fun _ => ?_) (fun _ => ?_)
            · refine dlet_Z (P := (kn Z0)) (kn_t h14.1 rfl) (fun Z18 Z18' h18 => ?_)
              exact ⟨h18, rfl⟩
            · refine dite rfl (fun _ => ?_) (fun _ => ?_)
              · refine dlet_Z (P := (kn Z0)) (kn_t h14.1 rfl) (fun Z20 Z20' h20 => ?_)
                exact ⟨h20, rfl⟩
              · refine dite rfl (fun _ => ?_) (fun _ => ?_)
                · refine dlet_Z (P := (kn Z0)) (kn_t h14.1 rfl) (fun Z22 Z22' h22 => ?_)
                  exact ⟨h22, rfl⟩
                · refine dite (by simp only [e14_2]) (fun _ => ?_) (fun _ => ?_)
                  · refine dlet_Z (P := (kn Z0)) (kn_t h14.1 rfl) (fun Z28 Z28' h28 => ?_)
                    exact ⟨h28, rfl⟩
                  · refine dlet_Z (P := (kn Z0)) (kn_t h14.1 rfl) (fun Z29 Z29' h29 => ?_)
                    have e29_2 : ∀ a, Z29 2 0 0 a = Z29' 2 0 0 a := h29.1.1
                    have p29_390 : ∀ u1 : Int, zf_390 Z29 u1 = zf_390 Z29' u1 := fun u1 => kq_390 h29.1 rfl
                    refine dite (by simp only [e29_2]) (fun _ => ?_) (fun _ => ?_)
                    · refine dlet_Z (P := (kn Z0)) (kn_t h29.1 rfl) (fun Z35 Z35' h35 => ?_)
                      exact ⟨h35, rfl⟩
                    · refine dite (by simp only [e29_2]) (fun _ => ?_) (fun _ => ?_)
                      · refine dlet_Z (P := (kn Z0)) (kn_t h29.1 rfl) (fun Z38 Z38' h38 => ?_)
                        exact ⟨h38, rfl⟩
                      · refine dlet_i (by simp only [e29_2, p29_390]) (fun v40 => ?_)
                        refine dite rfl (fun _ => ?_) (fun _ => ?_)
                        · refine dlet_Z (P := (kn Z0)) (kn_t h29.1 rfl) (fun Z42 Z42' h42 => ?_)
                          exact ⟨h42, rfl⟩
                        · refine dite (by simp only [e29_2]) (fun _ => ?_) (fun _ => ?_)
                          · refine dlet_Z (P := (kn Z0)) (kn_t h29.1 rfl) (fun Z45 Z45' h45 => ?_)
                            exact ⟨h45, rfl⟩
                          · refine dlet_Z (P := (kn Z0)) (kn_t h29.1 rfl) (fun Z46 Z46' h46 => ?_)
                            refine dlet_Z (P := (kn Z0)) (hdm h46) (fun Z53 Z53' h53 => ?_)
                            refine dlet_Z (P := (kn Z0)) (kq_307 h53 rfl rfl rfl rfl) (fun Z66 Z66' h66 => ?_)
                            have e66_2 : ∀ a, Z66 2 0 0 a = Z66' 2 0 0 a := h66.1.1
                            exact ⟨h66, (by simp only [e66_2])⟩
theorem ky_546 {Z Z' : qz_Z} {a1 a1' : Int} {dm dm' : qz_Z → Int → Int → Int → Int → Int → Int → Int → qz_Z} (hdm : kdm2 Z0 dm dm') (h0 : (kn0 Z0) Z Z') (ia1 : a1 = a1') : dMe ((kn Z0)) (zy_546 Z dm a1) (zy_546 Z' dm' a1') := by
  subst ia1
  have e0_2 : ∀ a, Z 2 0 0 a = Z' 2 0 0 a := h0.1
  unfold zy_546
  refine dite rfl (fun _ => ?_) (fun _ => ?_)
  · refine dlet_Z (P := (kn Z0)) (kn_t h0 rfl) (fun Z5 Z5' h5 => ?_)
    exact ⟨h5, rfl⟩
  · refine dite (by simp only [e0_2]) (fun _ => ?_) (fun _ => ?_)
    · refine dlet_Z (P := (kn Z0)) (kn_t h0 rfl) (fun Z8 Z8' h8 => ?_)
      exact ⟨h8, rfl⟩
    · refine dlet_Z (P := (kn Z0)) (kn_t h0 rfl) (fun Z9 Z9' h9 => ?_)
      have e9_2 : ∀ a, Z9 2 0 0 a = Z9' 2 0 0 a := h9.1.1
      refine dite (by simp only [e9_2]) (fun _ => ?_) (fun _ => ?_)
      · refine dlet_Z (P := (kn Z0)) (kn_t h9.1 rfl) (fun Z15 Z15' h15 => ?_)
        exact ⟨h15, rfl⟩
      · refine dlet_Z (P := (kn Z0)) (kn_t h9.1 rfl) (fun Z16 Z16' h16 => ?_)
        refine dlet_Z (P := (kn Z0)) (hdm h16) (fun Z23 Z23' h23 => ?_)
        have p23_305 : ∀ u1 : Int, zf_305 Z23 u1 = zf_305 Z23' u1 := fun u1 => kq_305 h23.1 rfl
        have p23_306 : ∀ u1 u2 : Int, zf_306 Z23 u1 u2 = zf_306 Z23' u1 u2 := fun u1 u2 => kq_306 h23.1 rfl rfl
        refine dlet_i (by simp only [p23_305]) (fun v24 => ?_)
        refine dlet_i (by simp only [p23_305]) (fun v25 => ?_)
        refine dite rfl (fun _ => ?_) (fun _ => ?_)
        · refine dlet_Z (P := (kn Z0)) (kn_u h23 rfl rfl) (fun Z27 Z27' h27 => ?_)
          have e27_2 : ∀ a, Z27 2 0 0 a = Z27' 2 0 0 a := h27.1.1
          exact ⟨h27, (by simp only [e27_2])⟩
        · refine dlet_i (by simp only [p23_306]) (fun v36 => ?_)
          refine dlet_Z (P := (kn Z0)) (kq_312 h23 rfl rfl) (fun Z41 Z41' h41 => ?_)
          refine dlet_Z (P := (kn Z0)) (kn_u h41 rfl rfl) (fun Z49 Z49' h49 => ?_)
          have e49_2 : ∀ a, Z49 2 0 0 a = Z49' 2 0 0 a := h49.1.1
          exact ⟨h49, (by simp only [e49_2])⟩
theorem kl_518_1 : ∀ (m : Nat) {Z Z' : qz_Z} {x1 x2 x3 x4 x1' x2' x3' x4' : Int}, x1 = x1' → x2 = x2' → (kn0 Z0) Z Z' → x3 = x3' → x4 = x4' → zl_518_1 x1 x2 m Z x3 x4 = zl_518_1 x1' x2' m Z' x3' x4'
  | 0, Z, Z', x1, x2, x3, x4, x1', x2', x3', x4', ix1, ix2, h0, ix3, ix4 => by
    subst ix1
    subst ix2
    subst ix3
    subst ix4
    unfold zl_518_1
    exact rfl
  | m + 1, Z, Z', x1, x2, x3, x4, x1', x2', x3', x4', ix1, ix2, h0, ix3, ix4 => by
    subst ix1
    subst ix2
    subst ix3
    subst ix4
    have e0_2 : ∀ a, Z 2 0 0 a = Z' 2 0 0 a := h0.1
    unfold zl_518_1
    refine dite (by simp only [e0_2]) (fun _ => ?_) (fun _ => ?_)
    · exact rfl
    · refine dite (by simp only [e0_2]) (fun _ => ?_) (fun _ => ?_)
      · exact kl_518_1 m rfl rfl h0 rfl rfl
      · refine dite (by simp only [e0_2]) (fun _ => ?_) (fun _ => ?_)
        · exact kl_518_1 m rfl rfl h0 rfl rfl
        · refine dite rfl (fun _ => ?_) (fun _ => ?_)
          · exact kl_518_1 m rfl rfl h0 rfl rfl
          · exact kl_518_1 m rfl rfl h0 (by simp only [e0_2]) rfl
theorem kq_518 {Z Z' : qz_Z} {a1 a2 a1' a2' : Int} (h0 : (kn0 Z0) Z Z') (ia1 : a1 = a1') (ia2 : a2 = a2') : zf_518 Z a1 a2 = zf_518 Z' a1' a2' := by
  subst ia1
  subst ia2
  unfold zf_518
  refine dlet2e (kl_518_1 _ rfl rfl h0 rfl rfl) (fun y1 y2 => ?_)
  exact rfl
theorem kl_508_1 : ∀ (m : Nat) {Z Z' : qz_Z} {x1 x2 x1' x2' : Int}, (kn0 Z0) Z Z' → x1 = x1' → x2 = x2' → zl_508_1 m Z x1 x2 = zl_508_1 m Z' x1' x2'
  | 0, Z, Z', x1, x2, x1', x2', h0, ix1, ix2 => by
    subst ix1
    subst ix2
    unfold zl_508_1
    exact rfl
  | m + 1, Z, Z', x1, x2, x1', x2', h0, ix1, ix2 => by
    subst ix1
    subst ix2
    have e0_2 : ∀ a, Z 2 0 0 a = Z' 2 0 0 a := h0.1
    have p0_518 : ∀ u1 u2 : Int, zf_518 Z u1 u2 = zf_518 Z' u1 u2 := fun u1 u2 => kq_518 h0 rfl rfl
    unfold zl_508_1
    refine dite (by simp only [e0_2]) (fun _ => ?_) (fun _ => ?_)
    · exact rfl
    · refine dite (by simp only [e0_2]) (fun _ => ?_) (fun _ => ?_)
      · refine dlet_i (by simp only [p0_518]) (fun v5 => ?_)
        refine dite rfl (fun _ => ?_) (fun _ => ?_)
        · exact kl_508_1 m h0 rfl rfl
        · exact kl_508_1 m h0 rfl rfl
      · exact kl_508_1 m h0 rfl rfl
theorem kq_508 {Z Z' : qz_Z} (h0 : (kn0 Z0) Z Z') : zf_508 Z = zf_508 Z' := by
  unfold zf_508
  refine dlet2e (kl_508_1 _ h0 rfl rfl) (fun y1 y2 => ?_)
  exact rfl
theorem kq_437 {Z Z' : qz_Z} {a1 a2 a1' a2' : Int} (h0 : (kn0 Z0) Z Z') (ia1 : a1 = a1') (ia2 : a2 = a2') : zf_437 Z a1 a2 = zf_437 Z' a1' a2' := by
  subst ia1
  subst ia2
  have e0_2 : ∀ a, Z 2 0 0 a = Z' 2 0 0 a := h0.1
  have p0_390 : ∀ u1 : Int, zf_390 Z u1 = zf_390 Z' u1 := fun u1 => kq_390 h0 rfl
  have p0_508 : zf_508 Z = zf_508 Z' := kq_508 h0
  have p0_518 : ∀ u1 u2 : Int, zf_518 Z u1 u2 = zf_518 Z' u1 u2 := fun u1 u2 => kq_518 h0 rfl rfl
  unfold zf_437
  refine dite (by simp only [e0_2]) (fun _ => ?_) (fun _ => ?_)
  · exact rfl
  · refine dlet_i (by simp only [e0_2, p0_390]) (fun v8 => ?_)
    refine dite rfl (fun _ => ?_) (fun _ => ?_)
    · exact rfl
    · refine dite (by simp only [e0_2]) (fun _ => ?_) (fun _ => ?_)
      · refine dlet_i (by simp only [p0_518]) (fun v12 => ?_)
        refine dite (by simp only [e0_2]) (fun _ => ?_) (fun _ => ?_)
        · exact rfl
        · refine dlet_i (by simp only [p0_518]) (fun v19 => ?_)
          refine dite rfl (fun _ => ?_) (fun _ => ?_)
          · refine dlet_i (by simp only [p0_508]) (fun v21 => ?_)
            refine dite (by simp only [e0_2]) (fun _ => ?_) (fun _ => ?_)
            · exact rfl
            · exact rfl
          · exact rfl
      · exact rfl
theorem ky_426 {Z Z' : qz_Z} {a1 a2 a1' a2' : Int} {dm dm' : qz_Z → Int → Int → Int → Int → Int → Int → Int → qz_Z} (hdm : kdm2 Z0 dm dm') (h0 : (kn0 Z0) Z Z') (ia1 : a1 = a1') (ia2 : a2 = a2') : dMe ((kn Z0)) (zy_426 Z dm a1 a2) (zy_426 Z' dm' a1' a2') := by
  subst ia1
  subst ia2
  have e0_2 : ∀ a, Z 2 0 0 a = Z' 2 0 0 a := h0.1
  unfold zy_426
  refine dite rfl (fun _ => ?_) (fun _ => ?_)
  · refine dlet_Z (P := (kn Z0)) (kn_t h0 rfl) (fun Z5 Z5' h5 => ?_)
    exact ⟨h5, rfl⟩
  · refine dite (by simp only [e0_2]) (fun _ => ?_) (fun _ => ?_)
    · refine dlet_Z (P := (kn Z0)) (kn_t h0 rfl) (fun Z8 Z8' h8 => ?_)
      exact ⟨h8, rfl⟩
    · refine dite rfl (fun _ => ?_) (fun _ => ?_)
      · refine dlet_Z (P := (kn Z0)) (kn_t h0 rfl) (fun Z10 Z10' h10 => ?_)
        exact ⟨h10, rfl⟩
      · refine dite (by simp only [e0_2]) (fun _ => ?_) (fun _ => ?_)
        · refine dlet_Z (P := (kn Z0)) (kn_t h0 rfl) (fun Z13 Z13' h13 => ?_)
          exact ⟨h13, rfl⟩
        · refine dlet_Z (P := (kn Z0)) (kn_t h0 rfl) (fun Z14 Z14' h14 => ?_)
          have p14_437 : ∀ u1 u2 : Int, zf_437 Z14 u1 u2 = zf_437 Z14' u1 u2 := fun u1 u2 => kq_437 h14.1 rfl rfl
          refine dlet_i (by simp only [p14_437]) (fun v15 => ?_)
          refine dite rfl (fun _ => ?_) (fun _ => ?_)
          · refine dlet_Z (P := (kn Z0)) (kn_t h14.1 rfl) (fun Z17 Z17' h17 => ?_)
            exact ⟨h17, rfl⟩
          · refine dlet_Z (P := (kn Z0)) (kn_t h14.1 rfl) (fun Z18 Z18' h18 => ?_)
            refine dlet_Z (P := (kn Z0)) (hdm h18) (fun Z25 Z25' h25 => ?_)
            have e25_2 : ∀ a, Z25 2 0 0 a = Z25' 2 0 0 a := h25.1.1
            refine dlet_Z (P := (kn Z0)) (kn_u h25 rfl (by simp only [e25_2])) (fun Z28 Z28' h28 => ?_)
            have e28_2 : ∀ a, Z28 2 0 0 a = Z28' 2 0 0 a := h28.1.1
            refine dlet_Z (P := (kn Z0)) (kn_u h28 rfl (by simp only [e25_2, e28_2])) (fun Z30 Z30' h30 => ?_)
            have e30_2 : ∀ a, Z30 2 0 0 a = Z30' 2 0 0 a := h30.1.1
            refine dlet_Z (P := (kn Z0)) (kn_u h30 rfl (by simp only [e30_2])) (fun Z32 Z32' h32 => ?_)
            have e32_2 : ∀ a, Z32 2 0 0 a = Z32' 2 0 0 a := h32.1.1
            refine dlet_Z (P := (kn Z0)) (kn_u h32 rfl (by simp only [e25_2, e32_2])) (fun Z35 Z35' h35 => ?_)
            have e35_2 : ∀ a, Z35 2 0 0 a = Z35' 2 0 0 a := h35.1.1
            refine dlet_Z (P := (kn Z0)) (kn_u h35 rfl (by simp only [e25_2, e35_2])) (fun Z38 Z38' h38 => ?_)
            refine dlet_Z (P := (kn Z0)) (kn_u h38 rfl rfl) (fun Z39 Z39' h39 => ?_)
            refine dlet_Z (P := (kn Z0)) (kn_u h39 rfl rfl) (fun Z42 Z42' h42 => ?_)
            refine dlet_Z (P := (kn Z0)) (kq_429 h42 (by simp only [e25_2])) (fun Z46 Z46' h46 => ?_)
            have p46_518 : ∀ u1 u2 : Int, zf_518 Z46 u1 u2 = zf_518 Z46' u1 u2 := fun u1 u2 => kq_518 h46.1 rfl rfl
            refine dlet_i (by simp only [p46_518]) (fun v47 => ?_)
            exact ⟨h46, rfl⟩
theorem ky_499 {Z Z' : qz_Z} {a1 a2 a1' a2' : Int} {dm dm' : qz_Z → Int → Int → Int → Int → Int → Int → Int → qz_Z} (hdm : kdm2 Z0 dm dm') (h0 : (kn0 Z0) Z Z') (ia1 : a1 = a1') (ia2 : a2 = a2') : dMe ((kn Z0)) (zy_499 Z dm a1 a2) (zy_499 Z' dm' a1' a2') := by
  subst ia1
  subst ia2
  have e0_2 : ∀ a, Z 2 0 0 a = Z' 2 0 0 a := h0.1
  unfold zy_499
  refine dite rfl (fun _ => ?_) (fun _ => ?_)
  · refine dlet_Z (P := (kn Z0)) (kn_t h0 rfl) (fun Z5 Z5' h5 => ?_)
    exact ⟨h5, rfl⟩
  · refine dite (by simp only [e0_2]) (fun _ => ?_) (fun _ => ?_)
    · refine dlet_Z (P := (kn Z0)) (kn_t h0 rfl) (fun Z8 Z8' h8 => ?_)
      exact ⟨h8, rfl⟩
    · refine dlet_Z (P := (kn Z0)) (kn_t h0 rfl) (fun Z9 Z9' h9 => ?_)
      have e9_2 : ∀ a, Z9 2 0 0 a = Z9' 2 0 0 a := h9.1.1
      refine dite rfl (fun _ => ?_) (fun _ => ?_)
      · refine dlet_Z (P := (kn Z0)) (kn_t h9.1 rfl) (fun Z11 Z11' h11 => ?_)
        have e11_2 : ∀ a, Z11 2 0 0 a = Z11' 2 0 0 a := h11.1.1
        refine dite (by simp only [e11_2]) (fun _ => ?_) (fun _ => ?_)
        · refine dlet_Z (P := (kn Z0)) (kn_t h11.1 rfl) (fun Z14 Z14' h14 => ?_)
          refine dlet_Z (P := (kn Z0)) (hdm h14) (fun Z21 Z21' h21 => ?_)
          have e21_2 : ∀ a, Z21 2 0 0 a = Z21' 2 0 0 a := h21.1.1
          refine dlet_Z (P := (kn Z0)) (kn_u h21 rfl rfl) (fun Z22 Z22' h22 => ?_)
          exact ⟨h22, (by simp only [e21_2])⟩
        · refine dlet_Z (P := (kn Z0)) (kn_t h11.1 rfl) (fun Z24 Z24' h24 => ?_)
          exact ⟨h24, rfl⟩
      · refine dite (by simp only [e9_2]) (fun _ => ?_) (fun _ => ?_)
        · refine dlet_Z (P := (kn Z0)) (kn_t h9.1 rfl) (fun Z27 Z27' h27 => ?_)
          exact ⟨h27, rfl⟩
        · refine dite rfl (fun _ => ?_) (fun _ => ?_)
          · refine dlet_Z (P := (kn Z0)) (kn_t h9.1 rfl) (fun Z29 Z29' h29 => ?_)
            exact ⟨h29, rfl⟩
          · refine dlet_Z (P := (kn Z0)) (kn_t h9.1 rfl) (fun Z30 Z30' h30 => ?_)
            have e30_2 : ∀ a, Z30 2 0 0 a = Z30' 2 0 0 a := h30.1.1
            refine dite (by simp only [e30_2]) (fun _ => ?_) (fun _ => ?_)
            · refine dlet_Z (P := (kn Z0)) (kn_t h30.1 rfl) (fun Z33 Z33' h33 => ?_)
              refine dlet_Z (P := (kn Z0)) (hdm h33) (fun Z40 Z40' h40 => ?_)
              have e40_2 : ∀ a, Z40 2 0 0 a = Z40' 2 0 0 a := h40.1.1
              refine dlet_Z (P := (kn Z0)) (kn_u h40 rfl rfl) (fun Z41 Z41' h41 => ?_)
              exact ⟨h41, (by simp only [e40_2])⟩
            · refine dlet_Z (P := (kn Z0)) (kn_t h30.1 rfl) (fun Z43 Z43' h43 => ?_)
              exact ⟨h43, rfl⟩
end KNF
