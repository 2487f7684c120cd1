/-! DETERMINISM of the reference: what it does to what is (row 2) hangs on that row alone. -/
def ym0 (Z Z' : qz_Z) : Prop := ∀ a, Z 2 0 0 a = Z' 2 0 0 a
/-- and what was thrown is alike -/
def ym (Z Z' : qz_Z) : Prop := ym0 Z Z' ∧ Z 1 0 0 2 = Z' 1 0 0 2
def ym3 (Z Z' : qz_Z) : Prop := ym Z Z' ∧ Z 1 0 0 3 = Z' 1 0 0 3
def zdm2 (dm dm' : qz_Z → Int → Int → Int → Int → Int → Int → Int → qz_Z) : Prop := ∀ {X X' : qz_Z} {a1 a2 a3 a4 a5 a6 a7 : Int}, ym X X' → ym (dm X a1 a2 a3 a4 a5 a6 a7) (dm' X' a1 a2 a3 a4 a5 a6 a7)
section YMW
variable {Z Z' : qz_Z}
theorem ym0_u {a a' v v' : Int} (h : ym0 Z Z') (e1 : a = a') (e2 : v = v') : ym0 (zu Z 2 0 0 a v) (zu Z' 2 0 0 a' v') := fun j => by
  subst e1 e2
  by_cases c : j = a
  · rw [c, zua, zua]
  · rw [zun c, zun c]
    exact h j
theorem ym_u {a a' v v' : Int} (h : ym Z Z') (e1 : a = a') (e2 : v = v') : ym (zu Z 2 0 0 a v) (zu Z' 2 0 0 a' v') := ⟨ym0_u h.1 e1 e2, by
  rw [zu_ne rfl (fun q => absurd q.1 (by decide)), zu_ne rfl (fun q => absurd q.1 (by decide))]
  exact h.2⟩
theorem ym3_u {a a' v v' : Int} (h : ym3 Z Z') (e1 : a = a') (e2 : v = v') : ym3 (zu Z 2 0 0 a v) (zu Z' 2 0 0 a' v') := ⟨ym_u h.1 e1 e2, by
  rw [zu_ne rfl (fun q => absurd q.1 (by decide)), zu_ne rfl (fun q => absurd q.1 (by decide))]
  exact h.2⟩
theorem ym0_o {k k' : Nat} {b i j v b' i' j' v' : Int} (h : ym0 Z Z') (c : k ≠ 2 ∧ k' ≠ 2) : ym0 (zu Z k b i j v) (zu Z' k' b' i' j' v') := fun a => by
  rw [zu_ne rfl (fun q => c.1 q.1.symm), zu_ne rfl (fun q => c.2 q.1.symm)]
  exact h a
theorem ym_t {v v' : Int} (h : ym0 Z Z') (e : v = v') : ym (zu Z 1 0 0 2 v) (zu Z' 1 0 0 2 v') := ⟨ym0_o h (by decide), by
  rw [zu_at rfl, zu_at rfl]
  exact e⟩
theorem ym_o {k k' : Nat} {b i j v b' i' j' v' : Int} (h : ym Z Z') (c : (k ≠ 2 ∧ k' ≠ 2) ∧ (k ≠ 1 ∨ j ≠ 2) ∧ (k' ≠ 1 ∨ j' ≠ 2)) : ym (zu Z k b i j v) (zu Z' k' b' i' j' v') := ⟨ym0_o h.1 c.1, by
  rw [zu_ne rfl (fun q => by rcases c.2.1 with c | c; exact c q.1.symm; exact c q.2.2.2.symm), zu_ne rfl (fun q => by rcases c.2.2 with c | c; exact c q.1.symm; exact c q.2.2.2.symm)]
  exact h.2⟩
theorem ym_3 {v v' : Int} (h : ym Z Z') (e : v = v') : ym3 (zu Z 1 0 0 3 v) (zu Z' 1 0 0 3 v') := ⟨ym_o h ⟨by decide, .inr (by decide), .inr (by decide)⟩, by
  rw [zu_at rfl, zu_at rfl]
  exact e⟩
end YMW
theorem dq_312 {Z Z' : qz_Z} {a1 a2 a1' a2' : Int} (h : ym Z Z') (i1 : a1 = a1') (i2 : a2 = a2') : ym (zf_312 Z a1 a2) (zf_312 Z' a1' a2') := by
  subst i1 i2
  have e : ∀ a, Z 2 0 0 a = Z' 2 0 0 a := h.1
  unfold zf_312
  rw [e (3015 + 60 * a1)]
  have w := ym_u (a := 3015 + 60 * a1) (v := Z' 2 0 0 (3015 + 60 * a1) - 1) h rfl rfl
  generalize zu Z 2 0 0 (3015 + 60 * a1) (Z' 2 0 0 (3015 + 60 * a1) - 1) = A at w ⊢
  generalize zu Z' 2 0 0 (3015 + 60 * a1) (Z' 2 0 0 (3015 + 60 * a1) - 1) = B at w ⊢
  obtain ⟨w1, w2⟩ := w
  refine ⟨fun j => ?_, ?_⟩
  · simp only [zpz, zps, w1 j, w1 (j + 3)]
  · simpa [zpz, zps] using w2
theorem dy_503 {Z Z' : qz_Z} {a1 a2 a3 a4 a5 a1' a2' a3' a4' a5' : Int} {dm dm' : qz_Z → Int → Int → Int → Int → Int → Int → Int → qz_Z} (hdm : zdm2 dm dm') (h0 : ym0 Z Z') (ia1 : a1 = a1') (ia2 : a2 = a2') (ia3 : a3 = a3') (ia4 : a4 = a4') (ia5 : a5 = a5') : dMe (ym) (zy_503 Z dm a1 a2 a3 a4 a5) (zy_503 Z' dm' a1' a2' a3' a4' a5') := by
  subst ia1
  subst ia2
  subst ia3
  subst ia4
  subst ia5
  unfold zy_503
  refine dite rfl (fun _ => ?_) (fun _ => ?_)
  · refine dlet_Z (P := ym) (ym_t h0 rfl) (fun Z5 Z5' h5 => ?_)
    exact ⟨h5, rfl⟩
  · refine dite rfl (fun _ => ?_) (fun _ => ?_)
    · refine dlet_Z (P := ym) (ym_t h0 rfl) (fun Z7 Z7' h7 => ?_)
      exact ⟨h7, rfl⟩
    · refine dite rfl (fun _ => ?_) (fun _ => ?_)
      · refine dlet_Z (P := ym) (ym_t h0 rfl) (fun Z9 Z9' h9 => ?_)
        exact ⟨h9, rfl⟩
      · refine dite rfl (fun _ => ?_) (fun _ => ?_)
        · refine dlet_Z (P := ym) (ym_t h0 rfl) (fun Z11 Z11' h11 => ?_)
          exact ⟨h11, rfl⟩
        · refine dite rfl (fun _ => ?_) (fun _ => ?_)
          · refine dlet_Z (P := ym) (ym_t h0 rfl) (fun Z13 Z13' h13 => ?_)
            exact ⟨h13, rfl⟩
          · refine dite rfl (fun _ => ?_) (fun _ => ?_)
            · refine dlet_Z (P := ym) (ym_t h0 rfl) (fun Z15 Z15' h15 => ?_)
              exact ⟨h15, rfl⟩
            · refine dite rfl (fun _ => ?_) (fun _ => ?_)
              · refine dlet_Z (P := ym) (ym_t h0 rfl) (fun Z17 Z17' h17 => ?_)
                exact ⟨h17, rfl⟩
              · refine dite rfl (fun _ => ?_) (fun _ => ?_)
                · refine dlet_Z (P := ym) (ym_t h0 rfl) (fun Z19 Z19' h19 => ?_)
                  exact ⟨h19, rfl⟩
                · refine dite rfl (fun _ => ?_) (fun _ => ?_)
                  · refine dlet_Z (P := ym) (ym_t h0 rfl) (fun Z21 Z21' h21 => ?_)
                    exact ⟨h21, rfl⟩
                  · refine dite rfl (fun _ => ?_) (fun _ => ?_)
                    · refine dlet_Z (P := ym) (ym_t h0 rfl) (fun Z23 Z23' h23 => ?_)
                      exact ⟨h23, rfl⟩
                    · refine dlet_Z (P := ym) (ym_t h0 rfl) (fun Z24 Z24' h24 => ?_)
                      have e24_2 : ∀ a, Z24 2 0 0 a = Z24' 2 0 0 a := h24.1
                      refine dite (by simp only [e24_2]) (fun _ => ?_) (fun _ => ?_)
                      · refine dlet_Z (P := ym) (ym_t h24.1 rfl) (fun Z27 Z27' h27 => ?_)
                        exact ⟨h27, rfl⟩
                      · refine dlet_Z (P := ym) (ym_t h24.1 rfl) (fun Z28 Z28' h28 => ?_)
                        refine dlet_Z (P := ym) (hdm h28) (fun Z35 Z35' h35 => ?_)
                        have e35_2 : ∀ a, Z35 2 0 0 a = Z35' 2 0 0 a := h35.1
                        refine dlet_Z (P := ym) (ym_u h35 (by simp only [e35_2]) rfl) (fun Z38 Z38' h38 => ?_)
                        refine dlet_Z (P := ym) (ym_u h38 (by simp only [e35_2]) rfl) (fun Z39 Z39' h39 => ?_)
                        refine dlet_Z (P := ym) (ym_u h39 (by simp only [e35_2]) rfl) (fun Z40 Z40' h40 => ?_)
                        refine dlet_Z (P := ym) (ym_u h40 (by simp only [e35_2]) rfl) (fun Z41 Z41' h41 => ?_)
                        refine dlet_Z (P := ym) (ym_u h41 (by simp only [e35_2]) rfl) (fun Z42 Z42' h42 => ?_)
                        have e42_2 : ∀ a, Z42 2 0 0 a = Z42' 2 0 0 a := h42.1
                        refine dlet_Z (P := ym) (ym_u h42 rfl (by simp only [e42_2])) (fun Z45 Z45' h45 => ?_)
                        exact ⟨h45, (by simp only [e35_2])⟩
theorem dy_347 {Z Z' : qz_Z} {a1 a2 a1' a2' : Int} {dm dm' : qz_Z → Int → Int → Int → Int → Int → Int → Int → qz_Z} (hdm : zdm2 dm dm') (h0 : ym0 Z Z') (ia1 : a1 = a1') (ia2 : a2 = a2') : dMe (ym) (zy_347 Z dm a1 a2) (zy_347 Z' dm' a1' a2') := by
  subst ia1
  subst ia2
  unfold zy_347
  refine dite rfl (fun _ => ?_) (fun _ => ?_)
  · refine dlet_Z (P := ym) (ym_t h0 rfl) (fun Z5 Z5' h5 => ?_)
    exact ⟨h5, rfl⟩
  · refine dite rfl (fun _ => ?_) (fun _ => ?_)
    · refine dlet_Z (P := ym) (ym_t h0 rfl) (fun Z7 Z7' h7 => ?_)
      exact ⟨h7, rfl⟩
    · refine dite rfl (fun _ => ?_) (fun _ => ?_)
      · refine dlet_Z (P := ym) (ym_t h0 rfl) (fun Z9 Z9' h9 => ?_)
        exact ⟨h9, rfl⟩
      · refine dite rfl (fun _ => ?_) (fun _ => ?_)
        · refine dlet_Z (P := ym) (ym_t h0 rfl) (fun Z11 Z11' h11 => ?_)
          exact ⟨h11, rfl⟩
        · refine dlet_Z (P := ym) (ym_t h0 rfl) (fun Z12 Z12' h12 => ?_)
          have e12_2 : ∀ a, Z12 2 0 0 a = Z12' 2 0 0 a := h12.1
          refine dite (by simp only [e12_2]) (fun _ => ?_) (fun _ => ?_)
          · refine dlet_Z (P := ym) (ym_t h12.1 rfl) (fun Z15 Z15' h15 => ?_)
            exact ⟨h15, rfl⟩
          · refine dlet_Z (P := ym) (ym_t h12.1 rfl) (fun Z16 Z16' h16 => ?_)
            refine dlet_Z (P := ym) (hdm h16) (fun Z23 Z23' h23 => ?_)
            have e23_2 : ∀ a, Z23 2 0 0 a = Z23' 2 0 0 a := h23.1
            refine dlet_Z (P := ym) (ym_u h23 (by simp only [e23_2]) rfl) (fun Z26 Z26' h26 => ?_)
            refine dlet_Z (P := ym) (ym_u h26 (by simp only [e23_2]) rfl) (fun Z27 Z27' h27 => ?_)
            have e27_2 : ∀ a, Z27 2 0 0 a = Z27' 2 0 0 a := h27.1
            refine dlet_Z (P := ym) (ym_u h27 rfl (by simp only [e27_2])) (fun Z30 Z30' h30 => ?_)
            exact ⟨h30, (by simp only [e23_2])⟩
theorem dl_321_1 : ∀ (m : Nat) {Z Z' : qz_Z} {x1 x2 x1' x2' : Int}, ym0 Z Z' → x1 = x1' → x2 = x2' → zl_321_1 m Z x1 x2 = zl_321_1 m Z' x1' x2'
  | 0, Z, Z', x1, x2, x1', x2', h0, ix1, ix2 => by
    subst ix1
    subst ix2
    unfold zl_321_1
    exact rfl
  | m + 1, Z, Z', x1, x2, x1', x2', h0, ix1, ix2 => by
    subst ix1
    subst ix2
    have e0_2 : ∀ a, Z 2 0 0 a = Z' 2 0 0 a := h0
    unfold zl_321_1
    refine dite (by simp only [e0_2]) (fun _ => ?_) (fun _ => ?_)
    · exact rfl
    · refine dite (by simp only [e0_2]) (fun _ => ?_) (fun _ => ?_)
      · exact dl_321_1 m h0 rfl rfl
      · refine dite (by simp only [e0_2]) (fun _ => ?_) (fun _ => ?_)
        · exact dl_321_1 m h0 rfl rfl
        · exact dl_321_1 m h0 rfl rfl
theorem dq_321 {Z Z' : qz_Z} (h0 : ym0 Z Z') : zf_321 Z = zf_321 Z' := by
  unfold zf_321
  refine dlet2e (dl_321_1 _ h0 rfl rfl) (fun y1 y2 => ?_)
  exact rfl
theorem dl_327_1 : ∀ (m : Nat) {Z Z' : qz_Z} {x1 x2 x3 x4 x5 x6 x7 x8 x1' x2' x3' x4' x5' x6' x7' x8' : Int}, x1 = x1' → x2 = x2' → x3 = x3' → x4 = x4' → x5 = x5' → x6 = x6' → x7 = x7' → ym Z Z' → x8 = x8' → dMe (ym) (zl_327_1 x1 x2 x3 x4 x5 x6 x7 m Z x8) (zl_327_1 x1' x2' x3' x4' x5' x6' x7' m Z' x8')
  | 0, Z, Z', x1, x2, x3, x4, x5, x6, x7, x8, x1', x2', x3', x4', x5', x6', x7', x8', ix1, ix2, ix3, ix4, ix5, ix6, ix7, h0, ix8 => by
    subst ix1
    subst ix2
    subst ix3
    subst ix4
    subst ix5
    subst ix6
    subst ix7
    subst ix8
    unfold zl_327_1
    exact ⟨h0, rfl⟩
  | m + 1, Z, Z', x1, x2, x3, x4, x5, x6, x7, x8, x1', x2', x3', x4', x5', x6', x7', x8', ix1, ix2, ix3, ix4, ix5, ix6, ix7, h0, ix8 => by
    subst ix1
    subst ix2
    subst ix3
    subst ix4
    subst ix5
    subst ix6
    subst ix7
    subst ix8
    unfold zl_327_1
    refine dite rfl (fun _ => ?_) (fun _ => ?_)
    · exact ⟨h0, rfl⟩
    · refine dlet_Z (P := ym) (ym_u h0 rfl rfl) (fun Z3 Z3' h3 => ?_)
      exact dl_327_1 m rfl rfl rfl rfl rfl rfl rfl h3 rfl
theorem dq_327 {Z Z' : qz_Z} {a1 a2 a3 a4 a5 a6 a1' a2' a3' a4' a5' a6' : Int} (h0 : ym Z Z') (ia1 : a1 = a1') (ia2 : a2 = a2') (ia3 : a3 = a3') (ia4 : a4 = a4') (ia5 : a5 = a5') (ia6 : a6 = a6') : dMe (ym) (zf_327 Z a1 a2 a3 a4 a5 a6) (zf_327 Z' a1' a2' a3' a4' a5' a6') := by
  subst ia1
  subst ia2
  subst ia3
  subst ia4
  subst ia5
  subst ia6
  have e0_2 : ∀ a, Z 2 0 0 a = Z' 2 0 0 a := h0.1
  unfold zf_327
  refine dlet2 (dl_327_1 _ rfl rfl rfl rfl rfl rfl (by simp only [e0_2]) h0 rfl) (fun Z3 Z3' y2 h3 => ?_)
  refine dlet_Z (P := ym) (ym_u h3 (by simp only [e0_2]) rfl) (fun Z6 Z6' h6 => ?_)
  refine dlet_Z (P := ym) (ym_u h6 (by simp only [e0_2]) rfl) (fun Z7 Z7' h7 => ?_)
  have e7_2 : ∀ a, Z7 2 0 0 a = Z7' 2 0 0 a := h7.1
  refine dlet_Z (P := ym) (ym_u h7 (by simp only [e0_2]) (by simp only [e7_2])) (fun Z9 Z9' h9 => ?_)
  refine dlet_Z (P := ym) (ym_u h9 (by simp only [e0_2]) rfl) (fun Z10 Z10' h10 => ?_)
  refine dlet_Z (P := ym) (ym_u h10 (by simp only [e0_2]) rfl) (fun Z11 Z11' h11 => ?_)
  refine dlet_Z (P := ym) (ym_u h11 (by simp only [e0_2]) rfl) (fun Z12 Z12' h12 => ?_)
  refine dlet_Z (P := ym) (ym_u h12 (by simp only [e0_2]) rfl) (fun Z13 Z13' h13 => ?_)
  refine dlet_Z (P := ym) (ym_u h13 (by simp only [e0_2]) rfl) (fun Z14 Z14' h14 => ?_)
  refine dlet_Z (P := ym) (ym_u h14 (by simp only [e0_2]) rfl) (fun Z15 Z15' h15 => ?_)
  refine dlet_Z (P := ym) (ym_u h15 (by simp only [e0_2]) rfl) (fun Z20 Z20' h20 => ?_)
  have e20_2 : ∀ a, Z20 2 0 0 a = Z20' 2 0 0 a := h20.1
  refine dlet_Z (P := ym) (ym_u h20 rfl (by simp only [e20_2])) (fun Z23 Z23' h23 => ?_)
  exact ⟨h23, (by simp only [e0_2])⟩
theorem dy_335 {Z Z' : qz_Z} {a1 a2 a3 a4 a5 a1' a2' a3' a4' a5' : Int} {dm dm' : qz_Z → Int → Int → Int → Int → Int → Int → Int → qz_Z} (hdm : zdm2 dm dm') (h0 : ym0 Z Z') (ia1 : a1 = a1') (ia2 : a2 = a2') (ia3 : a3 = a3') (ia4 : a4 = a4') (ia5 : a5 = a5') : dMe (ym) (zy_335 Z dm a1 a2 a3 a4 a5) (zy_335 Z' dm' a1' a2' a3' a4' a5') := by
  subst ia1
  subst ia2
  subst ia3
  subst ia4
  subst ia5
  have e0_2 : ∀ a, Z 2 0 0 a = Z' 2 0 0 a := h0
  unfold zy_335
  refine dite rfl (fun _ => ?_) (fun _ => ?_)
  · refine dlet_Z (P := ym) (ym_t h0 rfl) (fun Z5 Z5' h5 => ?_)
    exact ⟨h5, rfl⟩
  · refine dite (by simp only [e0_2]) (fun _ => ?_) (fun _ => ?_)
    · refine dlet_Z (P := ym) (ym_t h0 rfl) (fun Z8 Z8' h8 => ?_)
      exact ⟨h8, rfl⟩
    · refine dite rfl (fun _ => ?_) (fun _ => ?_)
      · refine dlet_Z (P := ym) (ym_t h0 rfl) (fun Z10 Z10' h10 => ?_)
        exact ⟨h10, rfl⟩
      · refine dite (by simp only [e0_2]) (fun _ => ?_) (fun _ => ?_)
        · refine dlet_Z (P := ym) (ym_t h0 rfl) (fun Z13 Z13' h13 => ?_)
          exact ⟨h13, rfl⟩
        · refine dlet_Z (P := ym) (ym_t h0 rfl) (fun Z14 Z14' h14 => ?_)
          refine dite rfl (fun _ => ?_) (fun _ => ?_)
          · refine dlet_Z (P := ym) (ym_t h14.1 rfl) (fun Z16 Z16' h16 => ?_)
            exact ⟨h16, rfl⟩
          · refine dite rfl (fun _ => ?_) (fun _ => ?_)
            · refine dlet_Z (P := ym) (ym_t h14.1 rfl) (fun Z18 Z18' h18 => ?_)
              exact ⟨h18, rfl⟩
            · refine dite rfl (fun _ => ?_) (fun _ => ?_)
              · refine dlet_Z (P := ym) (ym_t h14.1 rfl) (fun Z20 Z20' h20 => ?_)
                exact ⟨h20, rfl⟩
              · refine dite rfl (fun _ => ?_) (fun _ => ?_)
                · refine dlet_Z (P := ym) (ym_t h14.1 rfl) (fun Z22 Z22' h22 => ?_)
                  exact ⟨h22, rfl⟩
                · refine dite rfl (fun _ => ?_) (fun _ => ?_)
                  · refine dlet_Z (P := ym) (ym_t h14.1 rfl) (fun Z24 Z24' h24 => ?_)
                    exact ⟨h24, rfl⟩
                  · refine dite rfl (fun _ => ?_) (fun _ => ?_)
                    · refine dlet_Z (P := ym) (ym_t h14.1 rfl) (fun Z26 Z26' h26 => ?_)
                      exact ⟨h26, rfl⟩
                    · refine dlet_Z (P := ym) (ym_t h14.1 rfl) (fun Z27 Z27' h27 => ?_)
                      have e27_2 : ∀ a, Z27 2 0 0 a = Z27' 2 0 0 a := h27.1
                      have p27_321 : zf_321 Z27 = zf_321 Z27' := dq_321 h27.1
                      refine dite (by simp only [e27_2]) (fun _ => ?_) (fun _ => ?_)
                      · refine dlet_Z (P := ym) (ym_t h27.1 rfl) (fun Z30 Z30' h30 => ?_)
                        exact ⟨h30, rfl⟩
                      · refine dlet_i (by simp only [p27_321]) (fun v31 => ?_)
                        refine dite rfl (fun _ => ?_) (fun _ => ?_)
                        · refine dlet_Z (P := ym) (ym_t h27.1 rfl) (fun Z33 Z33' h33 => ?_)
                          exact ⟨h33, rfl⟩
                        · refine dlet_Z (P := ym) (ym_t h27.1 rfl) (fun Z34 Z34' h34 => ?_)
                          refine dlet_Z (P := ym) (hdm h34) (fun Z41 Z41' h41 => ?_)
                          refine dlet2 (dq_327 h41 rfl rfl rfl rfl rfl rfl) (fun Z44 Z44' v45 h44 => ?_)
                          exact ⟨h44, rfl⟩
theorem dl_322_1 : ∀ (m : Nat) {Z Z' : qz_Z} {x1 x2 x3 x4 x5 x1' x2' x3' x4' x5' : Int}, x1 = x1' → x2 = x2' → x3 = x3' → ym3 Z Z' → x4 = x4' → x5 = x5' → dMe (ym3) (zl_322_1 x1 x2 x3 m Z x4 x5) (zl_322_1 x1' x2' x3' m Z' x4' x5')
  | 0, Z, Z', x1, x2, x3, x4, x5, x1', x2', x3', x4', x5', ix1, ix2, ix3, h0, ix4, ix5 => by
    subst ix1
    subst ix2
    subst ix3
    subst ix4
    subst ix5
    unfold zl_322_1
    exact ⟨h0, rfl⟩
  | m + 1, Z, Z', x1, x2, x3, x4, x5, x1', x2', x3', x4', x5', ix1, ix2, ix3, h0, ix4, ix5 => by
    subst ix1
    subst ix2
    subst ix3
    subst ix4
    subst ix5
    have e0_3 : Z 1 0 0 3 = Z' 1 0 0 3 := h0.2
    unfold zl_322_1
    refine dite rfl (fun _ => ?_) (fun _ => ?_)
    · exact ⟨h0, rfl⟩
    · refine dlet_Z (P := ym3) (ym_3 h0.1 (by simp only [e0_3])) (fun Z3 Z3' h3 => ?_)
      have e3_3 : Z3 1 0 0 3 = Z3' 1 0 0 3 := h3.2
      refine dite (by simp only [e3_3]) (fun _ => ?_) (fun _ => ?_)
      · exact dl_322_1 m rfl rfl rfl h3 rfl rfl
      · exact dl_322_1 m rfl rfl rfl h3 rfl rfl
theorem dq_322 {Z Z' : qz_Z} {a1 a2 a3 a1' a2' a3' : Int} (h0 : ym3 Z Z') (ia1 : a1 = a1') (ia2 : a2 = a2') (ia3 : a3 = a3') : dMe (ym3) (zf_322 Z a1 a2 a3) (zf_322 Z' a1' a2' a3') := by
  subst ia1
  subst ia2
  subst ia3
  unfold zf_322
  refine dlet3 (dl_322_1 _ rfl rfl rfl h0 rfl rfl) (fun Z3 Z3' y1 y2 h3 => ?_)
  exact ⟨h3, rfl⟩
theorem dq_326 {Z Z' : qz_Z} {a1 a1' : Int} (h0 : ym0 Z Z') (ia1 : a1 = a1') : zf_326 Z a1 = zf_326 Z' a1' := by
  subst ia1
  have e0_2 : ∀ a, Z 2 0 0 a = Z' 2 0 0 a := h0
  unfold zf_326
  refine dite (by simp only [e0_2]) (fun _ => ?_) (fun _ => ?_)
  · refine dite (by simp only [e0_2]) (fun _ => ?_) (fun _ => ?_)
    · refine dite (by simp only [e0_2]) (fun _ => ?_) (fun _ => ?_)
      · exact rfl
      · exact rfl
    · exact rfl
  · exact rfl
theorem dq_403 {Z Z' : qz_Z} {a1 a2 a3 a4 a1' a2' a3' a4' : Int} (h0 : ym Z Z') (ia1 : a1 = a1') (ia2 : a2 = a2') (ia3 : a3 = a3') (ia4 : a4 = a4') : ym (zf_403 Z a1 a2 a3 a4) (zf_403 Z' a1' a2' a3' a4') := by
  subst ia1
  subst ia2
  subst ia3
  subst ia4
  have e0_2 : ∀ a, Z 2 0 0 a = Z' 2 0 0 a := h0.1
  unfold zf_403
  refine dite rfl (fun _ => ?_) (fun _ => ?_)
  · refine dlet_Z (P := ym) (ym_u h0 rfl (by simp only [e0_2])) (fun Z4 Z4' h4 => ?_)
    have e4_2 : ∀ a, Z4 2 0 0 a = Z4' 2 0 0 a := h4.1
    refine dlet_Z (P := ym) (ym_u h4 rfl (by simp only [e4_2])) (fun Z7 Z7' h7 => ?_)
    have e7_2 : ∀ a, Z7 2 0 0 a = Z7' 2 0 0 a := h7.1
    refine dlet_Z (P := ym) (ym_u h7 (by simp only [e7_2]) rfl) (fun Z9 Z9' h9 => ?_)
    refine dlet_Z (P := ym) (ym_u h9 (by simp only [e7_2]) rfl) (fun Z10 Z10' h10 => ?_)
    refine dlet_Z (P := ym) (ym_u h10 (by simp only [e7_2]) rfl) (fun Z11 Z11' h11 => ?_)
    refine dlet_Z (P := ym) (ym_u h11 (by simp only [e7_2]) rfl) (fun Z12 Z12' h12 => ?_)
    have e12_2 : ∀ a, Z12 2 0 0 a = Z12' 2 0 0 a := h12.1
    refine dlet_Z (P := ym) (ym_u h12 (by simp only [e7_2]) (by simp only [e12_2])) (fun Z14 Z14' h14 => ?_)
    have e14_2 : ∀ a, Z14 2 0 0 a = Z14' 2 0 0 a := h14.1
    refine dlet_Z (P := ym) (ym_u h14 rfl (by simp only [e14_2])) (fun Z17 Z17' h17 => ?_)
    exact h17
  · exact h0
theorem dy_345 {Z Z' : qz_Z} {a1 a2 a3 a4 a1' a2' a3' a4' : Int} {dm dm' : qz_Z → Int → Int → Int → Int → Int → Int → Int → qz_Z} (hdm : zdm2 dm dm') (h0 : ym0 Z Z') (ia1 : a1 = a1') (ia2 : a2 = a2') (ia3 : a3 = a3') (ia4 : a4 = a4') : dMe (ym) (zy_345 Z dm a1 a2 a3 a4) (zy_345 Z' dm' a1' a2' a3' a4') := by
  subst ia1
  subst ia2
  subst ia3
  subst ia4
  have e0_2 : ∀ a, Z 2 0 0 a = Z' 2 0 0 a := h0
  unfold zy_345
  refine dite rfl (fun _ => ?_) (fun _ => ?_)
  · refine dlet_Z (P := ym) (ym_t h0 rfl) (fun Z5 Z5' h5 => ?_)
    exact ⟨h5, rfl⟩
  · refine dite (by simp only [e0_2]) (fun _ => ?_) (fun _ => ?_)
    · refine dlet_Z (P := ym) (ym_t h0 rfl) (fun Z8 Z8' h8 => ?_)
      exact ⟨h8, rfl⟩
    · refine dlet_Z (P := ym) (ym_t h0 rfl) (fun Z9 Z9' h9 => ?_)
      refine dite rfl (fun _ => ?_) (fun _ => ?_)
      · refine dlet_Z (P := ym) (ym_t h9.1 rfl) (fun Z11 Z11' h11 => ?_)
        exact ⟨h11, rfl⟩
      · refine dite rfl (fun _ => ?_) (fun _ => ?_)
        · refine dlet_Z (P := ym) (ym_t h9.1 rfl) (fun Z13 Z13' h13 => ?_)
          exact ⟨h13, rfl⟩
        · refine dite rfl (fun _ => ?_) (fun _ => ?_)
          · refine dlet_Z (P := ym) (ym_t h9.1 rfl) (fun Z15 Z15' h15 => ?_)
            exact ⟨h15, rfl⟩
          · refine dite rfl (fun _ => ?_) (fun _ => ?_)
            · refine dlet_Z (P := ym) (ym_t h9.1 rfl) (fun Z17 Z17' h17 => ?_)
              exact ⟨h17, rfl⟩
            · refine dite rfl (fun _ => ?_) (fun _ => ?_)
              · refine dlet_Z (P := ym) (ym_t h9.1 rfl) (fun Z19 Z19' h19 => ?_)
                exact ⟨h19, rfl⟩
              · refine dite rfl (fun _ => ?_) (fun _ => ?_)
                · refine dlet_Z (P := ym) (ym_t h9.1 rfl) (fun Z21 Z21' h21 => ?_)
                  exact ⟨h21, rfl⟩
                · refine dlet_Z (P := ym) (ym_t h9.1 rfl) (fun Z22 Z22' h22 => ?_)
                  have e22_2 : ∀ a, Z22 2 0 0 a = Z22' 2 0 0 a := h22.1
                  refine dite (by simp only [e22_2]) (fun _ => ?_) (fun _ => ?_)
                  · refine dlet_Z (P := ym) (ym_t h22.1 rfl) (fun Z28 Z28' h28 => ?_)
                    exact ⟨h28, rfl⟩
                  · refine dite (by simp only [e22_2]) (fun _ => ?_) (fun _ => ?_)
                    · refine dlet_Z (P := ym) (ym_t h22.1 rfl) (fun Z31 Z31' h31 => ?_)
                      exact ⟨h31, rfl⟩
                    · refine dlet_Z (P := ym) (ym_t h22.1 rfl) (fun Z32 Z32' h32 => ?_)
                      refine dlet_Z (P := ym) (hdm h32) (fun Z39 Z39' h39 => ?_)
                      refine dlet_Z (P := ym3) (ym_3 h39 rfl) (fun Z40 Z40' h40 => ?_)
                      have e40_2 : ∀ a, Z40 2 0 0 a = Z40' 2 0 0 a := h40.1.1
                      refine dlet2 (dq_322 h40 (by simp only [e40_2]) (by simp only [e40_2]) rfl) (fun Z44 Z44' v45 h44 => ?_)
                      have p44_326 : ∀ u1 : Int, zf_326 Z44 u1 = zf_326 Z44' u1 := fun u1 => dq_326 h44.1.1 rfl
                      refine dite rfl (fun _ => ?_) (fun _ => ?_)
                      · refine dite rfl (fun _ => ?_) (fun _ => ?_)
                        · refine dite rfl (fun _ => ?_) (fun _ => ?_)
                          · refine dlet_i (by simp only [p44_326]) (fun v49 => ?_)
                            refine dlet_Z (P := ym3) (ym3_u h44 rfl rfl) (fun Z50 Z50' h50 => ?_)
                            have e50_2 : ∀ a, Z50 2 0 0 a = Z50' 2 0 0 a := h50.1.1
                            refine dlet_Z (P := ym3) (ym3_u h50 rfl (by simp only [e50_2])) (fun Z53 Z53' h53 => ?_)
                            refine dlet_Z (P := ym3) (ym3_u h53 rfl rfl) (fun Z54 Z54' h54 => ?_)
                            have e54_2 : ∀ a, Z54 2 0 0 a = Z54' 2 0 0 a := h54.1.1
                            refine dlet_Z (P := ym) (dq_403 h54.1 rfl rfl (by simp only [e54_2]) rfl) (fun Z57 Z57' h57 => ?_)
                            have e57_2 : ∀ a, Z57 2 0 0 a = Z57' 2 0 0 a := h57.1
                            exact ⟨h57, (by simp only [e57_2])⟩
                          · refine dlet_i (by simp only [p44_326]) (fun v59 => ?_)
                            refine dite rfl (fun _ => ?_) (fun _ => ?_)
                            · refine dlet_Z (P := ym3) (ym3_u h44 rfl rfl) (fun Z61 Z61' h61 => ?_)
                              have e61_2 : ∀ a, Z61 2 0 0 a = Z61' 2 0 0 a := h61.1.1
                              refine dlet_Z (P := ym3) (ym3_u h61 rfl (by simp only [e61_2])) (fun Z64 Z64' h64 => ?_)
                              refine dlet_Z (P := ym3) (ym3_u h64 rfl rfl) (fun Z65 Z65' h65 => ?_)
                              have e65_2 : ∀ a, Z65 2 0 0 a = Z65' 2 0 0 a := h65.1.1
                              refine dlet_Z (P := ym) (dq_403 h65.1 rfl rfl (by simp only [e65_2]) rfl) (fun Z68 Z68' h68 => ?_)
                              have e68_2 : ∀ a, Z68 2 0 0 a = Z68' 2 0 0 a := h68.1
                              exact ⟨h68, (by simp only [e68_2])⟩
                            · refine dlet_Z (P := ym3) (ym3_u h44 rfl rfl) (fun Z70 Z70' h70 => ?_)
                              have e70_2 : ∀ a, Z70 2 0 0 a = Z70' 2 0 0 a := h70.1.1
                              refine dlet_Z (P := ym3) (ym3_u h70 rfl (by simp only [e70_2])) (fun Z73 Z73' h73 => ?_)
                              refine dlet_Z (P := ym3) (ym3_u h73 rfl rfl) (fun Z74 Z74' h74 => ?_)
                              have e74_2 : ∀ a, Z74 2 0 0 a = Z74' 2 0 0 a := h74.1.1
                              refine dlet_Z (P := ym) (dq_403 h74.1 rfl rfl (by simp only [e74_2]) rfl) (fun Z77 Z77' h77 => ?_)
                              have e77_2 : ∀ a, Z77 2 0 0 a = Z77' 2 0 0 a := h77.1
                              exact ⟨h77, (by simp only [e77_2])⟩
                        · refine dlet_i (by simp only [p44_326]) (fun v79 => ?_)
                          refine dite rfl (fun _ => ?_) (fun _ => ?_)
                          · refine dlet_Z (P := ym3) (ym3_u h44 rfl rfl) (fun Z81 Z81' h81 => ?_)
                            have e81_2 : ∀ a, Z81 2 0 0 a = Z81' 2 0 0 a := h81.1.1
                            refine dlet_Z (P := ym3) (ym3_u h81 rfl (by simp only [e81_2])) (fun Z84 Z84' h84 => ?_)
                            refine dlet_Z (P := ym3) (ym3_u h84 rfl rfl) (fun Z85 Z85' h85 => ?_)
                            have e85_2 : ∀ a, Z85 2 0 0 a = Z85' 2 0 0 a := h85.1.1
                            refine dlet_Z (P := ym) (dq_403 h85.1 rfl rfl (by simp only [e85_2]) rfl) (fun Z88 Z88' h88 => ?_)
                            have e88_2 : ∀ a, Z88 2 0 0 a = Z88' 2 0 0 a := h88.1
                            exact ⟨h88, (by simp only [e88_2])⟩
                          · refine dlet_Z (P := ym3) (ym3_u h44 rfl rfl) (fun Z90 Z90' h90 => ?_)
                            have e90_2 : ∀ a, Z90 2 0 0 a = Z90' 2 0 0 a := h90.1.1
                            refine dlet_Z (P := ym3) (ym3_u h90 rfl (by simp only [e90_2])) (fun Z93 Z93' h93 => ?_)
                            refine dlet_Z (P := ym3) (ym3_u h93 rfl rfl) (fun Z94 Z94' h94 => ?_)
                            have e94_2 : ∀ a, Z94 2 0 0 a = Z94' 2 0 0 a := h94.1.1
                            refine dlet_Z (P := ym) (dq_403 h94.1 rfl rfl (by simp only [e94_2]) rfl) (fun Z97 Z97' h97 => ?_)
                            have e97_2 : ∀ a, Z97 2 0 0 a = Z97' 2 0 0 a := h97.1
                            exact ⟨h97, (by simp only [e97_2])⟩
                      · refine dlet_i (by simp only [p44_326]) (fun v99 => ?_)
                        refine dite rfl (fun _ => ?_) (fun _ => ?_)
                        · refine dlet_Z (P := ym3) (ym3_u h44 rfl rfl) (fun Z101 Z101' h101 => ?_)
                          have e101_2 : ∀ a, Z101 2 0 0 a = Z101' 2 0 0 a := h101.1.1
                          refine dlet_Z (P := ym3) (ym3_u h101 rfl (by simp only [e101_2])) (fun Z104 Z104' h104 => ?_)
                          refine dlet_Z (P := ym3) (ym3_u h104 rfl rfl) (fun Z105 Z105' h105 => ?_)
                          have e105_2 : ∀ a, Z105 2 0 0 a = Z105' 2 0 0 a := h105.1.1
                          refine dlet_Z (P := ym) (dq_403 h105.1 rfl rfl (by simp only [e105_2]) rfl) (fun Z108 Z108' h108 => ?_)
                          have e108_2 : ∀ a, Z108 2 0 0 a = Z108' 2 0 0 a := h108.1
                          exact ⟨h108, (by simp only [e108_2])⟩
                        · refine dlet_Z (P := ym3) (ym3_u h44 rfl rfl) (fun Z110 Z110' h110 => ?_)
                          have e110_2 : ∀ a, Z110 2 0 0 a = Z110' 2 0 0 a := h110.1.1
                          refine dlet_Z (P := ym3) (ym3_u h110 rfl (by simp only [e110_2])) (fun Z113 Z113' h113 => ?_)
                          refine dlet_Z (P := ym3) (ym3_u h113 rfl rfl) (fun Z114 Z114' h114 => ?_)
                          have e114_2 : ∀ a, Z114 2 0 0 a = Z114' 2 0 0 a := h114.1.1
                          refine dlet_Z (P := ym) (dq_403 h114.1 rfl rfl (by simp only [e114_2]) rfl) (fun Z117 Z117' h117 => ?_)
                          have e117_2 : ∀ a, Z117 2 0 0 a = Z117' 2 0 0 a := h117.1
                          exact ⟨h117, (by simp only [e117_2])⟩
theorem dl_485_1 : ∀ (m : Nat) {Z Z' : qz_Z} {x1 x2 x3 x4 x5 x6 x1' x2' x3' x4' x5' x6' : Int}, x1 = x1' → x2 = x2' → x3 = x3' → x4 = x4' → x5 = x5' → ym Z Z' → x6 = x6' → dMe (ym) (zl_485_1 x1 x2 x3 x4 x5 m Z x6) (zl_485_1 x1' x2' x3' x4' x5' m Z' x6')
  | 0, Z, Z', x1, x2, x3, x4, x5, x6, x1', x2', x3', x4', x5', x6', ix1, ix2, ix3, ix4, ix5, h0, ix6 => by
    subst ix1
    subst ix2
    subst ix3
    subst ix4
    subst ix5
    subst ix6
    unfold zl_485_1
    exact ⟨h0, rfl⟩
  | m + 1, Z, Z', x1, x2, x3, x4, x5, x6, x1', x2', x3', x4', x5', x6', ix1, ix2, ix3, ix4, ix5, h0, ix6 => by
    subst ix1
    subst ix2
    subst ix3
    subst ix4
    subst ix5
    subst ix6
    unfold zl_485_1
    refine dite rfl (fun _ => ?_) (fun _ => ?_)
    · exact ⟨h0, rfl⟩
    · refine dlet_Z (P := ym) (ym_u h0 rfl rfl) (fun Z3 Z3' h3 => ?_)
      exact dl_485_1 m rfl rfl rfl rfl rfl h3 rfl
theorem dq_485 {Z Z' : qz_Z} {a1 a2 a3 a4 a1' a2' a3' a4' : Int} (h0 : ym Z Z') (ia1 : a1 = a1') (ia2 : a2 = a2') (ia3 : a3 = a3') (ia4 : a4 = a4') : dMe (ym) (zf_485 Z a1 a2 a3 a4) (zf_485 Z' a1' a2' a3' a4') := by
  subst ia1
  subst ia2
  subst ia3
  subst ia4
  have e0_2 : ∀ a, Z 2 0 0 a = Z' 2 0 0 a := h0.1
  unfold zf_485
  refine dlet2 (dl_485_1 _ rfl rfl rfl rfl (by simp only [e0_2]) h0 rfl) (fun Z3 Z3' y2 h3 => ?_)
  refine dlet_Z (P := ym) (ym_u h3 (by simp only [e0_2]) rfl) (fun Z6 Z6' h6 => ?_)
  refine dlet_Z (P := ym) (ym_u h6 (by simp only [e0_2]) rfl) (fun Z7 Z7' h7 => ?_)
  refine dlet_Z (P := ym) (ym_u h7 (by simp only [e0_2]) rfl) (fun Z8 Z8' h8 => ?_)
  refine dlet_Z (P := ym) (ym_u h8 (by simp only [e0_2]) rfl) (fun Z9 Z9' h9 => ?_)
  refine dlet_Z (P := ym) (ym_u h9 (by simp only [e0_2]) rfl) (fun Z10 Z10' h10 => ?_)
  have e10_2 : ∀ a, Z10 2 0 0 a = Z10' 2 0 0 a := h10.1
  refine dlet_Z (P := ym) (ym_u h10 rfl (by simp only [e10_2])) (fun Z13 Z13' h13 => ?_)
  exact ⟨h13, (by simp only [e0_2])⟩
theorem dy_495 {Z Z' : qz_Z} {a1 a2 a3 a1' a2' a3' : Int} {dm dm' : qz_Z → Int → Int → Int → Int → Int → Int → Int → qz_Z} (hdm : zdm2 dm dm') (h0 : ym0 Z Z') (ia1 : a1 = a1') (ia2 : a2 = a2') (ia3 : a3 = a3') : dMe (ym) (zy_495 Z dm a1 a2 a3) (zy_495 Z' dm' a1' a2' a3') := by
  subst ia1
  subst ia2
  subst ia3
  unfold zy_495
  refine dite rfl (fun _ => ?_) (fun _ => ?_)
  · refine dlet_Z (P := ym) (ym_t h0 rfl) (fun Z5 Z5' h5 => ?_)
    exact ⟨h5, rfl⟩
  · refine dite rfl (fun _ => ?_) (fun _ => ?_)
    · refine dlet_Z (P := ym) (ym_t h0 rfl) (fun Z7 Z7' h7 => ?_)
      exact ⟨h7, rfl⟩
    · refine dite rfl (fun _ => ?_) (fun _ => ?_)
      · refine dlet_Z (P := ym) (ym_t h0 rfl) (fun Z9 Z9' h9 => ?_)
        exact ⟨h9, rfl⟩
      · refine dite rfl (fun _ => ?_) (fun _ => ?_)
        · refine dlet_Z (P := ym) (ym_t h0 rfl) (fun Z11 Z11' h11 => ?_)
          exact ⟨h11, rfl⟩
        · refine dite rfl (fun _ => ?_) (fun _ => ?_)
          · refine dlet_Z (P := ym) (ym_t h0 rfl) (fun Z13 Z13' h13 => ?_)
            exact ⟨h13, rfl⟩
          · refine dite rfl (fun _ => ?_) (fun _ => ?_)
            · refine dlet_Z (P := ym) (ym_t h0 rfl) (fun Z15 Z15' h15 => ?_)
              exact ⟨h15, rfl⟩
            · refine dlet_Z (P := ym) (ym_t h0 rfl) (fun Z16 Z16' h16 => ?_)
              have e16_2 : ∀ a, Z16 2 0 0 a = Z16' 2 0 0 a := h16.1
              refine dite (by simp only [e16_2]) (fun _ => ?_) (fun _ => ?_)
              · refine dlet_Z (P := ym) (ym_t h16.1 rfl) (fun Z19 Z19' h19 => ?_)
                exact ⟨h19, rfl⟩
              · refine dlet_Z (P := ym) (ym_t h16.1 rfl) (fun Z20 Z20' h20 => ?_)
                refine dlet_Z (P := ym) (hdm h20) (fun Z27 Z27' h27 => ?_)
                have e27_2 : ∀ a, Z27 2 0 0 a = Z27' 2 0 0 a := h27.1
                refine dlet2 (dq_485 h27 rfl rfl rfl (by simp only [e27_2])) (fun Z32 Z32' v33 h32 => ?_)
                exact ⟨h32, rfl⟩
theorem dy_500 {Z Z' : qz_Z} {a1 a2 a1' a2' : Int} {dm dm' : qz_Z → Int → Int → Int → Int → Int → Int → Int → qz_Z} (hdm : zdm2 dm dm') (h0 : ym0 Z Z') (ia1 : a1 = a1') (ia2 : a2 = a2') : dMe (ym) (zy_500 Z dm a1 a2) (zy_500 Z' dm' a1' a2') := by
  subst ia1
  subst ia2
  have e0_2 : ∀ a, Z 2 0 0 a = Z' 2 0 0 a := h0
  unfold zy_500
  refine dite rfl (fun _ => ?_) (fun _ => ?_)
  · refine dlet_Z (P := ym) (ym_t h0 rfl) (fun Z5 Z5' h5 => ?_)
    exact ⟨h5, rfl⟩
  · refine dite (by simp only [e0_2]) (fun _ => ?_) (fun _ => ?_)
    · refine dlet_Z (P := ym) (ym_t h0 rfl) (fun Z8 Z8' h8 => ?_)
      exact ⟨h8, rfl⟩
    · refine dlet_Z (P := ym) (ym_t h0 rfl) (fun Z9 Z9' h9 => ?_)
      refine dite rfl (fun _ => ?_) (fun _ => ?_)
      · refine dlet_Z (P := ym) (ym_t h9.1 rfl) (fun Z11 Z11' h11 => ?_)
        exact ⟨h11, rfl⟩
      · refine dite rfl (fun _ => ?_) (fun _ => ?_)
        · refine dlet_Z (P := ym) (ym_t h9.1 rfl) (fun Z13 Z13' h13 => ?_)
          exact ⟨h13, rfl⟩
        · refine dlet_Z (P := ym) (ym_t h9.1 rfl) (fun Z14 Z14' h14 => ?_)
          refine dlet_Z (P := ym) (hdm h14) (fun Z21 Z21' h21 => ?_)
          have e21_2 : ∀ a, Z21 2 0 0 a = Z21' 2 0 0 a := h21.1
          refine dlet_Z (P := ym) (ym_u h21 rfl rfl) (fun Z22 Z22' h22 => ?_)
          exact ⟨h22, (by simp only [e21_2])⟩
theorem dy_344 {Z Z' : qz_Z} {a1 a2 a1' a2' : Int} {dm dm' : qz_Z → Int → Int → Int → Int → Int → Int → Int → qz_Z} (hdm : zdm2 dm dm') (h0 : ym0 Z Z') (ia1 : a1 = a1') (ia2 : a2 = a2') : dMe (ym) (zy_344 Z dm a1 a2) (zy_344 Z' dm' a1' a2') := by
  subst ia1
  subst ia2
  have e0_2 : ∀ a, Z 2 0 0 a = Z' 2 0 0 a := h0
  unfold zy_344
  refine dite rfl (fun _ => ?_) (fun _ => ?_)
  · refine dlet_Z (P := ym) (ym_t h0 rfl) (fun Z5 Z5' h5 => ?_)
    exact ⟨h5, rfl⟩
  · refine dite (by simp only [e0_2]) (fun _ => ?_) (fun _ => ?_)
    · refine dlet_Z (P := ym) (ym_t h0 rfl) (fun Z8 Z8' h8 => ?_)
      exact ⟨h8, rfl⟩
    · refine dlet_Z (P := ym) (ym_t h0 rfl) (fun Z9 Z9' h9 => ?_)
      refine dite rfl (fun _ => ?_) (fun _ => ?_)
      · refine dlet_Z (P := ym) (hdm h9) (fun Z17 Z17' h17 => ?_)
        have e17_2 : ∀ a, Z17 2 0 0 a = Z17' 2 0 0 a := h17.1
        refine dite (by simp only [e17_2]) (fun _ => ?_) (fun _ => ?_)
        · refine dlet_Z (P := ym) (ym_u h17 rfl rfl) (fun Z20 Z20' h20 => ?_)
          exact ⟨h20, rfl⟩
        · refine dlet_Z (P := ym) (ym_u h17 rfl rfl) (fun Z21 Z21' h21 => ?_)
          exact ⟨h21, rfl⟩
      · refine dlet_Z (P := ym) (hdm h9) (fun Z28 Z28' h28 => ?_)
        have e28_2 : ∀ a, Z28 2 0 0 a = Z28' 2 0 0 a := h28.1
        refine dite (by simp only [e28_2]) (fun _ => ?_) (fun _ => ?_)
        · refine dlet_Z (P := ym) (ym_u h28 rfl rfl) (fun Z31 Z31' h31 => ?_)
          exact ⟨h31, rfl⟩
        · refine dlet_Z (P := ym) (ym_u h28 rfl rfl) (fun Z32 Z32' h32 => ?_)
          exact ⟨h32, rfl⟩
theorem dy_443 {Z Z' : qz_Z} {a1 a2 a1' a2' : Int} {dm dm' : qz_Z → Int → Int → Int → Int → Int → Int → Int → qz_Z} (hdm : zdm2 dm dm') (h0 : ym0 Z Z') (ia1 : a1 = a1') (ia2 : a2 = a2') : dMe (ym) (zy_443 Z dm a1 a2) (zy_443 Z' dm' a1' a2') := by
  subst ia1
  subst ia2
  unfold zy_443
  refine dite rfl (fun _ => ?_) (fun _ => ?_)
  · refine dlet_Z (P := ym) (ym_t h0 rfl) (fun Z5 Z5' h5 => ?_)
    exact ⟨h5, rfl⟩
  · refine dite rfl (fun _ => ?_) (fun _ => ?_)
    · refine dlet_Z (P := ym) (ym_t h0 rfl) (fun Z7 Z7' h7 => ?_)
      exact ⟨h7, rfl⟩
    · refine dite rfl (fun _ => ?_) (fun _ => ?_)
      · refine dlet_Z (P := ym) (ym_t h0 rfl) (fun Z9 Z9' h9 => ?_)
        exact ⟨h9, rfl⟩
      · refine dite rfl (fun _ => ?_) (fun _ => ?_)
        · refine dlet_Z (P := ym) (ym_t h0 rfl) (fun Z11 Z11' h11 => ?_)
          exact ⟨h11, rfl⟩
        · refine dlet_Z (P := ym) (ym_t h0 rfl) (fun Z12 Z12' h12 => ?_)
          have e12_2 : ∀ a, Z12 2 0 0 a = Z12' 2 0 0 a := h12.1
          refine dite (by simp only [e12_2]) (fun _ => ?_) (fun _ => ?_)
          · refine dlet_Z (P := ym) (ym_t h12.1 rfl) (fun Z15 Z15' h15 => ?_)
            exact ⟨h15, rfl⟩
          · refine dlet_Z (P := ym) (ym_t h12.1 rfl) (fun Z16 Z16' h16 => ?_)
            refine dlet_Z (P := ym) (hdm h16) (fun Z23 Z23' h23 => ?_)
            have e23_2 : ∀ a, Z23 2 0 0 a = Z23' 2 0 0 a := h23.1
            refine dlet_Z (P := ym) (ym_u h23 rfl rfl) (fun Z24 Z24' h24 => ?_)
            exact ⟨h24, (by simp only [e23_2])⟩
theorem dq_390 {Z Z' : qz_Z} {a1 a1' : Int} (h0 : ym0 Z Z') (ia1 : a1 = a1') : zf_390 Z a1 = zf_390 Z' a1' := by
  subst ia1
  have e0_2 : ∀ a, Z 2 0 0 a = Z' 2 0 0 a := h0
  unfold zf_390
  refine dite rfl (fun _ => ?_) (fun _ => ?_)
  · exact rfl
  · refine dite rfl (fun _ => ?_) (fun _ => ?_)
    · exact rfl
    · refine dite (by simp only [e0_2]) (fun _ => ?_) (fun _ => ?_)
      · exact rfl
      · exact rfl
theorem dl_488_1 : ∀ (m : Nat) {Z Z' : qz_Z} {x1 x2 x3 x1' x2' x3' : Int}, x1 = x1' → ym0 Z Z' → x2 = x2' → x3 = x3' → zl_488_1 x1 m Z x2 x3 = zl_488_1 x1' m Z' x2' x3'
  | 0, Z, Z', x1, x2, x3, x1', x2', x3', ix1, h0, ix2, ix3 => by
    subst ix1
    subst ix2
    subst ix3
    unfold zl_488_1
    exact rfl
  | m + 1, Z, Z', x1, x2, x3, x1', x2', x3', ix1, h0, ix2, ix3 => by
    subst ix1
    subst ix2
    subst ix3
    have e0_2 : ∀ a, Z 2 0 0 a = Z' 2 0 0 a := h0
    unfold zl_488_1
    refine dite (by simp only [e0_2]) (fun _ => ?_) (fun _ => ?_)
    · exact rfl
    · refine dite (by simp only [e0_2]) (fun _ => ?_) (fun _ => ?_)
      · exact dl_488_1 m rfl h0 rfl rfl
      · refine dite (by simp only [e0_2]) (fun _ => ?_) (fun _ => ?_)
        · exact dl_488_1 m rfl h0 rfl rfl
        · exact dl_488_1 m rfl h0 rfl rfl
theorem dq_488 {Z Z' : qz_Z} {a1 a1' : Int} (h0 : ym0 Z Z') (ia1 : a1 = a1') : zf_488 Z a1 = zf_488 Z' a1' := by
  subst ia1
  unfold zf_488
  refine dlet2e (dl_488_1 _ rfl h0 rfl rfl) (fun y1 y2 => ?_)
  exact rfl
theorem dq_477 {Z Z' : qz_Z} {a1 a2 a1' a2' : Int} (h0 : ym0 Z Z') (ia1 : a1 = a1') (ia2 : a2 = a2') : zf_477 Z a1 a2 = zf_477 Z' a1' a2' := by
  subst ia1
  subst ia2
  have e0_2 : ∀ a, Z 2 0 0 a = Z' 2 0 0 a := h0
  have p0_390 : ∀ u1 : Int, zf_390 Z u1 = zf_390 Z' u1 := fun u1 => dq_390 h0 rfl
  have p0_488 : ∀ u1 : Int, zf_488 Z u1 = zf_488 Z' u1 := fun u1 => dq_488 h0 rfl
  unfold zf_477
  refine dite (by simp only [e0_2]) (fun _ => ?_) (fun _ => ?_)
  · exact rfl
  · refine dite (by simp only [e0_2]) (fun _ => ?_) (fun _ => ?_)
    · exact rfl
    · refine dlet_i (by simp only [e0_2, p0_390]) (fun v7 => ?_)
      refine dite rfl (fun _ => ?_) (fun _ => ?_)
      · exact rfl
      · refine dlet_i (by simp only [p0_390]) (fun v9 => ?_)
        refine dite rfl (fun _ => ?_) (fun _ => ?_)
        · exact rfl
        · refine dite rfl (fun _ => ?_) (fun _ => ?_)
          · refine dlet_i (by simp only [p0_488]) (fun v12 => ?_)
            refine dite (by simp only [e0_2]) (fun _ => ?_) (fun _ => ?_)
            · exact rfl
            · exact rfl
          · refine dlet_i (by simp only [p0_488]) (fun v15 => ?_)
            refine dite rfl (fun _ => ?_) (fun _ => ?_)
            · exact rfl
            · exact rfl
theorem dq_472 {Z Z' : qz_Z} {a1 a2 a1' a2' : Int} (h0 : ym Z Z') (ia1 : a1 = a1') (ia2 : a2 = a2') : ym (zf_472 Z a1 a2) (zf_472 Z' a1' a2') := by
  subst ia1
  subst ia2
  have e0_2 : ∀ a, Z 2 0 0 a = Z' 2 0 0 a := h0.1
  unfold zf_472
  refine dite (by simp only [e0_2]) (fun _ => ?_) (fun _ => ?_)
  · refine dite rfl (fun _ => ?_) (fun _ => ?_)
    · refine dlet_Z (P := ym) (ym_u h0 rfl rfl) (fun Z7 Z7' h7 => ?_)
      exact h7
    · refine dite rfl (fun _ => ?_) (fun _ => ?_)
      · refine dlet_Z (P := ym) (ym_u h0 rfl rfl) (fun Z9 Z9' h9 => ?_)
        exact h9
      · refine dlet_Z (P := ym) (ym_u h0 rfl (by simp only [e0_2])) (fun Z11 Z11' h11 => ?_)
        refine dlet_Z (P := ym) (ym_u h11 rfl rfl) (fun Z12 Z12' h12 => ?_)
        exact h12
  · refine dite (by simp only [e0_2]) (fun _ => ?_) (fun _ => ?_)
    · refine dite rfl (fun _ => ?_) (fun _ => ?_)
      · refine dlet_Z (P := ym) (ym_u h0 rfl rfl) (fun Z20 Z20' h20 => ?_)
        exact h20
      · refine dite rfl (fun _ => ?_) (fun _ => ?_)
        · refine dlet_Z (P := ym) (ym_u h0 rfl rfl) (fun Z22 Z22' h22 => ?_)
          exact h22
        · refine dlet_Z (P := ym) (ym_u h0 rfl (by simp only [e0_2])) (fun Z24 Z24' h24 => ?_)
          refine dlet_Z (P := ym) (ym_u h24 rfl rfl) (fun Z25 Z25' h25 => ?_)
          exact h25
    · refine dlet_Z (P := ym) (ym_u h0 (by simp only [e0_2]) (by simp only [e0_2])) (fun Z32 Z32' h32 => ?_)
      have e32_2 : ∀ a, Z32 2 0 0 a = Z32' 2 0 0 a := h32.1
      refine dite rfl (fun _ => ?_) (fun _ => ?_)
      · refine dlet_Z (P := ym) (ym_u h32 rfl rfl) (fun Z34 Z34' h34 => ?_)
        exact h34
      · refine dite rfl (fun _ => ?_) (fun _ => ?_)
        · refine dlet_Z (P := ym) (ym_u h32 rfl rfl) (fun Z41 Z41' h41 => ?_)
          exact h41
        · refine dlet_Z (P := ym) (ym_u h32 rfl (by simp only [e32_2])) (fun Z48 Z48' h48 => ?_)
          refine dlet_Z (P := ym) (ym_u h48 rfl rfl) (fun Z49 Z49' h49 => ?_)
          exact h49
theorem dy_453 {Z Z' : qz_Z} {a1 a2 a1' a2' : Int} {dm dm' : qz_Z → Int → Int → Int → Int → Int → Int → Int → qz_Z} (hdm : zdm2 dm dm') (h0 : ym0 Z Z') (ia1 : a1 = a1') (ia2 : a2 = a2') : dMe (ym) (zy_453 Z dm a1 a2) (zy_453 Z' dm' a1' a2') := by
  subst ia1
  subst ia2
  have e0_2 : ∀ a, Z 2 0 0 a = Z' 2 0 0 a := h0
  unfold zy_453
  refine dite rfl (fun _ => ?_) (fun _ => ?_)
  · refine dite rfl (fun _ => ?_) (fun _ => ?_)
    · refine dlet_Z (P := ym) (ym_t h0 rfl) (fun Z6 Z6' h6 => ?_)
      exact ⟨h6, rfl⟩
    · refine dite (by simp only [e0_2]) (fun _ => ?_) (fun _ => ?_)
      · refine dlet_Z (P := ym) (ym_t h0 rfl) (fun Z9 Z9' h9 => ?_)
        exact ⟨h9, rfl⟩
      · refine dite rfl (fun _ => ?_) (fun _ => ?_)
        · refine dlet_Z (P := ym) (ym_t h0 rfl) (fun Z11 Z11' h11 => ?_)
          have p11_477 : ∀ u1 u2 : Int, zf_477 Z11 u1 u2 = zf_477 Z11' u1 u2 := fun u1 u2 => dq_477 h11.1 rfl rfl
          refine dlet_i (by simp only [p11_477]) (fun v12 => ?_)
          refine dite rfl (fun _ => ?_) (fun _ => ?_)
          · refine dlet_Z (P := ym) (ym_t h11.1 rfl) (fun Z14 Z14' h14 => ?_)
            exact ⟨h14, rfl⟩
          · refine dlet_Z (P := ym) (ym_t h11.1 rfl) (fun Z15 Z15' h15 => ?_)
            refine dlet_Z (P := ym) (hdm h15) (fun Z22 Z22' h22 => ?_)
            refine dlet_Z (P := ym) (dq_472 h22 rfl rfl) (fun Z27 Z27' h27 => ?_)
            have e27_2 : ∀ a, Z27 2 0 0 a = Z27' 2 0 0 a := h27.1
            have p27_488 : ∀ u1 : Int, zf_488 Z27 u1 = zf_488 Z27' u1 := fun u1 => dq_488 h27.1 rfl
            refine dlet_i (by simp only [p27_488]) (fun v28 => ?_)
            exact ⟨h27, (by simp only [e27_2])⟩
        · refine dite rfl (fun _ => ?_) (fun _ => ?_)
          · refine dlet_Z (P := ym) (ym_t h0 rfl) (fun Z31 Z31' h31 => ?_)
            exact ⟨h31, rfl⟩
          · refine dite (by simp only [e0_2]) (fun _ => ?_) (fun _ => ?_)
            · refine dlet_Z (P := ym) (ym_t h0 rfl) (fun Z34 Z34' h34 => ?_)
              exact ⟨h34, rfl⟩
            · refine dlet_Z (P := ym) (ym_t h0 rfl) (fun Z35 Z35' h35 => ?_)
              have p35_477 : ∀ u1 u2 : Int, zf_477 Z35 u1 u2 = zf_477 Z35' u1 u2 := fun u1 u2 => dq_477 h35.1 rfl rfl
              refine dlet_i (by simp only [p35_477]) (fun v36 => ?_)
              refine dite rfl (fun _ => ?_) (fun _ => ?_)
              · refine dlet_Z (P := ym) (ym_t h35.1 rfl) (fun Z38 Z38' h38 => ?_)
                exact ⟨h38, rfl⟩
              · refine dlet_Z (P := ym) (ym_t h35.1 rfl) (fun Z39 Z39' h39 => ?_)
                refine dlet_Z (P := ym) (hdm h39) (fun Z46 Z46' h46 => ?_)
                refine dlet_Z (P := ym) (dq_472 h46 rfl rfl) (fun Z51 Z51' h51 => ?_)
                have e51_2 : ∀ a, Z51 2 0 0 a = Z51' 2 0 0 a := h51.1
                have p51_488 : ∀ u1 : Int, zf_488 Z51 u1 = zf_488 Z51' u1 := fun u1 => dq_488 h51.1 rfl
                refine dlet_i (by simp only [p51_488]) (fun v52 => ?_)
                exact ⟨h51, (by simp only [e51_2])⟩
  · refine dite rfl (fun _ => ?_) (fun _ => ?_)
    · refine dlet_Z (P := ym) (ym_t h0 rfl) (fun Z55 Z55' h55 => ?_)
      exact ⟨h55, rfl⟩
    · refine dite (by simp only [e0_2]) (fun _ => ?_) (fun _ => ?_)
      · refine dlet_Z (P := ym) (ym_t h0 rfl) (fun Z58 Z58' h58 => ?_)
        exact ⟨h58, rfl⟩
      · refine dlet_Z (P := ym) (ym_t h0 rfl) (fun Z59 Z59' h59 => ?_)
        have p59_477 : ∀ u1 u2 : Int, zf_477 Z59 u1 u2 = zf_477 Z59' u1 u2 := fun u1 u2 => dq_477 h59.1 rfl rfl
        refine dlet_i (by simp only [p59_477]) (fun v60 => ?_)
        refine dite rfl (fun _ => ?_) (fun _ => ?_)
        · refine dlet_Z (P := ym) (ym_t h59.1 rfl) (fun Z62 Z62' h62 => ?_)
          exact ⟨h62, rfl⟩
        · refine dlet_Z (P := ym) (ym_t h59.1 rfl) (fun Z63 Z63' h63 => ?_)
          refine dlet_Z (P := ym) (hdm h63) (fun Z70 Z70' h70 => ?_)
          refine dlet_Z (P := ym) (dq_472 h70 rfl rfl) (fun Z75 Z75' h75 => ?_)
          have p75_488 : ∀ u1 : Int, zf_488 Z75 u1 = zf_488 Z75' u1 := fun u1 => dq_488 h75.1 rfl
          refine dlet_i (by simp only [p75_488]) (fun v76 => ?_)
          exact ⟨h75, rfl⟩
theorem dq_478 {Z Z' : qz_Z} {a1 a1' : Int} (h0 : ym Z Z') (ia1 : a1 = a1') : ym (zf_478 Z a1) (zf_478 Z' a1') := by
  subst ia1
  have e0_2 : ∀ a, Z 2 0 0 a = Z' 2 0 0 a := h0.1
  unfold zf_478
  refine dite (by simp only [e0_2]) (fun _ => ?_) (fun _ => ?_)
  · refine dlet_Z (P := ym) (ym_u h0 rfl rfl) (fun Z6 Z6' h6 => ?_)
    exact h6
  · refine dite (by simp only [e0_2]) (fun _ => ?_) (fun _ => ?_)
    · refine dlet_Z (P := ym) (ym_u h0 rfl rfl) (fun Z8 Z8' h8 => ?_)
      exact h8
    · refine dlet_Z (P := ym) (ym_u h0 (by simp only [e0_2]) (by simp only [e0_2])) (fun Z10 Z10' h10 => ?_)
      refine dlet_Z (P := ym) (ym_u h10 rfl rfl) (fun Z11 Z11' h11 => ?_)
      exact h11
theorem dl_435_1 : ∀ (m : Nat) {Z Z' : qz_Z} {x1 x2 x3 x1' x2' x3' : Int}, x1 = x1' → ym0 Z Z' → x2 = x2' → x3 = x3' → zl_435_1 x1 m Z x2 x3 = zl_435_1 x1' m Z' x2' x3'
  | 0, Z, Z', x1, x2, x3, x1', x2', x3', ix1, h0, ix2, ix3 => by
    subst ix1
    subst ix2
    subst ix3
    unfold zl_435_1
    exact rfl
  | m + 1, Z, Z', x1, x2, x3, x1', x2', x3', ix1, h0, ix2, ix3 => by
    subst ix1
    subst ix2
    subst ix3
    have e0_2 : ∀ a, Z 2 0 0 a = Z' 2 0 0 a := h0
    unfold zl_435_1
    refine dite (by simp only [e0_2]) (fun _ => ?_) (fun _ => ?_)
    · exact rfl
    · refine dite (by simp only [e0_2]) (fun _ => ?_) (fun _ => ?_)
      · exact dl_435_1 m rfl h0 rfl rfl
      · refine dite (by simp only [e0_2]) (fun _ => ?_) (fun _ => ?_)
        · exact dl_435_1 m rfl h0 rfl rfl
        · exact dl_435_1 m rfl h0 rfl rfl
theorem dq_435 {Z Z' : qz_Z} {a1 a1' : Int} (h0 : ym0 Z Z') (ia1 : a1 = a1') : zf_435 Z a1 = zf_435 Z' a1' := by
  subst ia1
  unfold zf_435
  refine dlet2e (dl_435_1 _ rfl h0 rfl rfl) (fun y1 y2 => ?_)
  exact rfl
theorem dq_429 {Z Z' : qz_Z} {a1 a1' : Int} (h0 : ym Z Z') (ia1 : a1 = a1') : ym (zf_429 Z a1) (zf_429 Z' a1') := by
  subst ia1
  have e0_2 : ∀ a, Z 2 0 0 a = Z' 2 0 0 a := h0.1
  have p0_435 : ∀ u1 : Int, zf_435 Z u1 = zf_435 Z' u1 := fun u1 => dq_435 h0.1 rfl
  unfold zf_429
  refine dite (by simp only [e0_2]) (fun _ => ?_) (fun _ => ?_)
  · exact h0
  · refine dite (by simp only [e0_2]) (fun _ => ?_) (fun _ => ?_)
    · exact h0
    · refine dlet_i (by simp only [p0_435]) (fun v7 => ?_)
      refine dite rfl (fun _ => ?_) (fun _ => ?_)
      · exact h0
      · refine dlet_Z (P := ym) (ym_u h0 rfl rfl) (fun Z9 Z9' h9 => ?_)
        refine dlet_Z (P := ym) (dq_478 h9 rfl) (fun Z16 Z16' h16 => ?_)
        exact h16
theorem dq_276 {Z Z' : qz_Z} {a1 a1' : Int} (h0 : ym Z Z') (ia1 : a1 = a1') : ym (zf_276 Z a1) (zf_276 Z' a1') := by
  subst ia1
  have e0_2 : ∀ a, Z 2 0 0 a = Z' 2 0 0 a := h0.1
  unfold zf_276
  refine dlet_Z (P := ym) (ym_u h0 (by simp only [e0_2]) (by simp only [e0_2])) (fun Z11 Z11' h11 => ?_)
  refine dlet_Z (P := ym) (ym_u h11 rfl rfl) (fun Z12 Z12' h12 => ?_)
  have e12_2 : ∀ a, Z12 2 0 0 a = Z12' 2 0 0 a := h12.1
  refine dite (by simp only [e0_2, e12_2]) (fun _ => ?_) (fun _ => ?_)
  · exact h12
  · refine dite (by simp only [e0_2, e12_2]) (fun _ => ?_) (fun _ => ?_)
    · refine dlet_Z (P := ym) (ym_u h12 (by simp only [e0_2]) (by simp only [e0_2, e12_2])) (fun Z24 Z24' h24 => ?_)
      exact h24
    · refine dlet_Z (P := ym) (ym_u h12 (by simp only [e0_2]) (by simp only [e0_2, e12_2])) (fun Z25 Z25' h25 => ?_)
      exact h25
theorem dq_432 {Z Z' : qz_Z} {a1 a1' : Int} (h0 : ym Z Z') (ia1 : a1 = a1') : ym (zf_432 Z a1) (zf_432 Z' a1') := by
  subst ia1
  have e0_2 : ∀ a, Z 2 0 0 a = Z' 2 0 0 a := h0.1
  unfold zf_432
  refine dlet_Z (P := ym) (ym_u h0 rfl (by simp only [e0_2])) (fun Z3 Z3' h3 => ?_)
  have e3_2 : ∀ a, Z3 2 0 0 a = Z3' 2 0 0 a := h3.1
  refine dlet_Z (P := ym) (ym_u h3 rfl (by simp only [e0_2, e3_2])) (fun Z5 Z5' h5 => ?_)
  refine dlet_Z (P := ym) (ym_u h5 rfl rfl) (fun Z6 Z6' h6 => ?_)
  have e6_2 : ∀ a, Z6 2 0 0 a = Z6' 2 0 0 a := h6.1
  refine dlet_Z (P := ym) (ym_u h6 rfl (by simp only [e6_2])) (fun Z8 Z8' h8 => ?_)
  refine dlet_Z (P := ym) (dq_429 h8 (by simp only [e0_2])) (fun Z9 Z9' h9 => ?_)
  refine dlet_Z (P := ym) (dq_276 h9 rfl) (fun Z10 Z10' h10 => ?_)
  have e10_2 : ∀ a, Z10 2 0 0 a = Z10' 2 0 0 a := h10.1
  refine dlet_Z (P := ym) (dq_403 h10 rfl rfl (by simp only [e10_2]) (by simp only [e10_2])) (fun Z17 Z17' h17 => ?_)
  exact h17
theorem dl_431_1 : ∀ (m : Nat) {Z Z' : qz_Z} {x1 x3 x1' x3' : Int}, x1 = x1' → ym Z Z' → x3 = x3' → dMe (ym) (zl_431_1 x1 m Z x3) (zl_431_1 x1' m Z' x3')
  | 0, Z, Z', x1, x3, x1', x3', ix1, h0, ix3 => by
    subst ix1
    subst ix3
    unfold zl_431_1
    exact ⟨h0, rfl⟩
  | m + 1, Z, Z', x1, x3, x1', x3', ix1, h0, ix3 => by
    subst ix1
    subst ix3
    have e0_2 : ∀ a, Z 2 0 0 a = Z' 2 0 0 a := h0.1
    unfold zl_431_1
    refine dite (by simp only [e0_2]) (fun _ => ?_) (fun _ => ?_)
    · exact ⟨h0, rfl⟩
    · refine dite (by simp only [e0_2]) (fun _ => ?_) (fun _ => ?_)
      · exact dl_431_1 m rfl h0 rfl
      · refine dite (by simp only [e0_2]) (fun _ => ?_) (fun _ => ?_)
        · exact dl_431_1 m rfl h0 rfl
        · refine dlet_Z (P := ym) (dq_432 h0 rfl) (fun Z8 Z8' h8 => ?_)
          exact dl_431_1 m rfl h8 rfl
theorem dl_306_1 : ∀ (m : Nat) {Z Z' : qz_Z} {x1 x2 x3 x4 x1' x2' x3' x4' : Int}, x1 = x1' → x2 = x2' → ym0 Z Z' → x3 = x3' → x4 = x4' → zl_306_1 x1 x2 m Z x3 x4 = zl_306_1 x1' x2' m Z' x3' x4'
  | 0, Z, Z', x1, x2, x3, x4, x1', x2', x3', x4', ix1, ix2, h0, ix3, ix4 => by
    subst ix1
    subst ix2
    subst ix3
    subst ix4
    unfold zl_306_1
    exact rfl
  | m + 1, Z, Z', x1, x2, x3, x4, x1', x2', x3', x4', ix1, ix2, h0, ix3, ix4 => by
    subst ix1
    subst ix2
    subst ix3
    subst ix4
    have e0_2 : ∀ a, Z 2 0 0 a = Z' 2 0 0 a := h0
    unfold zl_306_1
    refine dite (by simp only [e0_2]) (fun _ => ?_) (fun _ => ?_)
    · exact rfl
    · refine dite (by simp only [e0_2]) (fun _ => ?_) (fun _ => ?_)
      · exact dl_306_1 m rfl rfl h0 rfl rfl
      · exact dl_306_1 m rfl rfl h0 rfl rfl
theorem dq_306 {Z Z' : qz_Z} {a1 a2 a1' a2' : Int} (h0 : ym0 Z Z') (ia1 : a1 = a1') (ia2 : a2 = a2') : zf_306 Z a1 a2 = zf_306 Z' a1' a2' := by
  subst ia1
  subst ia2
  unfold zf_306
  refine dlet2e (dl_306_1 _ rfl rfl h0 rfl rfl) (fun y2 y3 => ?_)
  exact rfl
theorem dl_305_1 : ∀ (m : Nat) {Z Z' : qz_Z} {x1 x2 x3 x1' x2' x3' : Int}, x1 = x1' → ym0 Z Z' → x2 = x2' → x3 = x3' → zl_305_1 x1 m Z x2 x3 = zl_305_1 x1' m Z' x2' x3'
  | 0, Z, Z', x1, x2, x3, x1', x2', x3', ix1, h0, ix2, ix3 => by
    subst ix1
    subst ix2
    subst ix3
    unfold zl_305_1
    exact rfl
  | m + 1, Z, Z', x1, x2, x3, x1', x2', x3', ix1, h0, ix2, ix3 => by
    subst ix1
    subst ix2
    subst ix3
    have e0_2 : ∀ a, Z 2 0 0 a = Z' 2 0 0 a := h0
    have p0_306 : ∀ u1 u2 : Int, zf_306 Z u1 u2 = zf_306 Z' u1 u2 := fun u1 u2 => dq_306 h0 rfl rfl
    unfold zl_305_1
    refine dite (by simp only [e0_2]) (fun _ => ?_) (fun _ => ?_)
    · exact rfl
    · refine dlet_i (by simp only [p0_306]) (fun v3 => ?_)
      refine dite rfl (fun _ => ?_) (fun _ => ?_)
      · exact dl_305_1 m rfl h0 rfl rfl
      · exact dl_305_1 m rfl h0 rfl rfl
theorem dq_305 {Z Z' : qz_Z} {a1 a1' : Int} (h0 : ym0 Z Z') (ia1 : a1 = a1') : zf_305 Z a1 = zf_305 Z' a1' := by
  subst ia1
  unfold zf_305
  refine dlet2e (dl_305_1 _ rfl h0 rfl rfl) (fun y1 y2 => ?_)
  exact rfl
theorem dq_431 {Z Z' : qz_Z} {a1 a2 a1' a2' : Int} (h0 : ym Z Z') (ia1 : a1 = a1') (ia2 : a2 = a2') : ym (zf_431 Z a1 a2) (zf_431 Z' a1' a2') := by
  subst ia1
  subst ia2
  have e0_2 : ∀ a, Z 2 0 0 a = Z' 2 0 0 a := h0.1
  have p0_305 : ∀ u1 : Int, zf_305 Z u1 = zf_305 Z' u1 := fun u1 => dq_305 h0.1 rfl
  have p0_306 : ∀ u1 u2 : Int, zf_306 Z u1 u2 = zf_306 Z' u1 u2 := fun u1 u2 => dq_306 h0.1 rfl rfl
  unfold zf_431
  refine dite (by simp only [e0_2]) (fun _ => ?_) (fun _ => ?_)
  · refine dlet_Z (P := ym) (ym_u h0 rfl (by simp only [e0_2])) (fun Z8 Z8' h8 => ?_)
    refine dlet_Z (P := ym) (ym_u h8 rfl rfl) (fun Z9 Z9' h9 => ?_)
    refine dlet_Z (P := ym) (ym_u h9 rfl rfl) (fun Z10 Z10' h10 => ?_)
    refine dlet_Z (P := ym) (ym_u h10 rfl rfl) (fun Z11 Z11' h11 => ?_)
    refine dlet_Z (P := ym) (dq_478 h11 rfl) (fun Z23 Z23' h23 => ?_)
    refine dlet2 (dl_431_1 _ rfl h23 rfl) (fun Z25 Z25' y24 h25 => ?_)
    exact h25
  · refine dlet_i (by simp only [p0_305]) (fun v27 => ?_)
    refine dite rfl (fun _ => ?_) (fun _ => ?_)
    · refine dlet_Z (P := ym) (ym_u h0 rfl (by simp only [e0_2])) (fun Z32 Z32' h32 => ?_)
      refine dlet_Z (P := ym) (ym_u h32 rfl rfl) (fun Z33 Z33' h33 => ?_)
      refine dlet_Z (P := ym) (ym_u h33 rfl rfl) (fun Z34 Z34' h34 => ?_)
      refine dlet_Z (P := ym) (ym_u h34 rfl rfl) (fun Z35 Z35' h35 => ?_)
      refine dlet_Z (P := ym) (dq_478 h35 rfl) (fun Z47 Z47' h47 => ?_)
      refine dlet2 (dl_431_1 _ rfl h47 rfl) (fun Z49 Z49' y48 h49 => ?_)
      exact h49
    · refine dlet_i (by simp only [p0_306]) (fun v51 => ?_)
      refine dlet_Z (P := ym) (dq_312 h0 rfl rfl) (fun Z55 Z55' h55 => ?_)
      have e55_2 : ∀ a, Z55 2 0 0 a = Z55' 2 0 0 a := h55.1
      refine dlet_Z (P := ym) (ym_u h55 rfl (by simp only [e55_2])) (fun Z61 Z61' h61 => ?_)
      refine dlet_Z (P := ym) (ym_u h61 rfl rfl) (fun Z62 Z62' h62 => ?_)
      refine dlet_Z (P := ym) (ym_u h62 rfl rfl) (fun Z63 Z63' h63 => ?_)
      refine dlet_Z (P := ym) (ym_u h63 rfl rfl) (fun Z64 Z64' h64 => ?_)
      refine dlet_Z (P := ym) (dq_478 h64 rfl) (fun Z76 Z76' h76 => ?_)
      refine dlet2 (dl_431_1 _ rfl h76 rfl) (fun Z78 Z78' y77 h78 => ?_)
      exact h78
theorem dy_338 {Z Z' : qz_Z} {a1 a1' : Int} {dm dm' : qz_Z → Int → Int → Int → Int → Int → Int → Int → qz_Z} (hdm : zdm2 dm dm') (h0 : ym0 Z Z') (ia1 : a1 = a1') : dMe (ym) (zy_338 Z dm a1) (zy_338 Z' dm' a1') := by
  subst ia1
  have e0_2 : ∀ a, Z 2 0 0 a = Z' 2 0 0 a := h0
  unfold zy_338
  refine dite rfl (fun _ => ?_) (fun _ => ?_)
  · refine dlet_Z (P := ym) (ym_t h0 rfl) (fun Z5 Z5' h5 => ?_)
    exact ⟨h5, rfl⟩
  · refine dite (by simp only [e0_2]) (fun _ => ?_) (fun _ => ?_)
    · refine dlet_Z (P := ym) (ym_t h0 rfl) (fun Z8 Z8' h8 => ?_)
      exact ⟨h8, rfl⟩
    · refine dlet_Z (P := ym) (ym_t h0 rfl) (fun Z9 Z9' h9 => ?_)
      have e9_2 : ∀ a, Z9 2 0 0 a = Z9' 2 0 0 a := h9.1
      refine dite (by simp only [e9_2]) (fun _ => ?_) (fun _ => ?_)
      · refine dlet_Z (P := ym) (ym_t h9.1 rfl) (fun Z15 Z15' h15 => ?_)
        exact ⟨h15, rfl⟩
      · refine dlet_Z (P := ym) (ym_t h9.1 rfl) (fun Z16 Z16' h16 => ?_)
        refine dlet_Z (P := ym) (hdm h16) (fun Z23 Z23' h23 => ?_)
        have e23_2 : ∀ a, Z23 2 0 0 a = Z23' 2 0 0 a := h23.1
        refine dlet_Z (P := ym) (dq_431 h23 rfl rfl) (fun Z24 Z24' h24 => ?_)
        exact ⟨h24, (by simp only [e23_2])⟩
theorem dy_295 {Z Z' : qz_Z} {a1 a2 a3 a1' a2' a3' : Int} {dm dm' : qz_Z → Int → Int → Int → Int → Int → Int → Int → qz_Z} (hdm : zdm2 dm dm') (h0 : ym0 Z Z') (ia1 : a1 = a1') (ia2 : a2 = a2') (ia3 : a3 = a3') : dMe (ym) (zy_295 Z dm a1 a2 a3) (zy_295 Z' dm' a1' a2' a3') := by
  subst ia1
  subst ia2
  subst ia3
  unfold zy_295
  refine dite rfl (fun _ => ?_) (fun _ => ?_)
  · refine dlet_Z (P := ym) (ym_t h0 rfl) (fun Z5 Z5' h5 => ?_)
    exact ⟨h5, rfl⟩
  · refine dite rfl (fun _ => ?_) (fun _ => ?_)
    · refine dlet_Z (P := ym) (ym_t h0 rfl) (fun Z7 Z7' h7 => ?_)
      exact ⟨h7, rfl⟩
    · refine dlet_Z (P := ym) (ym_t h0 rfl) (fun Z8 Z8' h8 => ?_)
      refine dite rfl (fun _ => ?_) (fun _ => ?_)
      · refine dlet_Z (P := ym) (ym_t h8.1 rfl) (fun Z10 Z10' h10 => ?_)
        exact ⟨h10, rfl⟩
      · refine dite rfl (fun _ => ?_) (fun _ => ?_)
        · refine dlet_Z (P := ym) (ym_t h8.1 rfl) (fun Z12 Z12' h12 => ?_)
          exact ⟨h12, rfl⟩
        · refine dite rfl (fun _ => ?_) (fun _ => ?_)
          · refine dlet_Z (P := ym) (ym_t h8.1 rfl) (fun Z14 Z14' h14 => ?_)
            exact ⟨h14, rfl⟩
          · refine dite rfl (fun _ => ?_) (fun _ => ?_)
            · refine dlet_Z (P := ym) (ym_t h8.1 rfl) (fun Z16 Z16' h16 => ?_)
              exact ⟨h16, rfl⟩
            · refine dlet_Z (P := ym) (ym_t h8.1 rfl) (fun Z17 Z17' h17 => ?_)
              have e17_2 : ∀ a, Z17 2 0 0 a = Z17' 2 0 0 a := h17.1
              refine dite (by simp only [e17_2]) (fun _ => ?_) (fun _ => ?_)
              · refine dlet_Z (P := ym) (ym_t h17.1 rfl) (fun Z20 Z20' h20 => ?_)
                exact ⟨h20, rfl⟩
              · refine dlet_Z (P := ym) (ym_t h17.1 rfl) (fun Z21 Z21' h21 => ?_)
                refine dlet_Z (P := ym) (hdm h21) (fun Z28 Z28' h28 => ?_)
                have e28_2 : ∀ a, Z28 2 0 0 a = Z28' 2 0 0 a := h28.1
                refine dlet_Z (P := ym) (ym_u h28 (by simp only [e28_2]) rfl) (fun Z31 Z31' h31 => ?_)
                refine dlet_Z (P := ym) (ym_u h31 (by simp only [e28_2]) rfl) (fun Z32 Z32' h32 => ?_)
                refine dlet_Z (P := ym) (ym_u h32 (by simp only [e28_2]) rfl) (fun Z33 Z33' h33 => ?_)
                have e33_2 : ∀ a, Z33 2 0 0 a = Z33' 2 0 0 a := h33.1
                refine dlet_Z (P := ym) (ym_u h33 rfl (by simp only [e33_2])) (fun Z36 Z36' h36 => ?_)
                exact ⟨h36, (by simp only [e28_2])⟩
theorem dy_441 {Z Z' : qz_Z} {a1 a2 a3 a4 a5 a6 a1' a2' a3' a4' a5' a6' : Int} {dm dm' : qz_Z → Int → Int → Int → Int → Int → Int → Int → qz_Z} (hdm : zdm2 dm dm') (h0 : ym0 Z Z') (ia1 : a1 = a1') (ia2 : a2 = a2') (ia3 : a3 = a3') (ia4 : a4 = a4') (ia5 : a5 = a5') (ia6 : a6 = a6') : dMe (ym) (zy_441 Z dm a1 a2 a3 a4 a5 a6) (zy_441 Z' dm' a1' a2' a3' a4' a5' a6') := by
  subst ia1
  subst ia2
  subst ia3
  subst ia4
  subst ia5
  subst ia6
  have e0_2 : ∀ a, Z 2 0 0 a = Z' 2 0 0 a := h0
  unfold zy_441
  refine dite rfl (fun _ => ?_) (fun _ => ?_)
  · refine dite rfl (fun _ => ?_) (fun _ => ?_)
    · refine dlet_Z (P := ym) (ym_t h0 rfl) (fun Z6 Z6' h6 => ?_)
      exact ⟨h6, rfl⟩
    · refine dite (by simp only [e0_2]) (fun _ => ?_) (fun _ => ?_)
      · refine dlet_Z (P := ym) (ym_t h0 rfl) (fun Z9 Z9' h9 => ?_)
        exact ⟨h9, rfl⟩
      · refine dite rfl (fun _ => ?_) (fun _ => ?_)
        · refine dlet_Z (P := ym) (ym_t h0 rfl) (fun Z11 Z11' h11 => ?_)
          exact ⟨h11, rfl⟩
        · refine dite (by simp only [e0_2]) (fun _ => ?_) (fun _ => ?_)
          · refine dlet_Z (P := ym) (ym_t h0 rfl) (fun Z14 Z14' h14 => ?_)
            exact ⟨h14, rfl⟩
          · refine dlet_Z (P := ym) (ym_t h0 rfl) (fun Z15 Z15' h15 => ?_)
            refine dlet_Z (P := ym) (ym_t h15.1 rfl) (fun Z16 Z16' h16 => ?_)
            exact ⟨h16, rfl⟩
  · refine dite rfl (fun _ => ?_) (fun _ => ?_)
    · refine dite rfl (fun _ => ?_) (fun _ => ?_)
      · refine dlet_Z (P := ym) (ym_t h0 rfl) (fun Z19 Z19' h19 => ?_)
        exact ⟨h19, rfl⟩
      · refine dite (by simp only [e0_2]) (fun _ => ?_) (fun _ => ?_)
        · refine dlet_Z (P := ym) (ym_t h0 rfl) (fun Z22 Z22' h22 => ?_)
          exact ⟨h22, rfl⟩
        · refine dite rfl (fun _ => ?_) (fun _ => ?_)
          · refine dlet_Z (P := ym) (ym_t h0 rfl) (fun Z24 Z24' h24 => ?_)
            exact ⟨h24, rfl⟩
          · refine dite (by simp only [e0_2]) (fun _ => ?_) (fun _ => ?_)
            · refine dlet_Z (P := ym) (ym_t h0 rfl) (fun Z27 Z27' h27 => ?_)
              exact ⟨h27, rfl⟩
            · refine dlet_Z (P := ym) (ym_t h0 rfl) (fun Z28 Z28' h28 => ?_)
              refine dlet_Z (P := ym) (ym_t h28.1 rfl) (fun Z29 Z29' h29 => ?_)
              exact ⟨h29, rfl⟩
    · refine dite rfl (fun _ => ?_) (fun _ => ?_)
      · refine dite rfl (fun _ => ?_) (fun _ => ?_)
        · refine dlet_Z (P := ym) (ym_t h0 rfl) (fun Z32 Z32' h32 => ?_)
          exact ⟨h32, rfl⟩
        · refine dite (by simp only [e0_2]) (fun _ => ?_) (fun _ => ?_)
          · refine dlet_Z (P := ym) (ym_t h0 rfl) (fun Z35 Z35' h35 => ?_)
            exact ⟨h35, rfl⟩
          · refine dite rfl (fun _ => ?_) (fun _ => ?_)
            · refine dlet_Z (P := ym) (ym_t h0 rfl) (fun Z37 Z37' h37 => ?_)
              exact ⟨h37, rfl⟩
            · refine dite (by simp only [e0_2]) (fun _ => ?_) (fun _ => ?_)
              · refine dlet_Z (P := ym) (ym_t h0 rfl) (fun Z40 Z40' h40 => ?_)
                exact ⟨h40, rfl⟩
              · refine dlet_Z (P := ym) (ym_t h0 rfl) (fun Z41 Z41' h41 => ?_)
                refine dlet_Z (P := ym) (ym_t h41.1 rfl) (fun Z42 Z42' h42 => ?_)
                exact ⟨h42, rfl⟩
      · refine dite rfl (fun _ => ?_) (fun _ => ?_)
        · refine dite rfl (fun _ => ?_) (fun _ => ?_)
          · refine dlet_Z (P := ym) (ym_t h0 rfl) (fun Z45 Z45' h45 => ?_)
            exact ⟨h45, rfl⟩
          · refine dite (by simp only [e0_2]) (fun _ => ?_) (fun _ => ?_)
            · refine dlet_Z (P := ym) (ym_t h0 rfl) (fun Z48 Z48' h48 => ?_)
              exact ⟨h48, rfl⟩
            · refine dite rfl (fun _ => ?_) (fun _ => ?_)
              · refine dlet_Z (P := ym) (ym_t h0 rfl) (fun Z50 Z50' h50 => ?_)
                exact ⟨h50, rfl⟩
              · refine dite (by simp only [e0_2]) (fun _ => ?_) (fun _ => ?_)
                · refine dlet_Z (P := ym) (ym_t h0 rfl) (fun Z53 Z53' h53 => ?_)
                  exact ⟨h53, rfl⟩
                · refine dlet_Z (P := ym) (ym_t h0 rfl) (fun Z54 Z54' h54 => ?_)
                  refine dlet_Z (P := ym) (ym_t h54.1 rfl) (fun Z55 Z55' h55 => ?_)
                  exact ⟨h55, rfl⟩
        · refine dite rfl (fun _ => ?_) (fun _ => ?_)
          · refine dite rfl (fun _ => ?_) (fun _ => ?_)
            · refine dlet_Z (P := ym) (ym_t h0 rfl) (fun Z58 Z58' h58 => ?_)
              exact ⟨h58, rfl⟩
            · refine dite (by simp only [e0_2]) (fun _ => ?_) (fun _ => ?_)
              · refine dlet_Z (P := ym) (ym_t h0 rfl) (fun Z61 Z61' h61 => ?_)
                exact ⟨h61, rfl⟩
              · refine dite rfl (fun _ => ?_) (fun _ => ?_)
                · refine dlet_Z (P := ym) (ym_t h0 rfl) (fun Z63 Z63' h63 => ?_)
                  exact ⟨h63, rfl⟩
                · refine dite (by simp only [e0_2]) (fun _ => ?_) (fun _ => ?_)
                  · refine dlet_Z (P := ym) (ym_t h0 rfl) (fun Z66 Z66' h66 => ?_)
                    exact ⟨h66, rfl⟩
                  · refine dlet_Z (P := ym) (ym_t h0 rfl) (fun Z67 Z67' h67 => ?_)
                    refine dlet_Z (P := ym) (ym_t h67.1 rfl) (fun Z68 Z68' h68 => ?_)
                    exact ⟨h68, rfl⟩
          · refine dite rfl (fun _ => ?_) (fun _ => ?_)
            · refine dite rfl (fun _ => ?_) (fun _ => ?_)
              · refine dlet_Z (P := ym) (ym_t h0 rfl) (fun Z71 Z71' h71 => ?_)
                exact ⟨h71, rfl⟩
              · refine dite (by simp only [e0_2]) (fun _ => ?_) (fun _ => ?_)
                · refine dlet_Z (P := ym) (ym_t h0 rfl) (fun Z74 Z74' h74 => ?_)
                  exact ⟨h74, rfl⟩
                · refine dite rfl (fun _ => ?_) (fun _ => ?_)
                  · refine dlet_Z (P := ym) (ym_t h0 rfl) (fun Z76 Z76' h76 => ?_)
                    exact ⟨h76, rfl⟩
                  · refine dite (by simp only [e0_2]) (fun _ => ?_) (fun _ => ?_)
                    · refine dlet_Z (P := ym) (ym_t h0 rfl) (fun Z79 Z79' h79 => ?_)
                      exact ⟨h79, rfl⟩
                    · refine dlet_Z (P := ym) (ym_t h0 rfl) (fun Z80 Z80' h80 => ?_)
                      refine dlet_Z (P := ym) (ym_t h80.1 rfl) (fun Z81 Z81' h81 => ?_)
                      exact ⟨h81, rfl⟩
            · refine dite rfl (fun _ => ?_) (fun _ => ?_)
              · refine dite rfl (fun _ => ?_) (fun _ => ?_)
                · refine dlet_Z (P := ym) (ym_t h0 rfl) (fun Z84 Z84' h84 => ?_)
                  exact ⟨h84, rfl⟩
                · refine dite (by simp only [e0_2]) (fun _ => ?_) (fun _ => ?_)
                  · refine dlet_Z (P := ym) (ym_t h0 rfl) (fun Z87 Z87' h87 => ?_)
                    exact ⟨h87, rfl⟩
                  · refine dite rfl (fun _ => ?_) (fun _ => ?_)
                    · refine dlet_Z (P := ym) (ym_t h0 rfl) (fun Z89 Z89' h89 => ?_)
                      exact ⟨h89, rfl⟩
                    · refine dite (by simp only [e0_2]) (fun _ => ?_) (fun _ => ?_)
                      · refine dlet_Z (P := ym) (ym_t h0 rfl) (fun Z92 Z92' h92 => ?_)
                        exact ⟨h92, rfl⟩
                      · refine dlet_Z (P := ym) (ym_t h0 rfl) (fun Z93 Z93' h93 => ?_)
                        refine dlet_Z (P := ym) (ym_t h93.1 rfl) (fun Z94 Z94' h94 => ?_)
                        exact ⟨h94, rfl⟩
              · refine dite rfl (fun _ => ?_) (fun _ => ?_)
                · refine dite rfl (fun _ => ?_) (fun _ => ?_)
                  · refine dlet_Z (P := ym) (ym_t h0 rfl) (fun Z97 Z97' h97 => ?_)
                    exact ⟨h97, rfl⟩
                  · refine dite (by simp only [e0_2]) (fun _ => ?_) (fun _ => ?_)
                    · refine dlet_Z (P := ym) (ym_t h0 rfl) (fun Z100 Z100' h100 => ?_)
                      exact ⟨h100, rfl⟩
                    · refine dite rfl (fun _ => ?_) (fun _ => ?_)
                      · refine dlet_Z (P := ym) (ym_t h0 rfl) (fun Z102 Z102' h102 => ?_)
                        exact ⟨h102, rfl⟩
                      · refine dite (by simp only [e0_2]) (fun _ => ?_) (fun _ => ?_)
                        · refine dlet_Z (P := ym) (ym_t h0 rfl) (fun Z105 Z105' h105 => ?_)
                          exact ⟨h105, rfl⟩
                        · refine dlet_Z (P := ym) (ym_t h0 rfl) (fun Z106 Z106' h106 => ?_)
                          refine dlet_Z (P := ym) (ym_t h106.1 rfl) (fun Z107 Z107' h107 => ?_)
                          exact ⟨h107, rfl⟩
                · refine dite rfl (fun _ => ?_) (fun _ => ?_)
                  · refine dlet_Z (P := ym) (ym_t h0 rfl) (fun Z109 Z109' h109 => ?_)
                    exact ⟨h109, rfl⟩
                  · refine dite (by simp only [e0_2]) (fun _ => ?_) (fun _ => ?_)
                    · refine dlet_Z (P := ym) (ym_t h0 rfl) (fun Z112 Z112' h112 => ?_)
                      exact ⟨h112, rfl⟩
                    · refine dite rfl (fun _ => ?_) (fun _ => ?_)
                      · refine dlet_Z (P := ym) (ym_t h0 rfl) (fun Z114 Z114' h114 => ?_)
                        exact ⟨h114, rfl⟩
                      · refine dite (by simp only [e0_2]) (fun _ => ?_) (fun _ => ?_)
                        · refine dlet_Z (P := ym) (ym_t h0 rfl) (fun Z117 Z117' h117 => ?_)
                          exact ⟨h117, rfl⟩
                        · refine dlet_Z (P := ym) (ym_t h0 rfl) (fun Z118 Z118' h118 => ?_)
                          refine dlet_Z (P := ym) (ym_t h118.1 rfl) (fun Z119 Z119' h119 => ?_)
                          have e119_2 : ∀ a, Z119 2 0 0 a = Z119' 2 0 0 a := h119.1
                          refine dite (by simp only [e119_2]) (fun _ => ?_) (fun _ => ?_)
                          · refine dlet_Z (P := ym) (ym_t h119.1 rfl) (fun Z122 Z122' h122 => ?_)
                            exact ⟨h122, rfl⟩
                          · refine dlet_Z (P := ym) (ym_t h119.1 rfl) (fun Z123 Z123' h123 => ?_)
                            refine dlet_Z (P := ym) (hdm h123) (fun Z130 Z130' h130 => ?_)
                            have e130_2 : ∀ a, Z130 2 0 0 a = Z130' 2 0 0 a := h130.1
                            refine dlet_Z (P := ym) (ym_u h130 (by simp only [e130_2]) rfl) (fun Z133 Z133' h133 => ?_)
                            refine dlet_Z (P := ym) (ym_u h133 (by simp only [e130_2]) rfl) (fun Z134 Z134' h134 => ?_)
                            refine dlet_Z (P := ym) (ym_u h134 (by simp only [e130_2]) rfl) (fun Z135 Z135' h135 => ?_)
                            refine dlet_Z (P := ym) (ym_u h135 (by simp only [e130_2]) rfl) (fun Z136 Z136' h136 => ?_)
                            refine dlet_Z (P := ym) (ym_u h136 (by simp only [e130_2]) rfl) (fun Z137 Z137' h137 => ?_)
                            refine dlet_Z (P := ym) (ym_u h137 (by simp only [e130_2]) rfl) (fun Z138 Z138' h138 => ?_)
                            refine dlet_Z (P := ym) (ym_u h138 (by simp only [e130_2]) rfl) (fun Z139 Z139' h139 => ?_)
                            have e139_2 : ∀ a, Z139 2 0 0 a = Z139' 2 0 0 a := h139.1
                            refine dlet_Z (P := ym) (ym_u h139 rfl (by simp only [e139_2])) (fun Z142 Z142' h142 => ?_)
                            exact ⟨h142, (by simp only [e130_2])⟩
theorem dy_315 {Z Z' : qz_Z} {a1 a1' : Int} {dm dm' : qz_Z → Int → Int → Int → Int → Int → Int → Int → qz_Z} (hdm : zdm2 dm dm') (h0 : ym0 Z Z') (ia1 : a1 = a1') : dMe (ym) (zy_315 Z dm a1) (zy_315 Z' dm' a1') := by
  subst ia1
  have e0_2 : ∀ a, Z 2 0 0 a = Z' 2 0 0 a := h0
  unfold zy_315
  refine dite rfl (fun _ => ?_) (fun _ => ?_)
  · refine dlet_Z (P := ym) (ym_t h0 rfl) (fun Z5 Z5' h5 => ?_)
    exact ⟨h5, rfl⟩
  · refine dite (by simp only [e0_2]) (fun _ => ?_) (fun _ => ?_)
    · refine dlet_Z (P := ym) (ym_t h0 rfl) (fun Z8 Z8' h8 => ?_)
      exact ⟨h8, rfl⟩
    · refine dlet_Z (P := ym) (ym_t h0 rfl) (fun Z9 Z9' h9 => ?_)
      have e9_2 : ∀ a, Z9 2 0 0 a = Z9' 2 0 0 a := h9.1
      refine dite (by simp only [e9_2]) (fun _ => ?_) (fun _ => ?_)
      · refine dlet_Z (P := ym) (ym_t h9.1 rfl) (fun Z12 Z12' h12 => ?_)
        exact ⟨h12, rfl⟩
      · refine dlet_Z (P := ym) (ym_t h9.1 rfl) (fun Z13 Z13' h13 => ?_)
        refine dlet_Z (P := ym) (hdm h13) (fun Z20 Z20' h20 => ?_)
        have e20_2 : ∀ a, Z20 2 0 0 a = Z20' 2 0 0 a := h20.1
        refine dlet_Z (P := ym) (ym_u h20 rfl rfl) (fun Z21 Z21' h21 => ?_)
        refine dlet_Z (P := ym) (ym_u h21 rfl rfl) (fun Z22 Z22' h22 => ?_)
        exact ⟨h22, (by simp only [e20_2])⟩
theorem dy_451 {Z Z' : qz_Z} {a1 a2 a1' a2' : Int} {dm dm' : qz_Z → Int → Int → Int → Int → Int → Int → Int → qz_Z} (hdm : zdm2 dm dm') (h0 : ym0 Z Z') (ia1 : a1 = a1') (ia2 : a2 = a2') : dMe (ym) (zy_451 Z dm a1 a2) (zy_451 Z' dm' a1' a2') := by
  subst ia1
  subst ia2
  have e0_2 : ∀ a, Z 2 0 0 a = Z' 2 0 0 a := h0
  unfold zy_451
  refine dite rfl (fun _ => ?_) (fun _ => ?_)
  · refine dlet_Z (P := ym) (ym_t h0 rfl) (fun Z5 Z5' h5 => ?_)
    exact ⟨h5, rfl⟩
  · refine dite (by simp only [e0_2]) (fun _ => ?_) (fun _ => ?_)
    · refine dlet_Z (P := ym) (ym_t h0 rfl) (fun Z8 Z8' h8 => ?_)
      exact ⟨h8, rfl⟩
    · refine dlet_Z (P := ym) (ym_t h0 rfl) (fun Z9 Z9' h9 => ?_)
      refine dite rfl (fun _ => ?_) (fun _ => ?_)
      · refine dlet_Z (P := ym) (ym_t h9.1 rfl) (fun Z11 Z11' h11 => ?_)
        exact ⟨h11, rfl⟩
      · refine dite rfl (fun _ => ?_) (fun _ => ?_)
        · refine dlet_Z (P := ym) (ym_t h9.1 rfl) (fun Z13 Z13' h13 => ?_)
          exact ⟨h13, rfl⟩
        · refine dlet_Z (P := ym) (ym_t h9.1 rfl) (fun Z14 Z14' h14 => ?_)
          have e14_2 : ∀ a, Z14 2 0 0 a = Z14' 2 0 0 a := h14.1
          refine dite (by simp only [e14_2]) (fun _ => ?_) (fun _ => ?_)
          · refine dlet_Z (P := ym) (ym_t h14.1 rfl) (fun Z18 Z18' h18 => ?_)
            exact ⟨h18, rfl⟩
          · refine dlet_Z (P := ym) (ym_t h14.1 rfl) (fun Z19 Z19' h19 => ?_)
            refine dlet_Z (P := ym) (hdm h19) (fun Z26 Z26' h26 => ?_)
            have e26_2 : ∀ a, Z26 2 0 0 a = Z26' 2 0 0 a := h26.1
            refine dlet_Z (P := ym) (ym_u h26 rfl (by simp only [e26_2])) (fun Z30 Z30' h30 => ?_)
            have e30_2 : ∀ a, Z30 2 0 0 a = Z30' 2 0 0 a := h30.1
            refine dlet_Z (P := ym) (ym_u h30 rfl (by simp only [e30_2])) (fun Z33 Z33' h33 => ?_)
            refine dlet_Z (P := ym) (dq_403 h33 rfl rfl rfl rfl) (fun Z34 Z34' h34 => ?_)
            have e34_2 : ∀ a, Z34 2 0 0 a = Z34' 2 0 0 a := h34.1
            exact ⟨h34, (by simp only [e34_2])⟩
theorem dq_297 {Z Z' : qz_Z} {a1 a2 a3 a4 a5 a1' a2' a3' a4' a5' : Int} (h0 : ym Z Z') (ia1 : a1 = a1') (ia2 : a2 = a2') (ia3 : a3 = a3') (ia4 : a4 = a4') (ia5 : a5 = a5') : dMe (ym) (zf_297 Z a1 a2 a3 a4 a5) (zf_297 Z' a1' a2' a3' a4' a5') := by
  subst ia1
  subst ia2
  subst ia3
  subst ia4
  subst ia5
  have e0_2 : ∀ a, Z 2 0 0 a = Z' 2 0 0 a := h0.1
  unfold zf_297
  refine dlet_Z (P := ym) (ym_u h0 rfl (by simp only [e0_2])) (fun Z2 Z2' h2 => ?_)
  refine dlet_Z (P := ym) (ym_u h2 (by simp only [e0_2]) rfl) (fun Z5 Z5' h5 => ?_)
  refine dlet_Z (P := ym) (ym_u h5 (by simp only [e0_2]) rfl) (fun Z6 Z6' h6 => ?_)
  refine dlet_Z (P := ym) (ym_u h6 (by simp only [e0_2]) rfl) (fun Z7 Z7' h7 => ?_)
  refine dlet_Z (P := ym) (ym_u h7 (by simp only [e0_2]) rfl) (fun Z8 Z8' h8 => ?_)
  refine dlet_Z (P := ym) (ym_u h8 (by simp only [e0_2]) rfl) (fun Z11 Z11' h11 => ?_)
  refine dlet_Z (P := ym) (ym_u h11 (by simp only [e0_2]) rfl) (fun Z12 Z12' h12 => ?_)
  refine dlet_Z (P := ym) (ym_u h12 (by simp only [e0_2]) rfl) (fun Z13 Z13' h13 => ?_)
  exact ⟨h13, (by simp only [e0_2])⟩
theorem dy_316 {Z Z' : qz_Z} {a1 a2 a3 a4 a5 a1' a2' a3' a4' a5' : Int} {dm dm' : qz_Z → Int → Int → Int → Int → Int → Int → Int → qz_Z} (hdm : zdm2 dm dm') (h0 : ym0 Z Z') (ia1 : a1 = a1') (ia2 : a2 = a2') (ia3 : a3 = a3') (ia4 : a4 = a4') (ia5 : a5 = a5') : dMe (ym) (zy_316 Z dm a1 a2 a3 a4 a5) (zy_316 Z' dm' a1' a2' a3' a4' a5') := by
  subst ia1
  subst ia2
  subst ia3
  subst ia4
  subst ia5
  unfold zy_316
  refine dite rfl (fun _ => ?_) (fun _ => ?_)
  · refine dlet_Z (P := ym) (ym_t h0 rfl) (fun Z5 Z5' h5 => ?_)
    exact ⟨h5, rfl⟩
  · refine dite rfl (fun _ => ?_) (fun _ => ?_)
    · refine dlet_Z (P := ym) (ym_t h0 rfl) (fun Z7 Z7' h7 => ?_)
      exact ⟨h7, rfl⟩
    · refine dite rfl (fun _ => ?_) (fun _ => ?_)
      · refine dlet_Z (P := ym) (ym_t h0 rfl) (fun Z9 Z9' h9 => ?_)
        exact ⟨h9, rfl⟩
      · refine dite rfl (fun _ => ?_) (fun _ => ?_)
        · refine dlet_Z (P := ym) (ym_t h0 rfl) (fun Z11 Z11' h11 => ?_)
          exact ⟨h11, rfl⟩
        · refine dite rfl (fun _ => ?_) (fun _ => ?_)
          · refine dlet_Z (P := ym) (ym_t h0 rfl) (fun Z13 Z13' h13 => ?_)
            exact ⟨h13, rfl⟩
          · refine dite rfl (fun _ => ?_) (fun _ => ?_)
            · refine dlet_Z (P := ym) (ym_t h0 rfl) (fun Z15 Z15' h15 => ?_)
              exact ⟨h15, rfl⟩
            · refine dite rfl (fun _ => ?_) (fun _ => ?_)
              · refine dlet_Z (P := ym) (ym_t h0 rfl) (fun Z17 Z17' h17 => ?_)
                exact ⟨h17, rfl⟩
              · refine dite rfl (fun _ => ?_) (fun _ => ?_)
                · refine dlet_Z (P := ym) (ym_t h0 rfl) (fun Z19 Z19' h19 => ?_)
                  exact ⟨h19, rfl⟩
                · refine dite rfl (fun _ => ?_) (fun _ => ?_)
                  · refine dlet_Z (P := ym) (ym_t h0 rfl) (fun Z21 Z21' h21 => ?_)
                    exact ⟨h21, rfl⟩
                  · refine dite rfl (fun _ => ?_) (fun _ => ?_)
                    · refine dlet_Z (P := ym) (ym_t h0 rfl) (fun Z23 Z23' h23 => ?_)
                      exact ⟨h23, rfl⟩
                    · refine dite rfl (fun _ => ?_) (fun _ => ?_)
                      · refine dlet_Z (P := ym) (ym_t h0 rfl) (fun Z25 Z25' h25 => ?_)
                        exact ⟨h25, rfl⟩
                      · refine dlet_Z (P := ym) (ym_t h0 rfl) (fun Z26 Z26' h26 => ?_)
                        have e26_2 : ∀ a, Z26 2 0 0 a = Z26' 2 0 0 a := h26.1
                        refine dite (by simp only [e26_2]) (fun _ => ?_) (fun _ => ?_)
                        · refine dlet_Z (P := ym) (ym_t h26.1 rfl) (fun Z29 Z29' h29 => ?_)
                          exact ⟨h29, rfl⟩
                        · refine dlet_Z (P := ym) (ym_t h26.1 rfl) (fun Z30 Z30' h30 => ?_)
                          refine dlet_Z (P := ym) (hdm h30) (fun Z37 Z37' h37 => ?_)
                          refine dlet2 (dq_297 h37 rfl rfl rfl rfl rfl) (fun Z40 Z40' v41 h40 => ?_)
                          exact ⟨h40, rfl⟩
theorem dq_307 {Z Z' : qz_Z} {a1 a2 a3 a4 a1' a2' a3' a4' : Int} (h0 : ym Z Z') (ia1 : a1 = a1') (ia2 : a2 = a2') (ia3 : a3 = a3') (ia4 : a4 = a4') : ym (zf_307 Z a1 a2 a3 a4) (zf_307 Z' a1' a2' a3' a4') := by
  subst ia1
  subst ia2
  subst ia3
  subst ia4
  have e0_2 : ∀ a, Z 2 0 0 a = Z' 2 0 0 a := h0.1
  unfold zf_307
  refine dlet_Z (P := ym) (ym_u h0 (by simp only [e0_2]) rfl) (fun Z8 Z8' h8 => ?_)
  refine dlet_Z (P := ym) (ym_u h8 (by simp only [e0_2]) rfl) (fun Z9 Z9' h9 => ?_)
  refine dlet_Z (P := ym) (ym_u h9 (by simp only [e0_2]) rfl) (fun Z12 Z12' h12 => ?_)
  refine dlet_Z (P := ym) (ym_u h12 rfl (by simp only [e0_2])) (fun Z15 Z15' h15 => ?_)
  refine dlet_Z (P := ym) (ym_u h15 rfl rfl) (fun Z27 Z27' h27 => ?_)
  exact h27
theorem dy_459 {Z Z' : qz_Z} {a1 a2 a3 a4 a1' a2' a3' a4' : Int} {dm dm' : qz_Z → Int → Int → Int → Int → Int → Int → Int → qz_Z} (hdm : zdm2 dm dm') (h0 : ym0 Z Z') (ia1 : a1 = a1') (ia2 : a2 = a2') (ia3 : a3 = a3') (ia4 : a4 = a4') : dMe (ym) (zy_459 Z dm a1 a2 a3 a4) (zy_459 Z' dm' a1' a2' a3' a4') := by
  subst ia1
  subst ia2
  subst ia3
  subst ia4
  have e0_2 : ∀ a, Z 2 0 0 a = Z' 2 0 0 a := h0
  unfold zy_459
  refine dite rfl (fun _ => ?_) (fun _ => ?_)
  · refine dlet_Z (P := ym) (ym_t h0 rfl) (fun Z5 Z5' h5 => ?_)
    exact ⟨h5, rfl⟩
  · refine dite (by simp only [e0_2]) (fun _ => ?_) (fun _ => ?_)
    · refine dlet_Z (P := ym) (ym_t h0 rfl) (fun Z8 Z8' h8 => ?_)
      exact ⟨h8, rfl⟩
    · refine dite rfl (fun _ => ?_) (fun _ => ?_)
      · refine dlet_Z (P := ym) (ym_t h0 rfl) (fun Z10 Z10' h10 => ?_)
        exact ⟨h10, rfl⟩
      · refine dite (by simp only [e0_2]) (fun _ => ?_) (fun _ => ?_)
        · refine dlet_Z (P := ym) (ym_t h0 rfl) (fun Z13 Z13' h13 => ?_)
          exact ⟨h13, rfl⟩
        · refine dlet_Z (P := ym) (ym_t h0 rfl) (fun Z14 Z14' h14 => ?_)
          have e14_2 : ∀ a, Z14 2 0 0 a = Z14' 2 0 0 a := h14.1
          refine dite rfl (fun _ => ?_) (fun _ => ?_)
          · refine dlet_Z (P := ym) (ym_t h14.1 rfl) (fun Z16 Z16' h16 => ?_)
            exact ⟨h16, rfl⟩
          · refine dite rfl (fun _ => ?_) (fun _ => ?_)
            · refine dlet_Z (P := ym) (ym_t h14.1 rfl) (fun Z18 Z18' h18 => ?_)
              exact ⟨h18, rfl⟩
            · refine dite rfl (fun _ => ?_) (fun _ => ?_)
              · refine dlet_Z (P := ym) (ym_t h14.1 rfl) (fun Z20 Z20' h20 => ?_)
                exact ⟨h20, rfl⟩
              · refine dite rfl (fun _ => ?_) (fun _ => ?_)
                · refine dlet_Z (P := ym) (ym_t h14.1 rfl) (fun Z22 Z22' h22 => ?_)
                  exact ⟨h22, rfl⟩
                · refine dite (by simp only [e14_2]) (fun _ => ?_) (fun _ => ?_)
                  · refine dlet_Z (P := ym) (ym_t h14.1 rfl) (fun Z28 Z28' h28 => ?_)
                    exact ⟨h28, rfl⟩
                  · refine dlet_Z (P := ym) (ym_t h14.1 rfl) (fun Z29 Z29' h29 => ?_)
                    have e29_2 : ∀ a, Z29 2 0 0 a = Z29' 2 0 0 a := h29.1
                    have p29_390 : ∀ u1 : Int, zf_390 Z29 u1 = zf_390 Z29' u1 := fun u1 => dq_390 h29.1 rfl
                    refine dite (by simp only [e29_2]) (fun _ => ?_) (fun _ => ?_)
                    · refine dlet_Z (P := ym) (ym_t h29.1 rfl) (fun Z35 Z35' h35 => ?_)
                      exact ⟨h35, rfl⟩
                    · refine dite (by simp only [e29_2]) (fun _ => ?_) (fun _ => ?_)
                      · refine dlet_Z (P := ym) (ym_t h29.1 rfl) (fun Z38 Z38' h38 => ?_)
                        exact ⟨h38, rfl⟩
                      · refine dlet_i (by simp only [e29_2, p29_390]) (fun v40 => ?_)
                        refine dite rfl (fun _ => ?_) (fun _ => ?_)
                        · refine dlet_Z (P := ym) (ym_t h29.1 rfl) (fun Z42 Z42' h42 => ?_)
                          exact ⟨h42, rfl⟩
                        · refine dite (by simp only [e29_2]) (fun _ => ?_) (fun _ => ?_)
                          · refine dlet_Z (P := ym) (ym_t h29.1 rfl) (fun Z45 Z45' h45 => ?_)
                            exact ⟨h45, rfl⟩
                          · refine dlet_Z (P := ym) (ym_t h29.1 rfl) (fun Z46 Z46' h46 => ?_)
                            refine dlet_Z (P := ym) (hdm h46) (fun Z53 Z53' h53 => ?_)
                            refine dlet_Z (P := ym) (dq_307 h53 rfl rfl rfl rfl) (fun Z66 Z66' h66 => ?_)
                            have e66_2 : ∀ a, Z66 2 0 0 a = Z66' 2 0 0 a := h66.1
                            exact ⟨h66, (by simp only [e66_2])⟩
theorem dy_546 {Z Z' : qz_Z} {a1 a1' : Int} {dm dm' : qz_Z → Int → Int → Int → Int → Int → Int → Int → qz_Z} (hdm : zdm2 dm dm') (h0 : ym0 Z Z') (ia1 : a1 = a1') : dMe (ym) (zy_546 Z dm a1) (zy_546 Z' dm' a1') := by
  subst ia1
  have e0_2 : ∀ a, Z 2 0 0 a = Z' 2 0 0 a := h0
  unfold zy_546
  refine dite rfl (fun _ => ?_) (fun _ => ?_)
  · refine dlet_Z (P := ym) (ym_t h0 rfl) (fun Z5 Z5' h5 => ?_)
    exact ⟨h5, rfl⟩
  · refine dite (by simp only [e0_2]) (fun _ => ?_) (fun _ => ?_)
    · refine dlet_Z (P := ym) (ym_t h0 rfl) (fun Z8 Z8' h8 => ?_)
      exact ⟨h8, rfl⟩
    · refine dlet_Z (P := ym) (ym_t h0 rfl) (fun Z9 Z9' h9 => ?_)
      have e9_2 : ∀ a, Z9 2 0 0 a = Z9' 2 0 0 a := h9.1
      refine dite (by simp only [e9_2]) (fun _ => ?_) (fun _ => ?_)
      · refine dlet_Z (P := ym) (ym_t h9.1 rfl) (fun Z15 Z15' h15 => ?_)
        exact ⟨h15, rfl⟩
      · refine dlet_Z (P := ym) (ym_t h9.1 rfl) (fun Z16 Z16' h16 => ?_)
        refine dlet_Z (P := ym) (hdm h16) (fun Z23 Z23' h23 => ?_)
        have p23_305 : ∀ u1 : Int, zf_305 Z23 u1 = zf_305 Z23' u1 := fun u1 => dq_305 h23.1 rfl
        have p23_306 : ∀ u1 u2 : Int, zf_306 Z23 u1 u2 = zf_306 Z23' u1 u2 := fun u1 u2 => dq_306 h23.1 rfl rfl
        refine dlet_i (by simp only [p23_305]) (fun v24 => ?_)
        refine dlet_i (by simp only [p23_305]) (fun v25 => ?_)
        refine dite rfl (fun _ => ?_) (fun _ => ?_)
        · refine dlet_Z (P := ym) (ym_u h23 rfl rfl) (fun Z27 Z27' h27 => ?_)
          have e27_2 : ∀ a, Z27 2 0 0 a = Z27' 2 0 0 a := h27.1
          exact ⟨h27, (by simp only [e27_2])⟩
        · refine dlet_i (by simp only [p23_306]) (fun v36 => ?_)
          refine dlet_Z (P := ym) (dq_312 h23 rfl rfl) (fun Z41 Z41' h41 => ?_)
          refine dlet_Z (P := ym) (ym_u h41 rfl rfl) (fun Z49 Z49' h49 => ?_)
          have e49_2 : ∀ a, Z49 2 0 0 a = Z49' 2 0 0 a := h49.1
          exact ⟨h49, (by simp only [e49_2])⟩
theorem dy_543 {Z Z' : qz_Z} {a1 a2 a3 a1' a2' a3' : Int} {dm dm' : qz_Z → Int → Int → Int → Int → Int → Int → Int → qz_Z} (hdm : zdm2 dm dm') (h0 : ym0 Z Z') (ia1 : a1 = a1') (ia2 : a2 = a2') (ia3 : a3 = a3') : dMe (ym) (zy_543 Z dm a1 a2 a3) (zy_543 Z' dm' a1' a2' a3') := by
  subst ia1
  subst ia2
  subst ia3
  unfold zy_543
  refine dite rfl (fun _ => ?_) (fun _ => ?_)
  · refine dlet_Z (P := ym) (ym_t h0 rfl) (fun Z5 Z5' h5 => ?_)
    exact ⟨h5, rfl⟩
  · refine dite rfl (fun _ => ?_) (fun _ => ?_)
    · refine dlet_Z (P := ym) (ym_t h0 rfl) (fun Z7 Z7' h7 => ?_)
      exact ⟨h7, rfl⟩
    · refine dite rfl (fun _ => ?_) (fun _ => ?_)
      · refine dlet_Z (P := ym) (ym_t h0 rfl) (fun Z9 Z9' h9 => ?_)
        exact ⟨h9, rfl⟩
      · refine dite rfl (fun _ => ?_) (fun _ => ?_)
        · refine dlet_Z (P := ym) (ym_t h0 rfl) (fun Z11 Z11' h11 => ?_)
          exact ⟨h11, rfl⟩
        · refine dlet_Z (P := ym) (ym_t h0 rfl) (fun Z12 Z12' h12 => ?_)
          refine dite rfl (fun _ => ?_) (fun _ => ?_)
          · refine dlet_Z (P := ym) (ym_t h12.1 rfl) (fun Z14 Z14' h14 => ?_)
            exact ⟨h14, rfl⟩
          · refine dite rfl (fun _ => ?_) (fun _ => ?_)
            · refine dlet_Z (P := ym) (ym_t h12.1 rfl) (fun Z16 Z16' h16 => ?_)
              exact ⟨h16, rfl⟩
            · refine dite rfl (fun _ => ?_) (fun _ => ?_)
              · refine dlet_Z (P := ym) (ym_t h12.1 rfl) (fun Z18 Z18' h18 => ?_)
                exact ⟨h18, rfl⟩
              · refine dlet_Z (P := ym) (ym_t h12.1 rfl) (fun Z19 Z19' h19 => ?_)
                refine dlet_Z (P := ym) (hdm h19) (fun Z26 Z26' h26 => ?_)
                have e26_2 : ∀ a, Z26 2 0 0 a = Z26' 2 0 0 a := h26.1
                refine dlet_Z (P := ym) (ym_u h26 rfl rfl) (fun Z27 Z27' h27 => ?_)
                refine dlet_Z (P := ym) (ym_u h27 rfl rfl) (fun Z28 Z28' h28 => ?_)
                exact ⟨h28, (by simp only [e26_2])⟩
theorem dl_518_1 : ∀ (m : Nat) {Z Z' : qz_Z} {x1 x2 x3 x4 x1' x2' x3' x4' : Int}, x1 = x1' → x2 = x2' → ym0 Z Z' → x3 = x3' → x4 = x4' → zl_518_1 x1 x2 m Z x3 x4 = zl_518_1 x1' x2' m Z' x3' x4'
  | 0, Z, Z', x1, x2, x3, x4, x1', x2', x3', x4', ix1, ix2, h0, ix3, ix4 => by
    subst ix1
    subst ix2
    subst ix3
    subst ix4
    unfold zl_518_1
    exact rfl
  | m + 1, Z, Z', x1, x2, x3, x4, x1', x2', x3', x4', ix1, ix2, h0, ix3, ix4 => by
    subst ix1
    subst ix2
    subst ix3
    subst ix4
    have e0_2 : ∀ a, Z 2 0 0 a = Z' 2 0 0 a := h0
    unfold zl_518_1
    refine dite (by simp only [e0_2]) (fun _ => ?_) (fun _ => ?_)
    · exact rfl
    · refine dite (by simp only [e0_2]) (fun _ => ?_) (fun _ => ?_)
      · exact dl_518_1 m rfl rfl h0 rfl rfl
      · refine dite (by simp only [e0_2]) (fun _ => ?_) (fun _ => ?_)
        · exact dl_518_1 m rfl rfl h0 rfl rfl
        · refine dite rfl (fun _ => ?_) (fun _ => ?_)
          · exact dl_518_1 m rfl rfl h0 rfl rfl
          · exact dl_518_1 m rfl rfl h0 (by simp only [e0_2]) rfl
theorem dq_518 {Z Z' : qz_Z} {a1 a2 a1' a2' : Int} (h0 : ym0 Z Z') (ia1 : a1 = a1') (ia2 : a2 = a2') : zf_518 Z a1 a2 = zf_518 Z' a1' a2' := by
  subst ia1
  subst ia2
  unfold zf_518
  refine dlet2e (dl_518_1 _ rfl rfl h0 rfl rfl) (fun y1 y2 => ?_)
  exact rfl
theorem dl_508_1 : ∀ (m : Nat) {Z Z' : qz_Z} {x1 x2 x1' x2' : Int}, ym0 Z Z' → x1 = x1' → x2 = x2' → zl_508_1 m Z x1 x2 = zl_508_1 m Z' x1' x2'
  | 0, Z, Z', x1, x2, x1', x2', h0, ix1, ix2 => by
    subst ix1
    subst ix2
    unfold zl_508_1
    exact rfl
  | m + 1, Z, Z', x1, x2, x1', x2', h0, ix1, ix2 => by
    subst ix1
    subst ix2
    have e0_2 : ∀ a, Z 2 0 0 a = Z' 2 0 0 a := h0
    have p0_518 : ∀ u1 u2 : Int, zf_518 Z u1 u2 = zf_518 Z' u1 u2 := fun u1 u2 => dq_518 h0 rfl rfl
    unfold zl_508_1
    refine dite (by simp only [e0_2]) (fun _ => ?_) (fun _ => ?_)
    · exact rfl
    · refine dite (by simp only [e0_2]) (fun _ => ?_) (fun _ => ?_)
      · refine dlet_i (by simp only [p0_518]) (fun v5 => ?_)
        refine dite rfl (fun _ => ?_) (fun _ => ?_)
        · exact dl_508_1 m h0 rfl rfl
        · exact dl_508_1 m h0 rfl rfl
      · exact dl_508_1 m h0 rfl rfl
theorem dq_508 {Z Z' : qz_Z} (h0 : ym0 Z Z') : zf_508 Z = zf_508 Z' := by
  unfold zf_508
  refine dlet2e (dl_508_1 _ h0 rfl rfl) (fun y1 y2 => ?_)
  exact rfl
theorem dy_336 {Z Z' : qz_Z} {a1 a1' : Int} {dm dm' : qz_Z → Int → Int → Int → Int → Int → Int → Int → qz_Z} (hdm : zdm2 dm dm') (h0 : ym0 Z Z') (ia1 : a1 = a1') : dMe (ym) (zy_336 Z dm a1) (zy_336 Z' dm' a1') := by
  subst ia1
  unfold zy_336
  refine dite rfl (fun _ => ?_) (fun _ => ?_)
  · refine dlet_Z (P := ym) (ym_t h0 rfl) (fun Z5 Z5' h5 => ?_)
    exact ⟨h5, rfl⟩
  · refine dite rfl (fun _ => ?_) (fun _ => ?_)
    · refine dlet_Z (P := ym) (ym_t h0 rfl) (fun Z7 Z7' h7 => ?_)
      exact ⟨h7, rfl⟩
    · refine dlet_Z (P := ym) (ym_t h0 rfl) (fun Z8 Z8' h8 => ?_)
      have p8_508 : zf_508 Z8 = zf_508 Z8' := dq_508 h8.1
      refine dlet_i (by simp only [p8_508]) (fun v9 => ?_)
      refine dite rfl (fun _ => ?_) (fun _ => ?_)
      · refine dlet_Z (P := ym) (ym_t h8.1 rfl) (fun Z11 Z11' h11 => ?_)
        exact ⟨h11, rfl⟩
      · refine dlet_Z (P := ym) (ym_t h8.1 rfl) (fun Z12 Z12' h12 => ?_)
        refine dlet_Z (P := ym) (hdm h12) (fun Z19 Z19' h19 => ?_)
        have e19_2 : ∀ a, Z19 2 0 0 a = Z19' 2 0 0 a := h19.1
        refine dlet_Z (P := ym) (ym_u h19 rfl rfl) (fun Z20 Z20' h20 => ?_)
        exact ⟨h20, (by simp only [e19_2])⟩
theorem dy_539 {Z Z' : qz_Z} {a1 a2 a1' a2' : Int} {dm dm' : qz_Z → Int → Int → Int → Int → Int → Int → Int → qz_Z} (hdm : zdm2 dm dm') (h0 : ym0 Z Z') (ia1 : a1 = a1') (ia2 : a2 = a2') : dMe (ym) (zy_539 Z dm a1 a2) (zy_539 Z' dm' a1' a2') := by
  subst ia1
  subst ia2
  unfold zy_539
  refine dite rfl (fun _ => ?_) (fun _ => ?_)
  · refine dlet_Z (P := ym) (ym_t h0 rfl) (fun Z5 Z5' h5 => ?_)
    exact ⟨h5, rfl⟩
  · refine dite rfl (fun _ => ?_) (fun _ => ?_)
    · refine dlet_Z (P := ym) (ym_t h0 rfl) (fun Z7 Z7' h7 => ?_)
      exact ⟨h7, rfl⟩
    · refine dite rfl (fun _ => ?_) (fun _ => ?_)
      · refine dlet_Z (P := ym) (ym_t h0 rfl) (fun Z9 Z9' h9 => ?_)
        exact ⟨h9, rfl⟩
      · refine dite rfl (fun _ => ?_) (fun _ => ?_)
        · refine dlet_Z (P := ym) (ym_t h0 rfl) (fun Z11 Z11' h11 => ?_)
          exact ⟨h11, rfl⟩
        · refine dlet_Z (P := ym) (ym_t h0 rfl) (fun Z12 Z12' h12 => ?_)
          have e12_2 : ∀ a, Z12 2 0 0 a = Z12' 2 0 0 a := h12.1
          refine dite (by simp only [e12_2]) (fun _ => ?_) (fun _ => ?_)
          · refine dlet_Z (P := ym) (ym_t h12.1 rfl) (fun Z15 Z15' h15 => ?_)
            exact ⟨h15, rfl⟩
          · refine dlet_Z (P := ym) (ym_t h12.1 rfl) (fun Z16 Z16' h16 => ?_)
            refine dlet_Z (P := ym) (hdm h16) (fun Z23 Z23' h23 => ?_)
            have e23_2 : ∀ a, Z23 2 0 0 a = Z23' 2 0 0 a := h23.1
            refine dlet_Z (P := ym) (ym_u h23 (by simp only [e23_2]) rfl) (fun Z26 Z26' h26 => ?_)
            refine dlet_Z (P := ym) (ym_u h26 (by simp only [e23_2]) rfl) (fun Z27 Z27' h27 => ?_)
            refine dlet_Z (P := ym) (ym_u h27 (by simp only [e23_2]) rfl) (fun Z28 Z28' h28 => ?_)
            refine dlet_Z (P := ym) (ym_u h28 (by simp only [e23_2]) rfl) (fun Z29 Z29' h29 => ?_)
            have e29_2 : ∀ a, Z29 2 0 0 a = Z29' 2 0 0 a := h29.1
            refine dlet_Z (P := ym) (ym_u h29 rfl (by simp only [e29_2])) (fun Z32 Z32' h32 => ?_)
            exact ⟨h32, (by simp only [e23_2])⟩
theorem dq_437 {Z Z' : qz_Z} {a1 a2 a1' a2' : Int} (h0 : ym0 Z Z') (ia1 : a1 = a1') (ia2 : a2 = a2') : zf_437 Z a1 a2 = zf_437 Z' a1' a2' := by
  subst ia1
  subst ia2
  have e0_2 : ∀ a, Z 2 0 0 a = Z' 2 0 0 a := h0
  have p0_390 : ∀ u1 : Int, zf_390 Z u1 = zf_390 Z' u1 := fun u1 => dq_390 h0 rfl
  have p0_508 : zf_508 Z = zf_508 Z' := dq_508 h0
  have p0_518 : ∀ u1 u2 : Int, zf_518 Z u1 u2 = zf_518 Z' u1 u2 := fun u1 u2 => dq_518 h0 rfl rfl
  unfold zf_437
  refine dite (by simp only [e0_2]) (fun _ => ?_) (fun _ => ?_)
  · exact rfl
  · refine dlet_i (by simp only [e0_2, p0_390]) (fun v8 => ?_)
    refine dite rfl (fun _ => ?_) (fun _ => ?_)
    · exact rfl
    · refine dite (by simp only [e0_2]) (fun _ => ?_) (fun _ => ?_)
      · refine dlet_i (by simp only [p0_518]) (fun v12 => ?_)
        refine dite (by simp only [e0_2]) (fun _ => ?_) (fun _ => ?_)
        · exact rfl
        · refine dlet_i (by simp only [p0_518]) (fun v19 => ?_)
          refine dite rfl (fun _ => ?_) (fun _ => ?_)
          · refine dlet_i (by simp only [p0_508]) (fun v21 => ?_)
            refine dite (by simp only [e0_2]) (fun _ => ?_) (fun _ => ?_)
            · exact rfl
            · exact rfl
          · exact rfl
      · exact rfl
theorem dy_426 {Z Z' : qz_Z} {a1 a2 a1' a2' : Int} {dm dm' : qz_Z → Int → Int → Int → Int → Int → Int → Int → qz_Z} (hdm : zdm2 dm dm') (h0 : ym0 Z Z') (ia1 : a1 = a1') (ia2 : a2 = a2') : dMe (ym) (zy_426 Z dm a1 a2) (zy_426 Z' dm' a1' a2') := by
  subst ia1
  subst ia2
  have e0_2 : ∀ a, Z 2 0 0 a = Z' 2 0 0 a := h0
  unfold zy_426
  refine dite rfl (fun _ => ?_) (fun _ => ?_)
  · refine dlet_Z (P := ym) (ym_t h0 rfl) (fun Z5 Z5' h5 => ?_)
    exact ⟨h5, rfl⟩
  · refine dite (by simp only [e0_2]) (fun _ => ?_) (fun _ => ?_)
    · refine dlet_Z (P := ym) (ym_t h0 rfl) (fun Z8 Z8' h8 => ?_)
      exact ⟨h8, rfl⟩
    · refine dite rfl (fun _ => ?_) (fun _ => ?_)
      · refine dlet_Z (P := ym) (ym_t h0 rfl) (fun Z10 Z10' h10 => ?_)
        exact ⟨h10, rfl⟩
      · refine dite (by simp only [e0_2]) (fun _ => ?_) (fun _ => ?_)
        · refine dlet_Z (P := ym) (ym_t h0 rfl) (fun Z13 Z13' h13 => ?_)
          exact ⟨h13, rfl⟩
        · refine dlet_Z (P := ym) (ym_t h0 rfl) (fun Z14 Z14' h14 => ?_)
          have p14_437 : ∀ u1 u2 : Int, zf_437 Z14 u1 u2 = zf_437 Z14' u1 u2 := fun u1 u2 => dq_437 h14.1 rfl rfl
          refine dlet_i (by simp only [p14_437]) (fun v15 => ?_)
          refine dite rfl (fun _ => ?_) (fun _ => ?_)
          · refine dlet_Z (P := ym) (ym_t h14.1 rfl) (fun Z17 Z17' h17 => ?_)
            exact ⟨h17, rfl⟩
          · refine dlet_Z (P := ym) (ym_t h14.1 rfl) (fun Z18 Z18' h18 => ?_)
            refine dlet_Z (P := ym) (hdm h18) (fun Z25 Z25' h25 => ?_)
            have e25_2 : ∀ a, Z25 2 0 0 a = Z25' 2 0 0 a := h25.1
            refine dlet_Z (P := ym) (ym_u h25 rfl (by simp only [e25_2])) (fun Z28 Z28' h28 => ?_)
            have e28_2 : ∀ a, Z28 2 0 0 a = Z28' 2 0 0 a := h28.1
            refine dlet_Z (P := ym) (ym_u h28 rfl (by simp only [e25_2, e28_2])) (fun Z30 Z30' h30 => ?_)
            have e30_2 : ∀ a, Z30 2 0 0 a = Z30' 2 0 0 a := h30.1
            refine dlet_Z (P := ym) (ym_u h30 rfl (by simp only [e30_2])) (fun Z32 Z32' h32 => ?_)
            have e32_2 : ∀ a, Z32 2 0 0 a = Z32' 2 0 0 a := h32.1
            refine dlet_Z (P := ym) (ym_u h32 rfl (by simp only [e25_2, e32_2])) (fun Z35 Z35' h35 => ?_)
            have e35_2 : ∀ a, Z35 2 0 0 a = Z35' 2 0 0 a := h35.1
            refine dlet_Z (P := ym) (ym_u h35 rfl (by simp only [e25_2, e35_2])) (fun Z38 Z38' h38 => ?_)
            refine dlet_Z (P := ym) (ym_u h38 rfl rfl) (fun Z39 Z39' h39 => ?_)
            refine dlet_Z (P := ym) (ym_u h39 rfl rfl) (fun Z42 Z42' h42 => ?_)
            refine dlet_Z (P := ym) (dq_429 h42 (by simp only [e25_2])) (fun Z46 Z46' h46 => ?_)
            have p46_518 : ∀ u1 u2 : Int, zf_518 Z46 u1 u2 = zf_518 Z46' u1 u2 := fun u1 u2 => dq_518 h46.1 rfl rfl
            refine dlet_i (by simp only [p46_518]) (fun v47 => ?_)
            exact ⟨h46, rfl⟩
theorem dy_499 {Z Z' : qz_Z} {a1 a2 a1' a2' : Int} {dm dm' : qz_Z → Int → Int → Int → Int → Int → Int → Int → qz_Z} (hdm : zdm2 dm dm') (h0 : ym0 Z Z') (ia1 : a1 = a1') (ia2 : a2 = a2') : dMe (ym) (zy_499 Z dm a1 a2) (zy_499 Z' dm' a1' a2') := by
  subst ia1
  subst ia2
  have e0_2 : ∀ a, Z 2 0 0 a = Z' 2 0 0 a := h0
  unfold zy_499
  refine dite rfl (fun _ => ?_) (fun _ => ?_)
  · refine dlet_Z (P := ym) (ym_t h0 rfl) (fun Z5 Z5' h5 => ?_)
    exact ⟨h5, rfl⟩
  · refine dite (by simp only [e0_2]) (fun _ => ?_) (fun _ => ?_)
    · refine dlet_Z (P := ym) (ym_t h0 rfl) (fun Z8 Z8' h8 => ?_)
      exact ⟨h8, rfl⟩
    · refine dlet_Z (P := ym) (ym_t h0 rfl) (fun Z9 Z9' h9 => ?_)
      have e9_2 : ∀ a, Z9 2 0 0 a = Z9' 2 0 0 a := h9.1
      refine dite rfl (fun _ => ?_) (fun _ => ?_)
      · refine dlet_Z (P := ym) (ym_t h9.1 rfl) (fun Z11 Z11' h11 => ?_)
        have e11_2 : ∀ a, Z11 2 0 0 a = Z11' 2 0 0 a := h11.1
        refine dite (by simp only [e11_2]) (fun _ => ?_) (fun _ => ?_)
        · refine dlet_Z (P := ym) (ym_t h11.1 rfl) (fun Z14 Z14' h14 => ?_)
          refine dlet_Z (P := ym) (hdm h14) (fun Z21 Z21' h21 => ?_)
          have e21_2 : ∀ a, Z21 2 0 0 a = Z21' 2 0 0 a := h21.1
          refine dlet_Z (P := ym) (ym_u h21 rfl rfl) (fun Z22 Z22' h22 => ?_)
          exact ⟨h22, (by simp only [e21_2])⟩
        · refine dlet_Z (P := ym) (ym_t h11.1 rfl) (fun Z24 Z24' h24 => ?_)
          exact ⟨h24, rfl⟩
      · refine dite (by simp only [e9_2]) (fun _ => ?_) (fun _ => ?_)
        · refine dlet_Z (P := ym) (ym_t h9.1 rfl) (fun Z27 Z27' h27 => ?_)
          exact ⟨h27, rfl⟩
        · refine dite rfl (fun _ => ?_) (fun _ => ?_)
          · refine dlet_Z (P := ym) (ym_t h9.1 rfl) (fun Z29 Z29' h29 => ?_)
            exact ⟨h29, rfl⟩
          · refine dlet_Z (P := ym) (ym_t h9.1 rfl) (fun Z30 Z30' h30 => ?_)
            have e30_2 : ∀ a, Z30 2 0 0 a = Z30' 2 0 0 a := h30.1
            refine dite (by simp only [e30_2]) (fun _ => ?_) (fun _ => ?_)
            · refine dlet_Z (P := ym) (ym_t h30.1 rfl) (fun Z33 Z33' h33 => ?_)
              refine dlet_Z (P := ym) (hdm h33) (fun Z40 Z40' h40 => ?_)
              have e40_2 : ∀ a, Z40 2 0 0 a = Z40' 2 0 0 a := h40.1
              refine dlet_Z (P := ym) (ym_u h40 rfl rfl) (fun Z41 Z41' h41 => ?_)
              exact ⟨h41, (by simp only [e40_2])⟩
            · refine dlet_Z (P := ym) (ym_t h30.1 rfl) (fun Z43 Z43' h43 => ?_)
              exact ⟨h43, rfl⟩
theorem dl_359_1 : ∀ (m : Nat) {Z Z' : qz_Z} {x1 x2 x3 x4 x1' x2' x3' x4' : Int}, x1 = x1' → x2 = x2' → x3 = x3' → ym Z Z' → x4 = x4' → dMe (ym) (zl_359_1 x1 x2 x3 m Z x4) (zl_359_1 x1' x2' x3' m Z' x4')
  | 0, Z, Z', x1, x2, x3, x4, x1', x2', x3', x4', ix1, ix2, ix3, h0, ix4 => by
    subst ix1
    subst ix2
    subst ix3
    subst ix4
    unfold zl_359_1
    exact ⟨h0, rfl⟩
  | m + 1, Z, Z', x1, x2, x3, x4, x1', x2', x3', x4', ix1, ix2, ix3, h0, ix4 => by
    subst ix1
    subst ix2
    subst ix3
    subst ix4
    unfold zl_359_1
    refine dite rfl (fun _ => ?_) (fun _ => ?_)
    · exact ⟨h0, rfl⟩
    · refine dlet_Z (P := ym) (ym_u h0 rfl rfl) (fun Z3 Z3' h3 => ?_)
      exact dl_359_1 m rfl rfl rfl h3 rfl
theorem dq_359 {Z Z' : qz_Z} {a1 a2 a1' a2' : Int} (h0 : ym Z Z') (ia1 : a1 = a1') (ia2 : a2 = a2') : dMe (ym) (zf_359 Z a1 a2) (zf_359 Z' a1' a2') := by
  subst ia1
  subst ia2
  have e0_2 : ∀ a, Z 2 0 0 a = Z' 2 0 0 a := h0.1
  unfold zf_359
  refine dlet2 (dl_359_1 _ rfl rfl (by simp only [e0_2]) h0 rfl) (fun Z3 Z3' y2 h3 => ?_)
  refine dlet_Z (P := ym) (ym_u h3 (by simp only [e0_2]) rfl) (fun Z6 Z6' h6 => ?_)
  refine dlet_Z (P := ym) (ym_u h6 (by simp only [e0_2]) rfl) (fun Z7 Z7' h7 => ?_)
  refine dlet_Z (P := ym) (ym_u h7 (by simp only [e0_2]) rfl) (fun Z8 Z8' h8 => ?_)
  have e8_2 : ∀ a, Z8 2 0 0 a = Z8' 2 0 0 a := h8.1
  refine dlet_Z (P := ym) (ym_u h8 rfl (by simp only [e8_2])) (fun Z11 Z11' h11 => ?_)
  exact ⟨h11, (by simp only [e0_2])⟩
theorem dy_377 {Z Z' : qz_Z} {a1 a2 a1' a2' : Int} {dm dm' : qz_Z → Int → Int → Int → Int → Int → Int → Int → qz_Z} (hdm : zdm2 dm dm') (h0 : ym0 Z Z') (ia1 : a1 = a1') (ia2 : a2 = a2') : dMe (ym) (zy_377 Z dm a1 a2) (zy_377 Z' dm' a1' a2') := by
  subst ia1
  subst ia2
  unfold zy_377
  refine dite rfl (fun _ => ?_) (fun _ => ?_)
  · refine dlet_Z (P := ym) (ym_t h0 rfl) (fun Z5 Z5' h5 => ?_)
    exact ⟨h5, rfl⟩
  · refine dite rfl (fun _ => ?_) (fun _ => ?_)
    · refine dlet_Z (P := ym) (ym_t h0 rfl) (fun Z7 Z7' h7 => ?_)
      exact ⟨h7, rfl⟩
    · refine dite rfl (fun _ => ?_) (fun _ => ?_)
      · refine dlet_Z (P := ym) (ym_t h0 rfl) (fun Z9 Z9' h9 => ?_)
        exact ⟨h9, rfl⟩
      · refine dite rfl (fun _ => ?_) (fun _ => ?_)
        · refine dlet_Z (P := ym) (ym_t h0 rfl) (fun Z11 Z11' h11 => ?_)
          exact ⟨h11, rfl⟩
        · refine dlet_Z (P := ym) (ym_t h0 rfl) (fun Z12 Z12' h12 => ?_)
          have e12_2 : ∀ a, Z12 2 0 0 a = Z12' 2 0 0 a := h12.1
          refine dite (by simp only [e12_2]) (fun _ => ?_) (fun _ => ?_)
          · refine dlet_Z (P := ym) (ym_t h12.1 rfl) (fun Z15 Z15' h15 => ?_)
            exact ⟨h15, rfl⟩
          · refine dlet_Z (P := ym) (ym_t h12.1 rfl) (fun Z16 Z16' h16 => ?_)
            refine dlet_Z (P := ym) (hdm h16) (fun Z23 Z23' h23 => ?_)
            refine dlet2 (dq_359 h23 rfl rfl) (fun Z26 Z26' v27 h26 => ?_)
            exact ⟨h26, rfl⟩
theorem dl_361_1 : ∀ (m : Nat) {Z Z' : qz_Z} {x2 x3 x2' x3' : Int}, ym0 Z Z' → x2 = x2' → x3 = x3' → zl_361_1 m Z x2 x3 = zl_361_1 m Z' x2' x3'
  | 0, Z, Z', x2, x3, x2', x3', h0, ix2, ix3 => by
    subst ix2
    subst ix3
    unfold zl_361_1
    exact rfl
  | m + 1, Z, Z', x2, x3, x2', x3', h0, ix2, ix3 => by
    subst ix2
    subst ix3
    have e0_2 : ∀ a, Z 2 0 0 a = Z' 2 0 0 a := h0
    unfold zl_361_1
    refine dite rfl (fun _ => ?_) (fun _ => ?_)
    · exact rfl
    · refine dite rfl (fun _ => ?_) (fun _ => ?_)
      · exact dl_361_1 m h0 rfl rfl
      · refine dite rfl (fun _ => ?_) (fun _ => ?_)
        · exact dl_361_1 m h0 rfl rfl
        · refine dite rfl (fun _ => ?_) (fun _ => ?_)
          · exact dl_361_1 m h0 rfl rfl
          · refine dite (by simp only [e0_2]) (fun _ => ?_) (fun _ => ?_)
            · exact dl_361_1 m h0 rfl rfl
            · exact dl_361_1 m h0 rfl rfl
theorem dq_361 {Z Z' : qz_Z} {a1 a1' : Int} (h0 : ym0 Z Z') (ia1 : a1 = a1') : zf_361 Z a1 = zf_361 Z' a1' := by
  subst ia1
  unfold zf_361
  refine dite rfl (fun _ => ?_) (fun _ => ?_)
  · refine dlet2e (dl_361_1 _ h0 rfl rfl) (fun y2 y3 => ?_)
    exact rfl
  · refine dite rfl (fun _ => ?_) (fun _ => ?_)
    · refine dlet2e (dl_361_1 _ h0 rfl rfl) (fun y6 y7 => ?_)
      exact rfl
    · refine dlet2e (dl_361_1 _ h0 rfl rfl) (fun y9 y10 => ?_)
      exact rfl
theorem dl_374_1 : ∀ (m : Nat) {Z Z' : qz_Z} {x1 x2 x1' x2' : Int}, ym0 Z Z' → x1 = x1' → x2 = x2' → zl_374_1 m Z x1 x2 = zl_374_1 m Z' x1' x2'
  | 0, Z, Z', x1, x2, x1', x2', h0, ix1, ix2 => by
    subst ix1
    subst ix2
    unfold zl_374_1
    exact rfl
  | m + 1, Z, Z', x1, x2, x1', x2', h0, ix1, ix2 => by
    subst ix1
    subst ix2
    unfold zl_374_1
    refine dite rfl (fun _ => ?_) (fun _ => ?_)
    · exact rfl
    · exact dl_374_1 m h0 rfl rfl
theorem dq_374 {Z Z' : qz_Z} {a0 a0' : Int} (h0 : ym0 Z Z') (ia0 : a0 = a0') : zf_374 Z a0 = zf_374 Z' a0' := by
  subst ia0
  unfold zf_374
  refine dlet2e (dl_374_1 _ h0 rfl rfl) (fun y2 y3 => ?_)
  exact rfl
theorem dy_496 {Z Z' : qz_Z} {a1 a2 a3 a1' a2' a3' : Int} {dm dm' : qz_Z → Int → Int → Int → Int → Int → Int → Int → qz_Z} (hdm : zdm2 dm dm') (h0 : ym0 Z Z') (ia1 : a1 = a1') (ia2 : a2 = a2') (ia3 : a3 = a3') : dMe (ym) (zy_496 Z dm a1 a2 a3) (zy_496 Z' dm' a1' a2' a3') := by
  subst ia1
  subst ia2
  subst ia3
  have e0_2 : ∀ a, Z 2 0 0 a = Z' 2 0 0 a := h0
  unfold zy_496
  refine dite rfl (fun _ => ?_) (fun _ => ?_)
  · refine dlet_Z (P := ym) (ym_t h0 rfl) (fun Z5 Z5' h5 => ?_)
    exact ⟨h5, rfl⟩
  · refine dite (by simp only [e0_2]) (fun _ => ?_) (fun _ => ?_)
    · refine dlet_Z (P := ym) (ym_t h0 rfl) (fun Z8 Z8' h8 => ?_)
      exact ⟨h8, rfl⟩
    · refine dlet_Z (P := ym) (ym_t h0 rfl) (fun Z9 Z9' h9 => ?_)
      have p9_361 : ∀ u1 : Int, zf_361 Z9 u1 = zf_361 Z9' u1 := fun u1 => dq_361 h9.1 rfl
      refine dite rfl (fun _ => ?_) (fun _ => ?_)
      · refine dlet_Z (P := ym) (ym_t h9.1 rfl) (fun Z11 Z11' h11 => ?_)
        exact ⟨h11, rfl⟩
      · refine dite rfl (fun _ => ?_) (fun _ => ?_)
        · refine dlet_Z (P := ym) (ym_t h9.1 rfl) (fun Z13 Z13' h13 => ?_)
          exact ⟨h13, rfl⟩
        · refine dlet_i (by simp only [p9_361]) (fun v14 => ?_)
          refine dite rfl (fun _ => ?_) (fun _ => ?_)
          · refine dlet_Z (P := ym) (ym_t h9.1 rfl) (fun Z17 Z17' h17 => ?_)
            exact ⟨h17, rfl⟩
          · refine dlet_Z (P := ym) (ym_t h9.1 rfl) (fun Z18 Z18' h18 => ?_)
            refine dlet_Z (P := ym) (hdm h18) (fun Z25 Z25' h25 => ?_)
            refine dlet_Z (P := ym) (ym_u h25 rfl rfl) (fun Z26 Z26' h26 => ?_)
            refine dlet_Z (P := ym) (ym_u h26 rfl rfl) (fun Z27 Z27' h27 => ?_)
            have p27_374 : ∀ u1 : Int, zf_374 Z27 u1 = zf_374 Z27' u1 := fun u1 => dq_374 h27.1 rfl
            refine dlet_i (by simp only [p27_374]) (fun v28 => ?_)
            exact ⟨h27, rfl⟩
theorem dy_534 {Z Z' : qz_Z} {a1 a2 a1' a2' : Int} {dm dm' : qz_Z → Int → Int → Int → Int → Int → Int → Int → qz_Z} (hdm : zdm2 dm dm') (h0 : ym0 Z Z') (ia1 : a1 = a1') (ia2 : a2 = a2') : dMe (ym) (zy_534 Z dm a1 a2) (zy_534 Z' dm' a1' a2') := by
  subst ia1
  subst ia2
  unfold zy_534
  refine dite rfl (fun _ => ?_) (fun _ => ?_)
  · refine dlet_Z (P := ym) (ym_t h0 rfl) (fun Z5 Z5' h5 => ?_)
    exact ⟨h5, rfl⟩
  · refine dite rfl (fun _ => ?_) (fun _ => ?_)
    · refine dlet_Z (P := ym) (ym_t h0 rfl) (fun Z7 Z7' h7 => ?_)
      exact ⟨h7, rfl⟩
    · refine dite rfl (fun _ => ?_) (fun _ => ?_)
      · refine dlet_Z (P := ym) (ym_t h0 rfl) (fun Z9 Z9' h9 => ?_)
        exact ⟨h9, rfl⟩
      · refine dite rfl (fun _ => ?_) (fun _ => ?_)
        · refine dlet_Z (P := ym) (ym_t h0 rfl) (fun Z11 Z11' h11 => ?_)
          exact ⟨h11, rfl⟩
        · refine dlet_Z (P := ym) (ym_t h0 rfl) (fun Z12 Z12' h12 => ?_)
          refine dlet_Z (P := ym) (hdm h12) (fun Z19 Z19' h19 => ?_)
          have e19_2 : ∀ a, Z19 2 0 0 a = Z19' 2 0 0 a := h19.1
          refine dlet_Z (P := ym) (ym_u h19 rfl rfl) (fun Z20 Z20' h20 => ?_)
          exact ⟨h20, (by simp only [e19_2])⟩
theorem dl_410_1 : ∀ (m : Nat) {Z Z' : qz_Z} {x1 x2 x3 x1' x2' x3' : Int}, x1 = x1' → ym0 Z Z' → x2 = x2' → x3 = x3' → zl_410_1 x1 m Z x2 x3 = zl_410_1 x1' m Z' x2' x3'
  | 0, Z, Z', x1, x2, x3, x1', x2', x3', ix1, h0, ix2, ix3 => by
    subst ix1
    subst ix2
    subst ix3
    unfold zl_410_1
    exact rfl
  | m + 1, Z, Z', x1, x2, x3, x1', x2', x3', ix1, h0, ix2, ix3 => by
    subst ix1
    subst ix2
    subst ix3
    have e0_2 : ∀ a, Z 2 0 0 a = Z' 2 0 0 a := h0
    unfold zl_410_1
    refine dite (by simp only [e0_2]) (fun _ => ?_) (fun _ => ?_)
    · exact rfl
    · refine dite rfl (fun _ => ?_) (fun _ => ?_)
      · exact dl_410_1 m rfl h0 rfl rfl
      · refine dite (by simp only [e0_2]) (fun _ => ?_) (fun _ => ?_)
        · exact dl_410_1 m rfl h0 rfl rfl
        · exact dl_410_1 m rfl h0 rfl rfl
theorem dq_410 {Z Z' : qz_Z} {a1 a1' : Int} (h0 : ym0 Z Z') (ia1 : a1 = a1') : zf_410 Z a1 = zf_410 Z' a1' := by
  subst ia1
  have e0_2 : ∀ a, Z 2 0 0 a = Z' 2 0 0 a := h0
  unfold zf_410
  refine dite (by simp only [e0_2]) (fun _ => ?_) (fun _ => ?_)
  · refine dlet2e (dl_410_1 _ rfl h0 rfl rfl) (fun y5 y6 => ?_)
    exact rfl
  · refine dite (by simp only [e0_2]) (fun _ => ?_) (fun _ => ?_)
    · refine dlet2e (dl_410_1 _ rfl h0 rfl rfl) (fun y11 y12 => ?_)
      exact rfl
    · refine dite (by simp only [e0_2]) (fun _ => ?_) (fun _ => ?_)
      · refine dlet2e (dl_410_1 _ rfl h0 rfl rfl) (fun y15 y16 => ?_)
        exact rfl
      · refine dlet2e (dl_410_1 _ rfl h0 rfl rfl) (fun y18 y19 => ?_)
        exact rfl
theorem dy_457 {Z Z' : qz_Z} {a1 a2 a1' a2' : Int} {dm dm' : qz_Z → Int → Int → Int → Int → Int → Int → Int → qz_Z} (hdm : zdm2 dm dm') (h0 : ym0 Z Z') (ia1 : a1 = a1') (ia2 : a2 = a2') : dMe (ym) (zy_457 Z dm a1 a2) (zy_457 Z' dm' a1' a2') := by
  subst ia1
  subst ia2
  have e0_2 : ∀ a, Z 2 0 0 a = Z' 2 0 0 a := h0
  unfold zy_457
  refine dite rfl (fun _ => ?_) (fun _ => ?_)
  · refine dlet_Z (P := ym) (ym_t h0 rfl) (fun Z5 Z5' h5 => ?_)
    exact ⟨h5, rfl⟩
  · refine dite (by simp only [e0_2]) (fun _ => ?_) (fun _ => ?_)
    · refine dlet_Z (P := ym) (ym_t h0 rfl) (fun Z8 Z8' h8 => ?_)
      exact ⟨h8, rfl⟩
    · refine dlet_Z (P := ym) (ym_t h0 rfl) (fun Z9 Z9' h9 => ?_)
      refine dite rfl (fun _ => ?_) (fun _ => ?_)
      · refine dlet_Z (P := ym) (ym_t h9.1 rfl) (fun Z11 Z11' h11 => ?_)
        exact ⟨h11, rfl⟩
      · refine dite rfl (fun _ => ?_) (fun _ => ?_)
        · refine dlet_Z (P := ym) (ym_t h9.1 rfl) (fun Z13 Z13' h13 => ?_)
          exact ⟨h13, rfl⟩
        · refine dlet_Z (P := ym) (ym_t h9.1 rfl) (fun Z14 Z14' h14 => ?_)
          have p14_410 : ∀ u1 : Int, zf_410 Z14 u1 = zf_410 Z14' u1 := fun u1 => dq_410 h14.1 rfl
          refine dlet_i (by simp only [p14_410]) (fun v15 => ?_)
          refine dite rfl (fun _ => ?_) (fun _ => ?_)
          · refine dlet_Z (P := ym) (ym_t h14.1 rfl) (fun Z19 Z19' h19 => ?_)
            exact ⟨h19, rfl⟩
          · refine dlet_Z (P := ym) (ym_t h14.1 rfl) (fun Z20 Z20' h20 => ?_)
            refine dlet_Z (P := ym) (hdm h20) (fun Z27 Z27' h27 => ?_)
            have e27_2 : ∀ a, Z27 2 0 0 a = Z27' 2 0 0 a := h27.1
            refine dlet_Z (P := ym) (ym_u h27 (by simp only [e27_2]) rfl) (fun Z30 Z30' h30 => ?_)
            refine dlet_Z (P := ym) (ym_u h30 (by simp only [e27_2]) rfl) (fun Z33 Z33' h33 => ?_)
            have e33_2 : ∀ a, Z33 2 0 0 a = Z33' 2 0 0 a := h33.1
            refine dlet_Z (P := ym) (ym_u h33 (by simp only [e27_2]) (by simp only [e33_2])) (fun Z35 Z35' h35 => ?_)
            have e35_2 : ∀ a, Z35 2 0 0 a = Z35' 2 0 0 a := h35.1
            refine dlet_Z (P := ym) (ym_u h35 rfl (by simp only [e35_2])) (fun Z38 Z38' h38 => ?_)
            exact ⟨h38, (by simp only [e27_2])⟩
theorem dl_515_1 : ∀ (m : Nat) {Z Z' : qz_Z} {x1 x2 x3 x1' x2' x3' : Int}, x1 = x1' → x2 = x2' → ym Z Z' → x3 = x3' → dMe (ym) (zl_515_1 x1 x2 m Z x3) (zl_515_1 x1' x2' m Z' x3')
  | 0, Z, Z', x1, x2, x3, x1', x2', x3', ix1, ix2, h0, ix3 => by
    subst ix1
    subst ix2
    subst ix3
    unfold zl_515_1
    exact ⟨h0, rfl⟩
  | m + 1, Z, Z', x1, x2, x3, x1', x2', x3', ix1, ix2, h0, ix3 => by
    subst ix1
    subst ix2
    subst ix3
    have e0_2 : ∀ a, Z 2 0 0 a = Z' 2 0 0 a := h0.1
    unfold zl_515_1
    refine dite (by simp only [e0_2]) (fun _ => ?_) (fun _ => ?_)
    · exact ⟨h0, rfl⟩
    · refine dite (by simp only [e0_2]) (fun _ => ?_) (fun _ => ?_)
      · exact dl_515_1 m rfl rfl h0 rfl
      · refine dite (by simp only [e0_2]) (fun _ => ?_) (fun _ => ?_)
        · exact dl_515_1 m rfl rfl h0 rfl
        · refine dite (by simp only [e0_2]) (fun _ => ?_) (fun _ => ?_)
          · exact dl_515_1 m rfl rfl h0 rfl
          · refine dlet_Z (P := ym) (ym_u h0 rfl rfl) (fun Z11 Z11' h11 => ?_)
            refine dlet_Z (P := ym) (ym_u h11 rfl rfl) (fun Z12 Z12' h12 => ?_)
            have e12_2 : ∀ a, Z12 2 0 0 a = Z12' 2 0 0 a := h12.1
            refine dlet_Z (P := ym) (ym_u h12 rfl (by simp only [e12_2])) (fun Z17 Z17' h17 => ?_)
            exact dl_515_1 m rfl rfl h17 rfl
theorem dq_515 {Z Z' : qz_Z} {a1 a2 a1' a2' : Int} (h0 : ym Z Z') (ia1 : a1 = a1') (ia2 : a2 = a2') : ym (zf_515 Z a1 a2) (zf_515 Z' a1' a2') := by
  subst ia1
  subst ia2
  unfold zf_515
  refine dlet2 (dl_515_1 _ rfl rfl h0 rfl) (fun Z2 Z2' y1 h2 => ?_)
  exact h2
theorem dl_506_1 : ∀ (m : Nat) {Z Z' : qz_Z} {x1 x2 x1' x2' : Int}, x1 = x1' → ym Z Z' → x2 = x2' → dMe (ym) (zl_506_1 x1 m Z x2) (zl_506_1 x1' m Z' x2')
  | 0, Z, Z', x1, x2, x1', x2', ix1, h0, ix2 => by
    subst ix1
    subst ix2
    unfold zl_506_1
    exact ⟨h0, rfl⟩
  | m + 1, Z, Z', x1, x2, x1', x2', ix1, h0, ix2 => by
    subst ix1
    subst ix2
    have e0_2 : ∀ a, Z 2 0 0 a = Z' 2 0 0 a := h0.1
    unfold zl_506_1
    refine dite (by simp only [e0_2]) (fun _ => ?_) (fun _ => ?_)
    · exact ⟨h0, rfl⟩
    · refine dite (by simp only [e0_2]) (fun _ => ?_) (fun _ => ?_)
      · exact dl_506_1 m rfl h0 rfl
      · refine dlet_Z (P := ym) (dq_515 h0 rfl (by simp only [e0_2])) (fun Z7 Z7' h7 => ?_)
        exact dl_506_1 m rfl h7 rfl
theorem dq_506 {Z Z' : qz_Z} {a1 a1' : Int} (h0 : ym Z Z') (ia1 : a1 = a1') : ym (zf_506 Z a1) (zf_506 Z' a1') := by
  subst ia1
  unfold zf_506
  refine dlet2 (dl_506_1 _ rfl h0 rfl) (fun Z2 Z2' y1 h2 => ?_)
  have e2_2 : ∀ a, Z2 2 0 0 a = Z2' 2 0 0 a := h2.1
  refine dite (by simp only [e2_2]) (fun _ => ?_) (fun _ => ?_)
  · exact h2
  · refine dlet_Z (P := ym) (ym_u h2 rfl rfl) (fun Z7 Z7' h7 => ?_)
    have e7_2 : ∀ a, Z7 2 0 0 a = Z7' 2 0 0 a := h7.1
    refine dlet_Z (P := ym) (ym_u h7 rfl (by simp only [e7_2])) (fun Z11 Z11' h11 => ?_)
    have e11_2 : ∀ a, Z11 2 0 0 a = Z11' 2 0 0 a := h11.1
    refine dlet_Z (P := ym) (dq_403 h11 rfl rfl (by simp only [e11_2]) rfl) (fun Z16 Z16' h16 => ?_)
    exact h16
theorem dl_505_1 : ∀ (m : Nat) {Z Z' : qz_Z} {x1 x1' : Int}, ym Z Z' → x1 = x1' → dMe (ym) (zl_505_1 m Z x1) (zl_505_1 m Z' x1')
  | 0, Z, Z', x1, x1', h0, ix1 => by
    subst ix1
    unfold zl_505_1
    exact ⟨h0, rfl⟩
  | m + 1, Z, Z', x1, x1', h0, ix1 => by
    subst ix1
    have e0_2 : ∀ a, Z 2 0 0 a = Z' 2 0 0 a := h0.1
    unfold zl_505_1
    refine dite (by simp only [e0_2]) (fun _ => ?_) (fun _ => ?_)
    · exact ⟨h0, rfl⟩
    · refine dite (by simp only [e0_2]) (fun _ => ?_) (fun _ => ?_)
      · exact dl_505_1 m h0 rfl
      · refine dlet_Z (P := ym) (dq_506 h0 rfl) (fun Z5 Z5' h5 => ?_)
        exact dl_505_1 m h5 rfl
theorem dq_505 {Z Z' : qz_Z} (h0 : ym Z Z') : ym (zf_505 Z) (zf_505 Z') := by
  unfold zf_505
  refine dlet2 (dl_505_1 _ h0 rfl) (fun Z2 Z2' y1 h2 => ?_)
  exact h2
theorem dq_490 {Z Z' : qz_Z} {a1 a1' : Int} (h0 : ym Z Z') (ia1 : a1 = a1') : ym (zf_490 Z a1) (zf_490 Z' a1') := by
  subst ia1
  have e0_2 : ∀ a, Z 2 0 0 a = Z' 2 0 0 a := h0.1
  unfold zf_490
  refine dite (by simp only [e0_2]) (fun _ => ?_) (fun _ => ?_)
  · refine dite (by simp only [e0_2]) (fun _ => ?_) (fun _ => ?_)
    · refine dite (by simp only [e0_2]) (fun _ => ?_) (fun _ => ?_)
      · refine dite (by simp only [e0_2]) (fun _ => ?_) (fun _ => ?_)
        · refine dlet_Z (P := ym) (ym_u h0 rfl (by simp only [e0_2])) (fun Z12 Z12' h12 => ?_)
          have e12_2 : ∀ a, Z12 2 0 0 a = Z12' 2 0 0 a := h12.1
          refine dite (by simp only [e0_2]) (fun _ => ?_) (fun _ => ?_)
          · refine dlet_Z (P := ym) (ym_u h12 rfl (by simp only [e12_2])) (fun Z15 Z15' h15 => ?_)
            have e15_2 : ∀ a, Z15 2 0 0 a = Z15' 2 0 0 a := h15.1
            refine dite (by simp only [e0_2]) (fun _ => ?_) (fun _ => ?_)
            · refine dlet_Z (P := ym) (ym_u h15 rfl (by simp only [e15_2])) (fun Z18 Z18' h18 => ?_)
              refine dlet_Z (P := ym) (ym_u h18 rfl rfl) (fun Z19 Z19' h19 => ?_)
              exact h19
            · refine dlet_Z (P := ym) (ym_u h15 rfl (by simp only [e15_2])) (fun Z22 Z22' h22 => ?_)
              refine dlet_Z (P := ym) (ym_u h22 rfl rfl) (fun Z23 Z23' h23 => ?_)
              exact h23
          · refine dlet_Z (P := ym) (ym_u h12 rfl (by simp only [e12_2])) (fun Z26 Z26' h26 => ?_)
            have e26_2 : ∀ a, Z26 2 0 0 a = Z26' 2 0 0 a := h26.1
            refine dite (by simp only [e0_2]) (fun _ => ?_) (fun _ => ?_)
            · refine dlet_Z (P := ym) (ym_u h26 rfl (by simp only [e26_2])) (fun Z29 Z29' h29 => ?_)
              refine dlet_Z (P := ym) (ym_u h29 rfl rfl) (fun Z30 Z30' h30 => ?_)
              exact h30
            · refine dlet_Z (P := ym) (ym_u h26 rfl (by simp only [e26_2])) (fun Z33 Z33' h33 => ?_)
              refine dlet_Z (P := ym) (ym_u h33 rfl rfl) (fun Z34 Z34' h34 => ?_)
              exact h34
        · refine dlet_Z (P := ym) (ym_u h0 rfl (by simp only [e0_2])) (fun Z35 Z35' h35 => ?_)
          have e35_2 : ∀ a, Z35 2 0 0 a = Z35' 2 0 0 a := h35.1
          refine dite (by simp only [e0_2]) (fun _ => ?_) (fun _ => ?_)
          · refine dlet_Z (P := ym) (ym_u h35 rfl (by simp only [e35_2])) (fun Z38 Z38' h38 => ?_)
            have e38_2 : ∀ a, Z38 2 0 0 a = Z38' 2 0 0 a := h38.1
            refine dlet_Z (P := ym) (ym_u h38 rfl (by simp only [e38_2])) (fun Z40 Z40' h40 => ?_)
            refine dlet_Z (P := ym) (ym_u h40 rfl rfl) (fun Z41 Z41' h41 => ?_)
            exact h41
          · refine dlet_Z (P := ym) (ym_u h35 rfl (by simp only [e35_2])) (fun Z44 Z44' h44 => ?_)
            have e44_2 : ∀ a, Z44 2 0 0 a = Z44' 2 0 0 a := h44.1
            refine dlet_Z (P := ym) (ym_u h44 rfl (by simp only [e44_2])) (fun Z47 Z47' h47 => ?_)
            refine dlet_Z (P := ym) (ym_u h47 rfl rfl) (fun Z48 Z48' h48 => ?_)
            exact h48
      · refine dite (by simp only [e0_2]) (fun _ => ?_) (fun _ => ?_)
        · refine dlet_Z (P := ym) (ym_u h0 rfl (by simp only [e0_2])) (fun Z51 Z51' h51 => ?_)
          have e51_2 : ∀ a, Z51 2 0 0 a = Z51' 2 0 0 a := h51.1
          refine dite (by simp only [e0_2]) (fun _ => ?_) (fun _ => ?_)
          · refine dlet_Z (P := ym) (ym_u h51 rfl (by simp only [e51_2])) (fun Z54 Z54' h54 => ?_)
            have e54_2 : ∀ a, Z54 2 0 0 a = Z54' 2 0 0 a := h54.1
            refine dite (by simp only [e0_2]) (fun _ => ?_) (fun _ => ?_)
            · refine dlet_Z (P := ym) (ym_u h54 rfl (by simp only [e54_2])) (fun Z57 Z57' h57 => ?_)
              refine dlet_Z (P := ym) (ym_u h57 rfl rfl) (fun Z58 Z58' h58 => ?_)
              exact h58
            · refine dlet_Z (P := ym) (ym_u h54 rfl (by simp only [e54_2])) (fun Z61 Z61' h61 => ?_)
              refine dlet_Z (P := ym) (ym_u h61 rfl rfl) (fun Z62 Z62' h62 => ?_)
              exact h62
          · refine dlet_Z (P := ym) (ym_u h51 rfl (by simp only [e51_2])) (fun Z65 Z65' h65 => ?_)
            have e65_2 : ∀ a, Z65 2 0 0 a = Z65' 2 0 0 a := h65.1
            refine dite (by simp only [e0_2]) (fun _ => ?_) (fun _ => ?_)
            · refine dlet_Z (P := ym) (ym_u h65 rfl (by simp only [e65_2])) (fun Z68 Z68' h68 => ?_)
              refine dlet_Z (P := ym) (ym_u h68 rfl rfl) (fun Z69 Z69' h69 => ?_)
              exact h69
            · refine dlet_Z (P := ym) (ym_u h65 rfl (by simp only [e65_2])) (fun Z72 Z72' h72 => ?_)
              refine dlet_Z (P := ym) (ym_u h72 rfl rfl) (fun Z73 Z73' h73 => ?_)
              exact h73
        · refine dlet_Z (P := ym) (ym_u h0 rfl (by simp only [e0_2])) (fun Z74 Z74' h74 => ?_)
          have e74_2 : ∀ a, Z74 2 0 0 a = Z74' 2 0 0 a := h74.1
          refine dite (by simp only [e0_2]) (fun _ => ?_) (fun _ => ?_)
          · refine dlet_Z (P := ym) (ym_u h74 rfl (by simp only [e74_2])) (fun Z77 Z77' h77 => ?_)
            have e77_2 : ∀ a, Z77 2 0 0 a = Z77' 2 0 0 a := h77.1
            refine dlet_Z (P := ym) (ym_u h77 rfl (by simp only [e77_2])) (fun Z79 Z79' h79 => ?_)
            refine dlet_Z (P := ym) (ym_u h79 rfl rfl) (fun Z80 Z80' h80 => ?_)
            exact h80
          · refine dlet_Z (P := ym) (ym_u h74 rfl (by simp only [e74_2])) (fun Z83 Z83' h83 => ?_)
            have e83_2 : ∀ a, Z83 2 0 0 a = Z83' 2 0 0 a := h83.1
            refine dlet_Z (P := ym) (ym_u h83 rfl (by simp only [e83_2])) (fun Z86 Z86' h86 => ?_)
            refine dlet_Z (P := ym) (ym_u h86 rfl rfl) (fun Z87 Z87' h87 => ?_)
            exact h87
    · refine dite (by simp only [e0_2]) (fun _ => ?_) (fun _ => ?_)
      · refine dite (by simp only [e0_2]) (fun _ => ?_) (fun _ => ?_)
        · refine dlet_Z (P := ym) (ym_u h0 rfl (by simp only [e0_2])) (fun Z92 Z92' h92 => ?_)
          have e92_2 : ∀ a, Z92 2 0 0 a = Z92' 2 0 0 a := h92.1
          refine dite (by simp only [e0_2]) (fun _ => ?_) (fun _ => ?_)
          · refine dlet_Z (P := ym) (ym_u h92 rfl (by simp only [e92_2])) (fun Z95 Z95' h95 => ?_)
            have e95_2 : ∀ a, Z95 2 0 0 a = Z95' 2 0 0 a := h95.1
            refine dite (by simp only [e0_2]) (fun _ => ?_) (fun _ => ?_)
            · refine dlet_Z (P := ym) (ym_u h95 rfl (by simp only [e95_2])) (fun Z98 Z98' h98 => ?_)
              refine dlet_Z (P := ym) (ym_u h98 rfl rfl) (fun Z99 Z99' h99 => ?_)
              exact h99
            · refine dlet_Z (P := ym) (ym_u h95 rfl (by simp only [e95_2])) (fun Z102 Z102' h102 => ?_)
              refine dlet_Z (P := ym) (ym_u h102 rfl rfl) (fun Z103 Z103' h103 => ?_)
              exact h103
          · refine dlet_Z (P := ym) (ym_u h92 rfl (by simp only [e92_2])) (fun Z106 Z106' h106 => ?_)
            have e106_2 : ∀ a, Z106 2 0 0 a = Z106' 2 0 0 a := h106.1
            refine dite (by simp only [e0_2]) (fun _ => ?_) (fun _ => ?_)
            · refine dlet_Z (P := ym) (ym_u h106 rfl (by simp only [e106_2])) (fun Z109 Z109' h109 => ?_)
              refine dlet_Z (P := ym) (ym_u h109 rfl rfl) (fun Z110 Z110' h110 => ?_)
              exact h110
            · refine dlet_Z (P := ym) (ym_u h106 rfl (by simp only [e106_2])) (fun Z113 Z113' h113 => ?_)
              refine dlet_Z (P := ym) (ym_u h113 rfl rfl) (fun Z114 Z114' h114 => ?_)
              exact h114
        · refine dlet_Z (P := ym) (ym_u h0 rfl (by simp only [e0_2])) (fun Z115 Z115' h115 => ?_)
          have e115_2 : ∀ a, Z115 2 0 0 a = Z115' 2 0 0 a := h115.1
          refine dite (by simp only [e0_2]) (fun _ => ?_) (fun _ => ?_)
          · refine dlet_Z (P := ym) (ym_u h115 rfl (by simp only [e115_2])) (fun Z118 Z118' h118 => ?_)
            have e118_2 : ∀ a, Z118 2 0 0 a = Z118' 2 0 0 a := h118.1
            refine dlet_Z (P := ym) (ym_u h118 rfl (by simp only [e118_2])) (fun Z120 Z120' h120 => ?_)
            refine dlet_Z (P := ym) (ym_u h120 rfl rfl) (fun Z121 Z121' h121 => ?_)
            exact h121
          · refine dlet_Z (P := ym) (ym_u h115 rfl (by simp only [e115_2])) (fun Z124 Z124' h124 => ?_)
            have e124_2 : ∀ a, Z124 2 0 0 a = Z124' 2 0 0 a := h124.1
            refine dlet_Z (P := ym) (ym_u h124 rfl (by simp only [e124_2])) (fun Z127 Z127' h127 => ?_)
            refine dlet_Z (P := ym) (ym_u h127 rfl rfl) (fun Z128 Z128' h128 => ?_)
            exact h128
      · refine dite (by simp only [e0_2]) (fun _ => ?_) (fun _ => ?_)
        · refine dlet_Z (P := ym) (ym_u h0 rfl (by simp only [e0_2])) (fun Z131 Z131' h131 => ?_)
          have e131_2 : ∀ a, Z131 2 0 0 a = Z131' 2 0 0 a := h131.1
          refine dite (by simp only [e0_2]) (fun _ => ?_) (fun _ => ?_)
          · refine dlet_Z (P := ym) (ym_u h131 rfl (by simp only [e131_2])) (fun Z134 Z134' h134 => ?_)
            have e134_2 : ∀ a, Z134 2 0 0 a = Z134' 2 0 0 a := h134.1
            refine dite (by simp only [e0_2]) (fun _ => ?_) (fun _ => ?_)
            · refine dlet_Z (P := ym) (ym_u h134 rfl (by simp only [e134_2])) (fun Z137 Z137' h137 => ?_)
              refine dlet_Z (P := ym) (ym_u h137 rfl rfl) (fun Z138 Z138' h138 => ?_)
              exact h138
            · refine dlet_Z (P := ym) (ym_u h134 rfl (by simp only [e134_2])) (fun Z141 Z141' h141 => ?_)
              refine dlet_Z (P := ym) (ym_u h141 rfl rfl) (fun Z142 Z142' h142 => ?_)
              exact h142
          · refine dlet_Z (P := ym) (ym_u h131 rfl (by simp only [e131_2])) (fun Z145 Z145' h145 => ?_)
            have e145_2 : ∀ a, Z145 2 0 0 a = Z145' 2 0 0 a := h145.1
            refine dite (by simp only [e0_2]) (fun _ => ?_) (fun _ => ?_)
            · refine dlet_Z (P := ym) (ym_u h145 rfl (by simp only [e145_2])) (fun Z148 Z148' h148 => ?_)
              refine dlet_Z (P := ym) (ym_u h148 rfl rfl) (fun Z149 Z149' h149 => ?_)
              exact h149
            · refine dlet_Z (P := ym) (ym_u h145 rfl (by simp only [e145_2])) (fun Z152 Z152' h152 => ?_)
              refine dlet_Z (P := ym) (ym_u h152 rfl rfl) (fun Z153 Z153' h153 => ?_)
              exact h153
        · refine dlet_Z (P := ym) (ym_u h0 rfl (by simp only [e0_2])) (fun Z154 Z154' h154 => ?_)
          have e154_2 : ∀ a, Z154 2 0 0 a = Z154' 2 0 0 a := h154.1
          refine dite (by simp only [e0_2]) (fun _ => ?_) (fun _ => ?_)
          · refine dlet_Z (P := ym) (ym_u h154 rfl (by simp only [e154_2])) (fun Z157 Z157' h157 => ?_)
            have e157_2 : ∀ a, Z157 2 0 0 a = Z157' 2 0 0 a := h157.1
            refine dlet_Z (P := ym) (ym_u h157 rfl (by simp only [e157_2])) (fun Z159 Z159' h159 => ?_)
            refine dlet_Z (P := ym) (ym_u h159 rfl rfl) (fun Z160 Z160' h160 => ?_)
            exact h160
          · refine dlet_Z (P := ym) (ym_u h154 rfl (by simp only [e154_2])) (fun Z163 Z163' h163 => ?_)
            have e163_2 : ∀ a, Z163 2 0 0 a = Z163' 2 0 0 a := h163.1
            refine dlet_Z (P := ym) (ym_u h163 rfl (by simp only [e163_2])) (fun Z166 Z166' h166 => ?_)
            refine dlet_Z (P := ym) (ym_u h166 rfl rfl) (fun Z167 Z167' h167 => ?_)
            exact h167
  · refine dite (by simp only [e0_2]) (fun _ => ?_) (fun _ => ?_)
    · refine dite (by simp only [e0_2]) (fun _ => ?_) (fun _ => ?_)
      · refine dite (by simp only [e0_2]) (fun _ => ?_) (fun _ => ?_)
        · refine dlet_Z (P := ym) (ym_u h0 rfl (by simp only [e0_2])) (fun Z175 Z175' h175 => ?_)
          have e175_2 : ∀ a, Z175 2 0 0 a = Z175' 2 0 0 a := h175.1
          refine dite (by simp only [e0_2]) (fun _ => ?_) (fun _ => ?_)
          · refine dlet_Z (P := ym) (ym_u h175 rfl (by simp only [e175_2])) (fun Z178 Z178' h178 => ?_)
            have e178_2 : ∀ a, Z178 2 0 0 a = Z178' 2 0 0 a := h178.1
            refine dite (by simp only [e0_2]) (fun _ => ?_) (fun _ => ?_)
            · refine dlet_Z (P := ym) (ym_u h178 rfl (by simp only [e178_2])) (fun Z181 Z181' h181 => ?_)
              refine dlet_Z (P := ym) (ym_u h181 rfl rfl) (fun Z182 Z182' h182 => ?_)
              exact h182
            · refine dlet_Z (P := ym) (ym_u h178 rfl (by simp only [e178_2])) (fun Z185 Z185' h185 => ?_)
              refine dlet_Z (P := ym) (ym_u h185 rfl rfl) (fun Z186 Z186' h186 => ?_)
              exact h186
          · refine dlet_Z (P := ym) (ym_u h175 rfl (by simp only [e175_2])) (fun Z189 Z189' h189 => ?_)
            have e189_2 : ∀ a, Z189 2 0 0 a = Z189' 2 0 0 a := h189.1
            refine dite (by simp only [e0_2]) (fun _ => ?_) (fun _ => ?_)
            · refine dlet_Z (P := ym) (ym_u h189 rfl (by simp only [e189_2])) (fun Z192 Z192' h192 => ?_)
              refine dlet_Z (P := ym) (ym_u h192 rfl rfl) (fun Z193 Z193' h193 => ?_)
              exact h193
            · refine dlet_Z (P := ym) (ym_u h189 rfl (by simp only [e189_2])) (fun Z196 Z196' h196 => ?_)
              refine dlet_Z (P := ym) (ym_u h196 rfl rfl) (fun Z197 Z197' h197 => ?_)
              exact h197
        · refine dlet_Z (P := ym) (ym_u h0 rfl (by simp only [e0_2])) (fun Z198 Z198' h198 => ?_)
          have e198_2 : ∀ a, Z198 2 0 0 a = Z198' 2 0 0 a := h198.1
          refine dite (by simp only [e0_2]) (fun _ => ?_) (fun _ => ?_)
          · refine dlet_Z (P := ym) (ym_u h198 rfl (by simp only [e198_2])) (fun Z201 Z201' h201 => ?_)
            have e201_2 : ∀ a, Z201 2 0 0 a = Z201' 2 0 0 a := h201.1
            refine dlet_Z (P := ym) (ym_u h201 rfl (by simp only [e201_2])) (fun Z203 Z203' h203 => ?_)
            refine dlet_Z (P := ym) (ym_u h203 rfl rfl) (fun Z204 Z204' h204 => ?_)
            exact h204
          · refine dlet_Z (P := ym) (ym_u h198 rfl (by simp only [e198_2])) (fun Z207 Z207' h207 => ?_)
            have e207_2 : ∀ a, Z207 2 0 0 a = Z207' 2 0 0 a := h207.1
            refine dlet_Z (P := ym) (ym_u h207 rfl (by simp only [e207_2])) (fun Z210 Z210' h210 => ?_)
            refine dlet_Z (P := ym) (ym_u h210 rfl rfl) (fun Z211 Z211' h211 => ?_)
            exact h211
      · refine dite (by simp only [e0_2]) (fun _ => ?_) (fun _ => ?_)
        · refine dlet_Z (P := ym) (ym_u h0 rfl (by simp only [e0_2])) (fun Z214 Z214' h214 => ?_)
          have e214_2 : ∀ a, Z214 2 0 0 a = Z214' 2 0 0 a := h214.1
          refine dite (by simp only [e0_2]) (fun _ => ?_) (fun _ => ?_)
          · refine dlet_Z (P := ym) (ym_u h214 rfl (by simp only [e214_2])) (fun Z217 Z217' h217 => ?_)
            have e217_2 : ∀ a, Z217 2 0 0 a = Z217' 2 0 0 a := h217.1
            refine dite (by simp only [e0_2]) (fun _ => ?_) (fun _ => ?_)
            · refine dlet_Z (P := ym) (ym_u h217 rfl (by simp only [e217_2])) (fun Z220 Z220' h220 => ?_)
              refine dlet_Z (P := ym) (ym_u h220 rfl rfl) (fun Z221 Z221' h221 => ?_)
              exact h221
            · refine dlet_Z (P := ym) (ym_u h217 rfl (by simp only [e217_2])) (fun Z224 Z224' h224 => ?_)
              refine dlet_Z (P := ym) (ym_u h224 rfl rfl) (fun Z225 Z225' h225 => ?_)
              exact h225
          · refine dlet_Z (P := ym) (ym_u h214 rfl (by simp only [e214_2])) (fun Z228 Z228' h228 => ?_)
            have e228_2 : ∀ a, Z228 2 0 0 a = Z228' 2 0 0 a := h228.1
            refine dite (by simp only [e0_2]) (fun _ => ?_) (fun _ => ?_)
            · refine dlet_Z (P := ym) (ym_u h228 rfl (by simp only [e228_2])) (fun Z231 Z231' h231 => ?_)
              refine dlet_Z (P := ym) (ym_u h231 rfl rfl) (fun Z232 Z232' h232 => ?_)
              exact h232
            · refine dlet_Z (P := ym) (ym_u h228 rfl (by simp only [e228_2])) (fun Z235 Z235' h235 => ?_)
              refine dlet_Z (P := ym) (ym_u h235 rfl rfl) (fun Z236 Z236' h236 => ?_)
              exact h236
        · refine dlet_Z (P := ym) (ym_u h0 rfl (by simp only [e0_2])) (fun Z237 Z237' h237 => ?_)
          have e237_2 : ∀ a, Z237 2 0 0 a = Z237' 2 0 0 a := h237.1
          refine dite (by simp only [e0_2]) (fun _ => ?_) (fun _ => ?_)
          · refine dlet_Z (P := ym) (ym_u h237 rfl (by simp only [e237_2])) (fun Z240 Z240' h240 => ?_)
            have e240_2 : ∀ a, Z240 2 0 0 a = Z240' 2 0 0 a := h240.1
            refine dlet_Z (P := ym) (ym_u h240 rfl (by simp only [e240_2])) (fun Z242 Z242' h242 => ?_)
            refine dlet_Z (P := ym) (ym_u h242 rfl rfl) (fun Z243 Z243' h243 => ?_)
            exact h243
          · refine dlet_Z (P := ym) (ym_u h237 rfl (by simp only [e237_2])) (fun Z246 Z246' h246 => ?_)
            have e246_2 : ∀ a, Z246 2 0 0 a = Z246' 2 0 0 a := h246.1
            refine dlet_Z (P := ym) (ym_u h246 rfl (by simp only [e246_2])) (fun Z249 Z249' h249 => ?_)
            refine dlet_Z (P := ym) (ym_u h249 rfl rfl) (fun Z250 Z250' h250 => ?_)
            exact h250
    · refine dite (by simp only [e0_2]) (fun _ => ?_) (fun _ => ?_)
      · refine dite (by simp only [e0_2]) (fun _ => ?_) (fun _ => ?_)
        · refine dlet_Z (P := ym) (ym_u h0 rfl (by simp only [e0_2])) (fun Z255 Z255' h255 => ?_)
          have e255_2 : ∀ a, Z255 2 0 0 a = Z255' 2 0 0 a := h255.1
          refine dite (by simp only [e0_2]) (fun _ => ?_) (fun _ => ?_)
          · refine dlet_Z (P := ym) (ym_u h255 rfl (by simp only [e255_2])) (fun Z258 Z258' h258 => ?_)
            have e258_2 : ∀ a, Z258 2 0 0 a = Z258' 2 0 0 a := h258.1
            refine dite (by simp only [e0_2]) (fun _ => ?_) (fun _ => ?_)
            · refine dlet_Z (P := ym) (ym_u h258 rfl (by simp only [e258_2])) (fun Z261 Z261' h261 => ?_)
              refine dlet_Z (P := ym) (ym_u h261 rfl rfl) (fun Z262 Z262' h262 => ?_)
              exact h262
            · refine dlet_Z (P := ym) (ym_u h258 rfl (by simp only [e258_2])) (fun Z265 Z265' h265 => ?_)
              refine dlet_Z (P := ym) (ym_u h265 rfl rfl) (fun Z266 Z266' h266 => ?_)
              exact h266
          · refine dlet_Z (P := ym) (ym_u h255 rfl (by simp only [e255_2])) (fun Z269 Z269' h269 => ?_)
            have e269_2 : ∀ a, Z269 2 0 0 a = Z269' 2 0 0 a := h269.1
            refine dite (by simp only [e0_2]) (fun _ => ?_) (fun _ => ?_)
            · refine dlet_Z (P := ym) (ym_u h269 rfl (by simp only [e269_2])) (fun Z272 Z272' h272 => ?_)
              refine dlet_Z (P := ym) (ym_u h272 rfl rfl) (fun Z273 Z273' h273 => ?_)
              exact h273
            · refine dlet_Z (P := ym) (ym_u h269 rfl (by simp only [e269_2])) (fun Z276 Z276' h276 => ?_)
              refine dlet_Z (P := ym) (ym_u h276 rfl rfl) (fun Z277 Z277' h277 => ?_)
              exact h277
        · refine dlet_Z (P := ym) (ym_u h0 rfl (by simp only [e0_2])) (fun Z278 Z278' h278 => ?_)
          have e278_2 : ∀ a, Z278 2 0 0 a = Z278' 2 0 0 a := h278.1
          refine dite (by simp only [e0_2]) (fun _ => ?_) (fun _ => ?_)
          · refine dlet_Z (P := ym) (ym_u h278 rfl (by simp only [e278_2])) (fun Z281 Z281' h281 => ?_)
            have e281_2 : ∀ a, Z281 2 0 0 a = Z281' 2 0 0 a := h281.1
            refine dlet_Z (P := ym) (ym_u h281 rfl (by simp only [e281_2])) (fun Z283 Z283' h283 => ?_)
            refine dlet_Z (P := ym) (ym_u h283 rfl rfl) (fun Z284 Z284' h284 => ?_)
            exact h284
          · refine dlet_Z (P := ym) (ym_u h278 rfl (by simp only [e278_2])) (fun Z287 Z287' h287 => ?_)
            have e287_2 : ∀ a, Z287 2 0 0 a = Z287' 2 0 0 a := h287.1
            refine dlet_Z (P := ym) (ym_u h287 rfl (by simp only [e287_2])) (fun Z290 Z290' h290 => ?_)
            refine dlet_Z (P := ym) (ym_u h290 rfl rfl) (fun Z291 Z291' h291 => ?_)
            exact h291
      · refine dite (by simp only [e0_2]) (fun _ => ?_) (fun _ => ?_)
        · refine dlet_Z (P := ym) (ym_u h0 rfl (by simp only [e0_2])) (fun Z294 Z294' h294 => ?_)
          have e294_2 : ∀ a, Z294 2 0 0 a = Z294' 2 0 0 a := h294.1
          refine dite (by simp only [e0_2]) (fun _ => ?_) (fun _ => ?_)
          · refine dlet_Z (P := ym) (ym_u h294 rfl (by simp only [e294_2])) (fun Z297 Z297' h297 => ?_)
            have e297_2 : ∀ a, Z297 2 0 0 a = Z297' 2 0 0 a := h297.1
            refine dite (by simp only [e0_2]) (fun _ => ?_) (fun _ => ?_)
            · refine dlet_Z (P := ym) (ym_u h297 rfl (by simp only [e297_2])) (fun Z300 Z300' h300 => ?_)
              refine dlet_Z (P := ym) (ym_u h300 rfl rfl) (fun Z301 Z301' h301 => ?_)
              exact h301
            · refine dlet_Z (P := ym) (ym_u h297 rfl (by simp only [e297_2])) (fun Z304 Z304' h304 => ?_)
              refine dlet_Z (P := ym) (ym_u h304 rfl rfl) (fun Z305 Z305' h305 => ?_)
              exact h305
          · refine dlet_Z (P := ym) (ym_u h294 rfl (by simp only [e294_2])) (fun Z308 Z308' h308 => ?_)
            have e308_2 : ∀ a, Z308 2 0 0 a = Z308' 2 0 0 a := h308.1
            refine dite (by simp only [e0_2]) (fun _ => ?_) (fun _ => ?_)
            · refine dlet_Z (P := ym) (ym_u h308 rfl (by simp only [e308_2])) (fun Z311 Z311' h311 => ?_)
              refine dlet_Z (P := ym) (ym_u h311 rfl rfl) (fun Z312 Z312' h312 => ?_)
              exact h312
            · refine dlet_Z (P := ym) (ym_u h308 rfl (by simp only [e308_2])) (fun Z315 Z315' h315 => ?_)
              refine dlet_Z (P := ym) (ym_u h315 rfl rfl) (fun Z316 Z316' h316 => ?_)
              exact h316
        · refine dlet_Z (P := ym) (ym_u h0 rfl (by simp only [e0_2])) (fun Z317 Z317' h317 => ?_)
          have e317_2 : ∀ a, Z317 2 0 0 a = Z317' 2 0 0 a := h317.1
          refine dite (by simp only [e0_2]) (fun _ => ?_) (fun _ => ?_)
          · refine dlet_Z (P := ym) (ym_u h317 rfl (by simp only [e317_2])) (fun Z320 Z320' h320 => ?_)
            have e320_2 : ∀ a, Z320 2 0 0 a = Z320' 2 0 0 a := h320.1
            refine dlet_Z (P := ym) (ym_u h320 rfl (by simp only [e320_2])) (fun Z322 Z322' h322 => ?_)
            refine dlet_Z (P := ym) (ym_u h322 rfl rfl) (fun Z323 Z323' h323 => ?_)
            exact h323
          · refine dlet_Z (P := ym) (ym_u h317 rfl (by simp only [e317_2])) (fun Z326 Z326' h326 => ?_)
            have e326_2 : ∀ a, Z326 2 0 0 a = Z326' 2 0 0 a := h326.1
            refine dlet_Z (P := ym) (ym_u h326 rfl (by simp only [e326_2])) (fun Z329 Z329' h329 => ?_)
            refine dlet_Z (P := ym) (ym_u h329 rfl rfl) (fun Z330 Z330' h330 => ?_)
            exact h330
theorem dl_471_1 : ∀ (m : Nat) {Z Z' : qz_Z} {x1 x1' : Int}, ym Z Z' → x1 = x1' → dMe (ym) (zl_471_1 m Z x1) (zl_471_1 m Z' x1')
  | 0, Z, Z', x1, x1', h0, ix1 => by
    subst ix1
    unfold zl_471_1
    exact ⟨h0, rfl⟩
  | m + 1, Z, Z', x1, x1', h0, ix1 => by
    subst ix1
    have e0_2 : ∀ a, Z 2 0 0 a = Z' 2 0 0 a := h0.1
    unfold zl_471_1
    refine dite (by simp only [e0_2]) (fun _ => ?_) (fun _ => ?_)
    · exact ⟨h0, rfl⟩
    · refine dlet_Z (P := ym) (dq_490 h0 rfl) (fun Z3 Z3' h3 => ?_)
      exact dl_471_1 m h3 rfl
theorem dq_481 {Z Z' : qz_Z} {a1 a1' : Int} (h0 : ym Z Z') (ia1 : a1 = a1') : ym (zf_481 Z a1) (zf_481 Z' a1') := by
  subst ia1
  have e0_2 : ∀ a, Z 2 0 0 a = Z' 2 0 0 a := h0.1
  unfold zf_481
  refine dite (by simp only [e0_2]) (fun _ => ?_) (fun _ => ?_)
  · refine dite (by simp only [e0_2]) (fun _ => ?_) (fun _ => ?_)
    · refine dite (by simp only [e0_2]) (fun _ => ?_) (fun _ => ?_)
      · refine dlet_Z (P := ym) (ym_u h0 rfl rfl) (fun Z12 Z12' h12 => ?_)
        have e12_2 : ∀ a, Z12 2 0 0 a = Z12' 2 0 0 a := h12.1
        refine dite (by simp only [e0_2, e12_2]) (fun _ => ?_) (fun _ => ?_)
        · refine dlet_Z (P := ym) (ym_u h12 rfl (by simp only [e12_2])) (fun Z16 Z16' h16 => ?_)
          exact h16
        · refine dite (by simp only [e12_2]) (fun _ => ?_) (fun _ => ?_)
          · refine dlet_Z (P := ym) (ym_u h12 rfl (by simp only [e12_2])) (fun Z19 Z19' h19 => ?_)
            exact h19
          · refine dlet_Z (P := ym) (ym_u h12 rfl (by simp only [e12_2])) (fun Z20 Z20' h20 => ?_)
            exact h20
      · refine dlet_Z (P := ym) (ym_u h0 rfl (by simp only [e0_2])) (fun Z21 Z21' h21 => ?_)
        have e21_2 : ∀ a, Z21 2 0 0 a = Z21' 2 0 0 a := h21.1
        refine dite (by simp only [e0_2, e21_2]) (fun _ => ?_) (fun _ => ?_)
        · refine dlet_Z (P := ym) (ym_u h21 rfl (by simp only [e21_2])) (fun Z25 Z25' h25 => ?_)
          exact h25
        · refine dite (by simp only [e21_2]) (fun _ => ?_) (fun _ => ?_)
          · refine dlet_Z (P := ym) (ym_u h21 rfl (by simp only [e21_2])) (fun Z28 Z28' h28 => ?_)
            exact h28
          · refine dlet_Z (P := ym) (ym_u h21 rfl (by simp only [e21_2])) (fun Z29 Z29' h29 => ?_)
            exact h29
    · refine dite (by simp only [e0_2]) (fun _ => ?_) (fun _ => ?_)
      · refine dlet_Z (P := ym) (ym_u h0 rfl rfl) (fun Z36 Z36' h36 => ?_)
        have e36_2 : ∀ a, Z36 2 0 0 a = Z36' 2 0 0 a := h36.1
        refine dite (by simp only [e0_2, e36_2]) (fun _ => ?_) (fun _ => ?_)
        · refine dlet_Z (P := ym) (ym_u h36 rfl (by simp only [e36_2])) (fun Z40 Z40' h40 => ?_)
          exact h40
        · refine dite (by simp only [e36_2]) (fun _ => ?_) (fun _ => ?_)
          · refine dlet_Z (P := ym) (ym_u h36 rfl (by simp only [e36_2])) (fun Z43 Z43' h43 => ?_)
            exact h43
          · refine dlet_Z (P := ym) (ym_u h36 rfl (by simp only [e36_2])) (fun Z44 Z44' h44 => ?_)
            exact h44
      · refine dlet_Z (P := ym) (ym_u h0 rfl (by simp only [e0_2])) (fun Z45 Z45' h45 => ?_)
        have e45_2 : ∀ a, Z45 2 0 0 a = Z45' 2 0 0 a := h45.1
        refine dite (by simp only [e0_2, e45_2]) (fun _ => ?_) (fun _ => ?_)
        · refine dlet_Z (P := ym) (ym_u h45 rfl (by simp only [e45_2])) (fun Z49 Z49' h49 => ?_)
          exact h49
        · refine dite (by simp only [e45_2]) (fun _ => ?_) (fun _ => ?_)
          · refine dlet_Z (P := ym) (ym_u h45 rfl (by simp only [e45_2])) (fun Z52 Z52' h52 => ?_)
            exact h52
          · refine dlet_Z (P := ym) (ym_u h45 rfl (by simp only [e45_2])) (fun Z53 Z53' h53 => ?_)
            exact h53
  · refine dite (by simp only [e0_2]) (fun _ => ?_) (fun _ => ?_)
    · refine dite (by simp only [e0_2]) (fun _ => ?_) (fun _ => ?_)
      · refine dlet_Z (P := ym) (ym_u h0 rfl rfl) (fun Z61 Z61' h61 => ?_)
        have e61_2 : ∀ a, Z61 2 0 0 a = Z61' 2 0 0 a := h61.1
        refine dite (by simp only [e0_2, e61_2]) (fun _ => ?_) (fun _ => ?_)
        · refine dlet_Z (P := ym) (ym_u h61 rfl (by simp only [e61_2])) (fun Z65 Z65' h65 => ?_)
          exact h65
        · refine dite (by simp only [e61_2]) (fun _ => ?_) (fun _ => ?_)
          · refine dlet_Z (P := ym) (ym_u h61 rfl (by simp only [e61_2])) (fun Z68 Z68' h68 => ?_)
            exact h68
          · refine dlet_Z (P := ym) (ym_u h61 rfl (by simp only [e61_2])) (fun Z69 Z69' h69 => ?_)
            exact h69
      · refine dlet_Z (P := ym) (ym_u h0 rfl (by simp only [e0_2])) (fun Z70 Z70' h70 => ?_)
        have e70_2 : ∀ a, Z70 2 0 0 a = Z70' 2 0 0 a := h70.1
        refine dite (by simp only [e0_2, e70_2]) (fun _ => ?_) (fun _ => ?_)
        · refine dlet_Z (P := ym) (ym_u h70 rfl (by simp only [e70_2])) (fun Z74 Z74' h74 => ?_)
          exact h74
        · refine dite (by simp only [e70_2]) (fun _ => ?_) (fun _ => ?_)
          · refine dlet_Z (P := ym) (ym_u h70 rfl (by simp only [e70_2])) (fun Z77 Z77' h77 => ?_)
            exact h77
          · refine dlet_Z (P := ym) (ym_u h70 rfl (by simp only [e70_2])) (fun Z78 Z78' h78 => ?_)
            exact h78
    · refine dite (by simp only [e0_2]) (fun _ => ?_) (fun _ => ?_)
      · refine dlet_Z (P := ym) (ym_u h0 rfl rfl) (fun Z83 Z83' h83 => ?_)
        have e83_2 : ∀ a, Z83 2 0 0 a = Z83' 2 0 0 a := h83.1
        refine dite (by simp only [e0_2, e83_2]) (fun _ => ?_) (fun _ => ?_)
        · refine dlet_Z (P := ym) (ym_u h83 rfl (by simp only [e83_2])) (fun Z87 Z87' h87 => ?_)
          exact h87
        · refine dite (by simp only [e83_2]) (fun _ => ?_) (fun _ => ?_)
          · refine dlet_Z (P := ym) (ym_u h83 rfl (by simp only [e83_2])) (fun Z90 Z90' h90 => ?_)
            exact h90
          · refine dlet_Z (P := ym) (ym_u h83 rfl (by simp only [e83_2])) (fun Z91 Z91' h91 => ?_)
            exact h91
      · refine dlet_Z (P := ym) (ym_u h0 rfl (by simp only [e0_2])) (fun Z92 Z92' h92 => ?_)
        have e92_2 : ∀ a, Z92 2 0 0 a = Z92' 2 0 0 a := h92.1
        refine dite (by simp only [e0_2, e92_2]) (fun _ => ?_) (fun _ => ?_)
        · refine dlet_Z (P := ym) (ym_u h92 rfl (by simp only [e92_2])) (fun Z96 Z96' h96 => ?_)
          exact h96
        · refine dite (by simp only [e92_2]) (fun _ => ?_) (fun _ => ?_)
          · refine dlet_Z (P := ym) (ym_u h92 rfl (by simp only [e92_2])) (fun Z99 Z99' h99 => ?_)
            exact h99
          · refine dlet_Z (P := ym) (ym_u h92 rfl (by simp only [e92_2])) (fun Z100 Z100' h100 => ?_)
            exact h100
theorem dl_471_2 : ∀ (m : Nat) {Z Z' : qz_Z} {x1 x1' : Int}, ym Z Z' → x1 = x1' → dMe (ym) (zl_471_2 m Z x1) (zl_471_2 m Z' x1')
  | 0, Z, Z', x1, x1', h0, ix1 => by
    subst ix1
    unfold zl_471_2
    exact ⟨h0, rfl⟩
  | m + 1, Z, Z', x1, x1', h0, ix1 => by
    subst ix1
    have e0_2 : ∀ a, Z 2 0 0 a = Z' 2 0 0 a := h0.1
    unfold zl_471_2
    refine dite (by simp only [e0_2]) (fun _ => ?_) (fun _ => ?_)
    · exact ⟨h0, rfl⟩
    · refine dite (by simp only [e0_2]) (fun _ => ?_) (fun _ => ?_)
      · exact dl_471_2 m h0 rfl
      · refine dlet_Z (P := ym) (dq_481 h0 rfl) (fun Z6 Z6' h6 => ?_)
        exact dl_471_2 m h6 rfl
theorem dq_482 {Z Z' : qz_Z} {a1 a1' : Int} (h0 : ym Z Z') (ia1 : a1 = a1') : ym (zf_482 Z a1) (zf_482 Z' a1') := by
  subst ia1
  have e0_2 : ∀ a, Z 2 0 0 a = Z' 2 0 0 a := h0.1
  unfold zf_482
  refine dite (by simp only [e0_2]) (fun _ => ?_) (fun _ => ?_)
  · refine dite (by simp only [e0_2]) (fun _ => ?_) (fun _ => ?_)
    · refine dlet_Z (P := ym) (ym_u h0 rfl rfl) (fun Z11 Z11' h11 => ?_)
      have e11_2 : ∀ a, Z11 2 0 0 a = Z11' 2 0 0 a := h11.1
      refine dite (by simp only [e0_2, e11_2]) (fun _ => ?_) (fun _ => ?_)
      · refine dlet_Z (P := ym) (ym_u h11 rfl (by simp only [e11_2])) (fun Z15 Z15' h15 => ?_)
        exact h15
      · refine dite (by simp only [e11_2]) (fun _ => ?_) (fun _ => ?_)
        · refine dlet_Z (P := ym) (ym_u h11 rfl (by simp only [e11_2])) (fun Z18 Z18' h18 => ?_)
          exact h18
        · refine dlet_Z (P := ym) (ym_u h11 rfl (by simp only [e11_2])) (fun Z19 Z19' h19 => ?_)
          exact h19
    · refine dlet_Z (P := ym) (ym_u h0 rfl (by simp only [e0_2])) (fun Z20 Z20' h20 => ?_)
      have e20_2 : ∀ a, Z20 2 0 0 a = Z20' 2 0 0 a := h20.1
      refine dite (by simp only [e0_2, e20_2]) (fun _ => ?_) (fun _ => ?_)
      · refine dlet_Z (P := ym) (ym_u h20 rfl (by simp only [e20_2])) (fun Z24 Z24' h24 => ?_)
        exact h24
      · refine dite (by simp only [e20_2]) (fun _ => ?_) (fun _ => ?_)
        · refine dlet_Z (P := ym) (ym_u h20 rfl (by simp only [e20_2])) (fun Z27 Z27' h27 => ?_)
          exact h27
        · refine dlet_Z (P := ym) (ym_u h20 rfl (by simp only [e20_2])) (fun Z28 Z28' h28 => ?_)
          exact h28
  · refine dite (by simp only [e0_2]) (fun _ => ?_) (fun _ => ?_)
    · refine dlet_Z (P := ym) (ym_u h0 rfl rfl) (fun Z33 Z33' h33 => ?_)
      have e33_2 : ∀ a, Z33 2 0 0 a = Z33' 2 0 0 a := h33.1
      refine dite (by simp only [e0_2, e33_2]) (fun _ => ?_) (fun _ => ?_)
      · refine dlet_Z (P := ym) (ym_u h33 rfl (by simp only [e33_2])) (fun Z37 Z37' h37 => ?_)
        exact h37
      · refine dite (by simp only [e33_2]) (fun _ => ?_) (fun _ => ?_)
        · refine dlet_Z (P := ym) (ym_u h33 rfl (by simp only [e33_2])) (fun Z40 Z40' h40 => ?_)
          exact h40
        · refine dlet_Z (P := ym) (ym_u h33 rfl (by simp only [e33_2])) (fun Z41 Z41' h41 => ?_)
          exact h41
    · refine dlet_Z (P := ym) (ym_u h0 rfl (by simp only [e0_2])) (fun Z42 Z42' h42 => ?_)
      have e42_2 : ∀ a, Z42 2 0 0 a = Z42' 2 0 0 a := h42.1
      refine dite (by simp only [e0_2, e42_2]) (fun _ => ?_) (fun _ => ?_)
      · refine dlet_Z (P := ym) (ym_u h42 rfl (by simp only [e42_2])) (fun Z46 Z46' h46 => ?_)
        exact h46
      · refine dite (by simp only [e42_2]) (fun _ => ?_) (fun _ => ?_)
        · refine dlet_Z (P := ym) (ym_u h42 rfl (by simp only [e42_2])) (fun Z49 Z49' h49 => ?_)
          exact h49
        · refine dlet_Z (P := ym) (ym_u h42 rfl (by simp only [e42_2])) (fun Z50 Z50' h50 => ?_)
          exact h50
theorem dl_471_3 : ∀ (m : Nat) {Z Z' : qz_Z} {x1 x1' : Int}, ym Z Z' → x1 = x1' → dMe (ym) (zl_471_3 m Z x1) (zl_471_3 m Z' x1')
  | 0, Z, Z', x1, x1', h0, ix1 => by
    subst ix1
    unfold zl_471_3
    exact ⟨h0, rfl⟩
  | m + 1, Z, Z', x1, x1', h0, ix1 => by
    subst ix1
    have e0_2 : ∀ a, Z 2 0 0 a = Z' 2 0 0 a := h0.1
    unfold zl_471_3
    refine dite (by simp only [e0_2]) (fun _ => ?_) (fun _ => ?_)
    · exact ⟨h0, rfl⟩
    · refine dite (by simp only [e0_2]) (fun _ => ?_) (fun _ => ?_)
      · exact dl_471_3 m h0 rfl
      · refine dlet_Z (P := ym) (dq_482 h0 rfl) (fun Z6 Z6' h6 => ?_)
        exact dl_471_3 m h6 rfl
theorem dq_471 {Z Z' : qz_Z} (h0 : ym Z Z') : ym (zf_471 Z) (zf_471 Z') := by
  unfold zf_471
  refine dlet2 (dl_471_1 _ h0 rfl) (fun Z2 Z2' y1 h2 => ?_)
  refine dlet2 (dl_471_2 _ h2 rfl) (fun Z5 Z5' y4 h5 => ?_)
  refine dlet2 (dl_471_3 _ h5 rfl) (fun Z8 Z8' y7 h8 => ?_)
  exact h8
theorem dl_373_1 : ∀ (m : Nat) {Z Z' : qz_Z} {x1 x2 x3 x1' x2' x3' : Int}, x1 = x1' → ym0 Z Z' → x2 = x2' → x3 = x3' → zl_373_1 x1 m Z x2 x3 = zl_373_1 x1' m Z' x2' x3'
  | 0, Z, Z', x1, x2, x3, x1', x2', x3', ix1, h0, ix2, ix3 => by
    subst ix1
    subst ix2
    subst ix3
    unfold zl_373_1
    exact rfl
  | m + 1, Z, Z', x1, x2, x3, x1', x2', x3', ix1, h0, ix2, ix3 => by
    subst ix1
    subst ix2
    subst ix3
    unfold zl_373_1
    refine dite rfl (fun _ => ?_) (fun _ => ?_)
    · exact rfl
    · exact dl_373_1 m rfl h0 rfl rfl
theorem dq_373 {Z Z' : qz_Z} {a0 a1 a0' a1' : Int} (h0 : ym0 Z Z') (ia0 : a0 = a0') (ia1 : a1 = a1') : zf_373 Z a0 a1 = zf_373 Z' a0' a1' := by
  subst ia0
  subst ia1
  have p0_374 : ∀ u1 : Int, zf_374 Z u1 = zf_374 Z' u1 := fun u1 => dq_374 h0 rfl
  unfold zf_373
  refine dlet_i (by simp only [p0_374]) (fun v1 => ?_)
  refine dlet2e (dl_373_1 _ rfl h0 rfl rfl) (fun y2 y3 => ?_)
  exact rfl
theorem dq_355 {Z Z' : qz_Z} {a1 a2 a1' a2' : Int} (h0 : ym0 Z Z') (ia1 : a1 = a1') (ia2 : a2 = a2') : zf_355 Z a1 a2 = zf_355 Z' a1' a2' := by
  subst ia1
  subst ia2
  have e0_2 : ∀ a, Z 2 0 0 a = Z' 2 0 0 a := h0
  have p0_373 : ∀ u1 u2 : Int, zf_373 Z u1 u2 = zf_373 Z' u1 u2 := fun u1 u2 => dq_373 h0 rfl rfl
  have p0_374 : ∀ u1 : Int, zf_374 Z u1 = zf_374 Z' u1 := fun u1 => dq_374 h0 rfl
  unfold zf_355
  refine dite (by simp only [e0_2]) (fun _ => ?_) (fun _ => ?_)
  · exact rfl
  · refine dlet_i (by simp only [e0_2, p0_374]) (fun v7 => ?_)
    refine dite (by simp only [e0_2]) (fun _ => ?_) (fun _ => ?_)
    · exact rfl
    · refine dite (by simp only [e0_2]) (fun _ => ?_) (fun _ => ?_)
      · exact rfl
      · refine dlet_i (by simp only [e0_2, p0_373]) (fun v11 => ?_)
        exact rfl
theorem dq_364 {Z Z' : qz_Z} {a1 a2 a1' a2' : Int} (h0 : ym0 Z Z') (ia1 : a1 = a1') (ia2 : a2 = a2') : zf_364 Z a1 a2 = zf_364 Z' a1' a2' := by
  subst ia1
  subst ia2
  have e0_2 : ∀ a, Z 2 0 0 a = Z' 2 0 0 a := h0
  have p0_326 : ∀ u1 : Int, zf_326 Z u1 = zf_326 Z' u1 := fun u1 => dq_326 h0 rfl
  unfold zf_364
  refine dite (by simp only [e0_2]) (fun _ => ?_) (fun _ => ?_)
  · refine dite (by simp only [e0_2]) (fun _ => ?_) (fun _ => ?_)
    · refine dite (by simp only [e0_2]) (fun _ => ?_) (fun _ => ?_)
      · exact rfl
      · refine dite (by simp only [e0_2]) (fun _ => ?_) (fun _ => ?_)
        · refine dite (by simp only [e0_2]) (fun _ => ?_) (fun _ => ?_)
          · exact rfl
          · refine dite (by simp only [e0_2]) (fun _ => ?_) (fun _ => ?_)
            · exact rfl
            · refine dlet_i (by simp only [p0_326]) (fun v14 => ?_)
              refine dite (by simp only [e0_2]) (fun _ => ?_) (fun _ => ?_)
              · exact rfl
              · exact rfl
        · refine dite (by simp only [e0_2]) (fun _ => ?_) (fun _ => ?_)
          · refine dite (by simp only [e0_2]) (fun _ => ?_) (fun _ => ?_)
            · exact rfl
            · exact rfl
          · refine dite (by simp only [e0_2]) (fun _ => ?_) (fun _ => ?_)
            · refine dite (by simp only [e0_2]) (fun _ => ?_) (fun _ => ?_)
              · exact rfl
              · refine dlet_i (by simp only [p0_326]) (fun v23 => ?_)
                exact rfl
            · exact rfl
    · refine dite (by simp only [e0_2]) (fun _ => ?_) (fun _ => ?_)
      · refine dite (by simp only [e0_2]) (fun _ => ?_) (fun _ => ?_)
        · exact rfl
        · refine dite (by simp only [e0_2]) (fun _ => ?_) (fun _ => ?_)
          · exact rfl
          · refine dlet_i (by simp only [p0_326]) (fun v30 => ?_)
            refine dite (by simp only [e0_2]) (fun _ => ?_) (fun _ => ?_)
            · exact rfl
            · exact rfl
      · refine dite (by simp only [e0_2]) (fun _ => ?_) (fun _ => ?_)
        · refine dite (by simp only [e0_2]) (fun _ => ?_) (fun _ => ?_)
          · exact rfl
          · exact rfl
        · refine dite (by simp only [e0_2]) (fun _ => ?_) (fun _ => ?_)
          · refine dite (by simp only [e0_2]) (fun _ => ?_) (fun _ => ?_)
            · exact rfl
            · refine dlet_i (by simp only [p0_326]) (fun v39 => ?_)
              exact rfl
          · exact rfl
  · refine dite (by simp only [e0_2]) (fun _ => ?_) (fun _ => ?_)
    · refine dite (by simp only [e0_2]) (fun _ => ?_) (fun _ => ?_)
      · exact rfl
      · refine dite (by simp only [e0_2]) (fun _ => ?_) (fun _ => ?_)
        · exact rfl
        · refine dlet_i (by simp only [p0_326]) (fun v46 => ?_)
          refine dite (by simp only [e0_2]) (fun _ => ?_) (fun _ => ?_)
          · exact rfl
          · exact rfl
    · refine dite (by simp only [e0_2]) (fun _ => ?_) (fun _ => ?_)
      · refine dite (by simp only [e0_2]) (fun _ => ?_) (fun _ => ?_)
        · exact rfl
        · exact rfl
      · refine dite (by simp only [e0_2]) (fun _ => ?_) (fun _ => ?_)
        · refine dite (by simp only [e0_2]) (fun _ => ?_) (fun _ => ?_)
          · exact rfl
          · refine dlet_i (by simp only [p0_326]) (fun v55 => ?_)
            exact rfl
        · exact rfl
theorem dl_363_1 : ∀ (m : Nat) {Z Z' : qz_Z} {x1 x2 x3 x4 x5 x6 x1' x2' x3' x4' x5' x6' : Int}, x1 = x1' → x2 = x2' → x3 = x3' → x4 = x4' → x5 = x5' → ym Z Z' → x6 = x6' → dMe (ym) (zl_363_1 x1 x2 x3 x4 x5 m Z x6) (zl_363_1 x1' x2' x3' x4' x5' m Z' x6')
  | 0, Z, Z', x1, x2, x3, x4, x5, x6, x1', x2', x3', x4', x5', x6', ix1, ix2, ix3, ix4, ix5, h0, ix6 => by
    subst ix1
    subst ix2
    subst ix3
    subst ix4
    subst ix5
    subst ix6
    unfold zl_363_1
    exact ⟨h0, rfl⟩
  | m + 1, Z, Z', x1, x2, x3, x4, x5, x6, x1', x2', x3', x4', x5', x6', ix1, ix2, ix3, ix4, ix5, h0, ix6 => by
    subst ix1
    subst ix2
    subst ix3
    subst ix4
    subst ix5
    subst ix6
    have e0_2 : ∀ a, Z 2 0 0 a = Z' 2 0 0 a := h0.1
    unfold zl_363_1
    refine dite rfl (fun _ => ?_) (fun _ => ?_)
    · exact ⟨h0, rfl⟩
    · refine dlet_Z (P := ym) (ym_u h0 rfl (by simp only [e0_2])) (fun Z4 Z4' h4 => ?_)
      exact dl_363_1 m rfl rfl rfl rfl rfl h4 rfl
theorem dq_363 {Z Z' : qz_Z} {a1 a2 a3 a4 a5 a1' a2' a3' a4' a5' : Int} (h0 : ym Z Z') (ia1 : a1 = a1') (ia2 : a2 = a2') (ia3 : a3 = a3') (ia4 : a4 = a4') (ia5 : a5 = a5') : ym (zf_363 Z a1 a2 a3 a4 a5) (zf_363 Z' a1' a2' a3' a4' a5') := by
  subst ia1
  subst ia2
  subst ia3
  subst ia4
  subst ia5
  have e0_2 : ∀ a, Z 2 0 0 a = Z' 2 0 0 a := h0.1
  unfold zf_363
  refine dite (by simp only [e0_2]) (fun _ => ?_) (fun _ => ?_)
  · refine dlet_Z (P := ym) (ym_u h0 (by simp only [e0_2]) rfl) (fun Z3 Z3' h3 => ?_)
    have e3_2 : ∀ a, Z3 2 0 0 a = Z3' 2 0 0 a := h3.1
    refine dlet_Z (P := ym) (ym_u h3 (by simp only [e0_2]) (by simp only [e3_2])) (fun Z5 Z5' h5 => ?_)
    refine dlet_Z (P := ym) (ym_u h5 (by simp only [e0_2]) rfl) (fun Z6 Z6' h6 => ?_)
    refine dlet_Z (P := ym) (ym_u h6 (by simp only [e0_2]) rfl) (fun Z7 Z7' h7 => ?_)
    refine dlet_Z (P := ym) (ym_u h7 (by simp only [e0_2]) rfl) (fun Z8 Z8' h8 => ?_)
    refine dlet_Z (P := ym) (ym_u h8 (by simp only [e0_2]) rfl) (fun Z9 Z9' h9 => ?_)
    have e9_2 : ∀ a, Z9 2 0 0 a = Z9' 2 0 0 a := h9.1
    refine dlet_Z (P := ym) (ym_u h9 rfl (by simp only [e9_2])) (fun Z12 Z12' h12 => ?_)
    exact h12
  · refine dlet2 (dl_363_1 _ rfl rfl rfl rfl rfl h0 rfl) (fun Z14 Z14' y13 h14 => ?_)
    have e14_2 : ∀ a, Z14 2 0 0 a = Z14' 2 0 0 a := h14.1
    refine dlet_Z (P := ym) (ym_u h14 rfl (by simp only [e14_2])) (fun Z17 Z17' h17 => ?_)
    have e17_2 : ∀ a, Z17 2 0 0 a = Z17' 2 0 0 a := h17.1
    refine dlet_Z (P := ym) (ym_u h17 (by simp only [e17_2]) rfl) (fun Z20 Z20' h20 => ?_)
    have e20_2 : ∀ a, Z20 2 0 0 a = Z20' 2 0 0 a := h20.1
    refine dlet_Z (P := ym) (ym_u h20 (by simp only [e17_2]) (by simp only [e20_2])) (fun Z22 Z22' h22 => ?_)
    refine dlet_Z (P := ym) (ym_u h22 (by simp only [e17_2]) rfl) (fun Z23 Z23' h23 => ?_)
    refine dlet_Z (P := ym) (ym_u h23 (by simp only [e17_2]) rfl) (fun Z24 Z24' h24 => ?_)
    refine dlet_Z (P := ym) (ym_u h24 (by simp only [e17_2]) rfl) (fun Z25 Z25' h25 => ?_)
    refine dlet_Z (P := ym) (ym_u h25 (by simp only [e17_2]) rfl) (fun Z26 Z26' h26 => ?_)
    have e26_2 : ∀ a, Z26 2 0 0 a = Z26' 2 0 0 a := h26.1
    refine dlet_Z (P := ym) (ym_u h26 rfl (by simp only [e26_2])) (fun Z29 Z29' h29 => ?_)
    exact h29
theorem dq_357 {Z Z' : qz_Z} {a1 a2 a3 a4 a1' a2' a3' a4' : Int} (h0 : ym Z Z') (ia1 : a1 = a1') (ia2 : a2 = a2') (ia3 : a3 = a3') (ia4 : a4 = a4') : ym (zf_357 Z a1 a2 a3 a4) (zf_357 Z' a1' a2' a3' a4') := by
  subst ia1
  subst ia2
  subst ia3
  subst ia4
  have e0_2 : ∀ a, Z 2 0 0 a = Z' 2 0 0 a := h0.1
  have p0_326 : ∀ u1 : Int, zf_326 Z u1 = zf_326 Z' u1 := fun u1 => dq_326 h0.1 rfl
  unfold zf_357
  refine dite rfl (fun _ => ?_) (fun _ => ?_)
  · refine dite rfl (fun _ => ?_) (fun _ => ?_)
    · refine dlet_i (by simp only [p0_326]) (fun v3 => ?_)
      refine dlet_Z (P := ym) (ym_u h0 rfl rfl) (fun Z4 Z4' h4 => ?_)
      have e4_2 : ∀ a, Z4 2 0 0 a = Z4' 2 0 0 a := h4.1
      refine dlet_Z (P := ym) (ym_u h4 rfl (by simp only [e4_2])) (fun Z7 Z7' h7 => ?_)
      refine dlet_Z (P := ym) (dq_363 h7 rfl rfl rfl rfl (by simp only [e0_2])) (fun Z9 Z9' h9 => ?_)
      have e9_2 : ∀ a, Z9 2 0 0 a = Z9' 2 0 0 a := h9.1
      refine dlet_Z (P := ym) (dq_403 h9 rfl rfl (by simp only [e9_2]) rfl) (fun Z11 Z11' h11 => ?_)
      exact h11
    · refine dlet_Z (P := ym) (ym_u h0 rfl rfl) (fun Z12 Z12' h12 => ?_)
      have e12_2 : ∀ a, Z12 2 0 0 a = Z12' 2 0 0 a := h12.1
      refine dlet_Z (P := ym) (ym_u h12 rfl (by simp only [e12_2])) (fun Z15 Z15' h15 => ?_)
      refine dlet_Z (P := ym) (dq_363 h15 rfl rfl rfl rfl (by simp only [e0_2])) (fun Z17 Z17' h17 => ?_)
      have e17_2 : ∀ a, Z17 2 0 0 a = Z17' 2 0 0 a := h17.1
      refine dlet_Z (P := ym) (dq_403 h17 rfl rfl (by simp only [e17_2]) rfl) (fun Z19 Z19' h19 => ?_)
      exact h19
  · refine dlet_Z (P := ym) (dq_431 h0 rfl rfl) (fun Z20 Z20' h20 => ?_)
    have e20_2 : ∀ a, Z20 2 0 0 a = Z20' 2 0 0 a := h20.1
    refine dlet_Z (P := ym) (ym_u h20 rfl (by simp only [e20_2])) (fun Z23 Z23' h23 => ?_)
    have e23_2 : ∀ a, Z23 2 0 0 a = Z23' 2 0 0 a := h23.1
    refine dlet_Z (P := ym) (ym_u h23 rfl (by simp only [e23_2])) (fun Z26 Z26' h26 => ?_)
    refine dlet_Z (P := ym) (dq_363 h26 rfl rfl rfl rfl (by simp only [e0_2])) (fun Z28 Z28' h28 => ?_)
    have e28_2 : ∀ a, Z28 2 0 0 a = Z28' 2 0 0 a := h28.1
    refine dlet_Z (P := ym) (dq_403 h28 rfl rfl (by simp only [e28_2]) rfl) (fun Z30 Z30' h30 => ?_)
    exact h30
theorem dl_365_1 : ∀ (m : Nat) {Z Z' : qz_Z} {x1 x2 x3 x4 x5 x1' x2' x3' x4' x5' : Int}, x1 = x1' → x2 = x2' → x3 = x3' → ym Z Z' → x4 = x4' → x5 = x5' → dMe (ym) (zl_365_1 x1 x2 x3 m Z x4 x5) (zl_365_1 x1' x2' x3' m Z' x4' x5')
  | 0, Z, Z', x1, x2, x3, x4, x5, x1', x2', x3', x4', x5', ix1, ix2, ix3, h0, ix4, ix5 => by
    subst ix1
    subst ix2
    subst ix3
    subst ix4
    subst ix5
    unfold zl_365_1
    exact ⟨h0, rfl⟩
  | m + 1, Z, Z', x1, x2, x3, x4, x5, x1', x2', x3', x4', x5', ix1, ix2, ix3, h0, ix4, ix5 => by
    subst ix1
    subst ix2
    subst ix3
    subst ix4
    subst ix5
    have e0_2 : ∀ a, Z 2 0 0 a = Z' 2 0 0 a := h0.1
    have p0_364 : ∀ u1 u2 : Int, zf_364 Z u1 u2 = zf_364 Z' u1 u2 := fun u1 u2 => dq_364 h0.1 rfl rfl
    unfold zl_365_1
    refine dite (by simp only [e0_2]) (fun _ => ?_) (fun _ => ?_)
    · exact ⟨h0, rfl⟩
    · refine dite (by simp only [e0_2]) (fun _ => ?_) (fun _ => ?_)
      · exact dl_365_1 m rfl rfl rfl h0 rfl rfl
      · refine dite (by simp only [e0_2]) (fun _ => ?_) (fun _ => ?_)
        · exact dl_365_1 m rfl rfl rfl h0 rfl rfl
        · refine dlet_i (by simp only [p0_364]) (fun v8 => ?_)
          refine dite rfl (fun _ => ?_) (fun _ => ?_)
          · exact dl_365_1 m rfl rfl rfl h0 rfl rfl
          · refine dlet_Z (P := ym) (dq_357 h0 rfl rfl rfl rfl) (fun Z10 Z10' h10 => ?_)
            exact dl_365_1 m rfl rfl rfl h10 rfl rfl
theorem dq_365 {Z Z' : qz_Z} {a1 a2 a1' a2' : Int} (h0 : ym Z Z') (ia1 : a1 = a1') (ia2 : a2 = a2') : dMe (ym) (zf_365 Z a1 a2) (zf_365 Z' a1' a2') := by
  subst ia1
  subst ia2
  unfold zf_365
  refine dite rfl (fun _ => ?_) (fun _ => ?_)
  · refine dlet3 (dl_365_1 _ rfl rfl rfl h0 rfl rfl) (fun Z4 Z4' y2 y3 h4 => ?_)
    have e4_2 : ∀ a, Z4 2 0 0 a = Z4' 2 0 0 a := h4.1
    refine dlet_Z (P := ym) (ym_u h4 rfl (by simp only [e4_2])) (fun Z8 Z8' h8 => ?_)
    have e8_2 : ∀ a, Z8 2 0 0 a = Z8' 2 0 0 a := h8.1
    refine dlet_Z (P := ym) (ym_u h8 rfl (by simp only [e8_2])) (fun Z10 Z10' h10 => ?_)
    have e10_2 : ∀ a, Z10 2 0 0 a = Z10' 2 0 0 a := h10.1
    refine dite rfl (fun _ => ?_) (fun _ => ?_)
    · exact ⟨h10, rfl⟩
    · refine dite (by simp only [e10_2]) (fun _ => ?_) (fun _ => ?_)
      · exact ⟨h10, rfl⟩
      · refine dlet_Z (P := ym) (ym_u h10 rfl (by simp only [e10_2])) (fun Z16 Z16' h16 => ?_)
        exact ⟨h16, rfl⟩
  · refine dlet3 (dl_365_1 _ rfl rfl rfl h0 rfl rfl) (fun Z19 Z19' y17 y18 h19 => ?_)
    have e19_2 : ∀ a, Z19 2 0 0 a = Z19' 2 0 0 a := h19.1
    refine dlet_Z (P := ym) (ym_u h19 rfl (by simp only [e19_2])) (fun Z23 Z23' h23 => ?_)
    have e23_2 : ∀ a, Z23 2 0 0 a = Z23' 2 0 0 a := h23.1
    refine dlet_Z (P := ym) (ym_u h23 rfl (by simp only [e23_2])) (fun Z25 Z25' h25 => ?_)
    exact ⟨h25, rfl⟩
theorem dl_358_1 : ∀ (m : Nat) {Z Z' : qz_Z} {x1 x1' : Int}, ym Z Z' → x1 = x1' → dMe (ym) (zl_358_1 m Z x1) (zl_358_1 m Z' x1')
  | 0, Z, Z', x1, x1', h0, ix1 => by
    subst ix1
    unfold zl_358_1
    exact ⟨h0, rfl⟩
  | m + 1, Z, Z', x1, x1', h0, ix1 => by
    subst ix1
    have e0_2 : ∀ a, Z 2 0 0 a = Z' 2 0 0 a := h0.1
    have p0_355 : ∀ u1 u2 : Int, zf_355 Z u1 u2 = zf_355 Z' u1 u2 := fun u1 u2 => dq_355 h0.1 rfl rfl
    unfold zl_358_1
    refine dite (by simp only [e0_2]) (fun _ => ?_) (fun _ => ?_)
    · exact ⟨h0, rfl⟩
    · refine dlet_i (by simp only [e0_2, p0_355]) (fun v4 => ?_)
      refine dite rfl (fun _ => ?_) (fun _ => ?_)
      · exact dl_358_1 m h0 rfl
      · refine dlet2 (dq_365 h0 rfl rfl) (fun Z6 Z6' v7 h6 => ?_)
        exact dl_358_1 m h6 rfl
theorem dq_358 {Z Z' : qz_Z} (h0 : ym Z Z') : ym (zf_358 Z) (zf_358 Z') := by
  unfold zf_358
  refine dlet2 (dl_358_1 _ h0 rfl) (fun Z2 Z2' y1 h2 => ?_)
  exact h2
theorem dq_270 {Z Z' : qz_Z} {a1 a2 a1' a2' : Int} (h0 : ym0 Z Z') (ia1 : a1 = a1') (ia2 : a2 = a2') : zf_270 Z a1 a2 = zf_270 Z' a1' a2' := by
  subst ia1
  subst ia2
  have e0_2 : ∀ a, Z 2 0 0 a = Z' 2 0 0 a := h0
  unfold zf_270
  refine dite (by simp only [e0_2]) (fun _ => ?_) (fun _ => ?_)
  · exact rfl
  · refine dite (by simp only [e0_2]) (fun _ => ?_) (fun _ => ?_)
    · exact rfl
    · refine dite (by simp only [e0_2]) (fun _ => ?_) (fun _ => ?_)
      · exact rfl
      · refine dite (by simp only [e0_2]) (fun _ => ?_) (fun _ => ?_)
        · exact rfl
        · refine dite (by simp only [e0_2]) (fun _ => ?_) (fun _ => ?_)
          · exact rfl
          · exact rfl
theorem dq_260 {Z Z' : qz_Z} {a1 a1' : Int} (h0 : ym0 Z Z') (ia1 : a1 = a1') : zf_260 Z a1 = zf_260 Z' a1' := by
  subst ia1
  have e0_2 : ∀ a, Z 2 0 0 a = Z' 2 0 0 a := h0
  unfold zf_260
  refine dite (by simp only [e0_2]) (fun _ => ?_) (fun _ => ?_)
  · exact rfl
  · refine dite (by simp only [e0_2]) (fun _ => ?_) (fun _ => ?_)
    · exact rfl
    · refine dite (by simp only [e0_2]) (fun _ => ?_) (fun _ => ?_)
      · exact rfl
      · exact rfl
theorem dl_289_1 : ∀ (m : Nat) {Z Z' : qz_Z} {x1 x2 x3 x1' x2' x3' : Int}, x1 = x1' → ym0 Z Z' → x2 = x2' → x3 = x3' → zl_289_1 x1 m Z x2 x3 = zl_289_1 x1' m Z' x2' x3'
  | 0, Z, Z', x1, x2, x3, x1', x2', x3', ix1, h0, ix2, ix3 => by
    subst ix1
    subst ix2
    subst ix3
    unfold zl_289_1
    exact rfl
  | m + 1, Z, Z', x1, x2, x3, x1', x2', x3', ix1, h0, ix2, ix3 => by
    subst ix1
    subst ix2
    subst ix3
    have e0_2 : ∀ a, Z 2 0 0 a = Z' 2 0 0 a := h0
    unfold zl_289_1
    refine dite (by simp only [e0_2]) (fun _ => ?_) (fun _ => ?_)
    · exact rfl
    · refine dite (by simp only [e0_2]) (fun _ => ?_) (fun _ => ?_)
      · exact dl_289_1 m rfl h0 rfl rfl
      · exact dl_289_1 m rfl h0 (by simp only [e0_2]) rfl
theorem dq_289 {Z Z' : qz_Z} {a1 a1' : Int} (h0 : ym0 Z Z') (ia1 : a1 = a1') : zf_289 Z a1 = zf_289 Z' a1' := by
  subst ia1
  unfold zf_289
  refine dlet2e (dl_289_1 _ rfl h0 rfl rfl) (fun y1 y2 => ?_)
  exact rfl
theorem dl_286_1 : ∀ (m : Nat) {Z Z' : qz_Z} {x1 x2 x3 x4 x1' x2' x3' x4' : Int}, x1 = x1' → x2 = x2' → ym0 Z Z' → x3 = x3' → x4 = x4' → zl_286_1 x1 x2 m Z x3 x4 = zl_286_1 x1' x2' m Z' x3' x4'
  | 0, Z, Z', x1, x2, x3, x4, x1', x2', x3', x4', ix1, ix2, h0, ix3, ix4 => by
    subst ix1
    subst ix2
    subst ix3
    subst ix4
    unfold zl_286_1
    exact rfl
  | m + 1, Z, Z', x1, x2, x3, x4, x1', x2', x3', x4', ix1, ix2, h0, ix3, ix4 => by
    subst ix1
    subst ix2
    subst ix3
    subst ix4
    have e0_2 : ∀ a, Z 2 0 0 a = Z' 2 0 0 a := h0
    have p0_260 : ∀ u1 : Int, zf_260 Z u1 = zf_260 Z' u1 := fun u1 => dq_260 h0 rfl
    have p0_270 : ∀ u1 u2 : Int, zf_270 Z u1 u2 = zf_270 Z' u1 u2 := fun u1 u2 => dq_270 h0 rfl rfl
    have p0_289 : ∀ u1 : Int, zf_289 Z u1 = zf_289 Z' u1 := fun u1 => dq_289 h0 rfl
    unfold zl_286_1
    refine dite (by simp only [e0_2]) (fun _ => ?_) (fun _ => ?_)
    · exact rfl
    · refine dite (by simp only [e0_2]) (fun _ => ?_) (fun _ => ?_)
      · exact rfl
      · refine dlet_i (by simp only [p0_270]) (fun v8 => ?_)
        refine dite rfl (fun _ => ?_) (fun _ => ?_)
        · exact dl_286_1 m rfl rfl h0 rfl rfl
        · refine dlet_i (by simp only [p0_260]) (fun v14 => ?_)
          refine dite rfl (fun _ => ?_) (fun _ => ?_)
          · exact dl_286_1 m rfl rfl h0 rfl rfl
          · refine dite (by simp only [e0_2]) (fun _ => ?_) (fun _ => ?_)
            · exact dl_286_1 m rfl rfl h0 rfl rfl
            · refine dlet_i (by simp only [e0_2, p0_289]) (fun v21 => ?_)
              refine dite (by simp only [e0_2]) (fun _ => ?_) (fun _ => ?_)
              · exact dl_286_1 m rfl rfl h0 rfl rfl
              · refine dite rfl (fun _ => ?_) (fun _ => ?_)
                · exact dl_286_1 m rfl rfl h0 rfl rfl
                · refine dite (by simp only [e0_2]) (fun _ => ?_) (fun _ => ?_)
                  · exact dl_286_1 m rfl rfl h0 rfl rfl
                  · exact dl_286_1 m rfl rfl h0 rfl rfl
theorem dq_286 {Z Z' : qz_Z} {a1 a2 a1' a2' : Int} (h0 : ym0 Z Z') (ia1 : a1 = a1') (ia2 : a2 = a2') : zf_286 Z a1 a2 = zf_286 Z' a1' a2' := by
  subst ia1
  subst ia2
  unfold zf_286
  refine dlet2e (dl_286_1 _ rfl rfl h0 rfl rfl) (fun y3 y4 => ?_)
  exact rfl
theorem dq_287 {Z Z' : qz_Z} {a1 a2 a3 a1' a2' a3' : Int} (h0 : ym0 Z Z') (ia1 : a1 = a1') (ia2 : a2 = a2') (ia3 : a3 = a3') : zf_287 Z a1 a2 a3 = zf_287 Z' a1' a2' a3' := by
  subst ia1
  subst ia2
  subst ia3
  have e0_2 : ∀ a, Z 2 0 0 a = Z' 2 0 0 a := h0
  have p0_289 : ∀ u1 : Int, zf_289 Z u1 = zf_289 Z' u1 := fun u1 => dq_289 h0 rfl
  unfold zf_287
  refine dlet_i (by simp only [e0_2, p0_289]) (fun v4 => ?_)
  refine dite (by simp only [e0_2]) (fun _ => ?_) (fun _ => ?_)
  · refine dite (by simp only [e0_2]) (fun _ => ?_) (fun _ => ?_)
    · exact (by simp only [e0_2])
    · exact (by simp only [e0_2])
  · refine dite (by simp only [e0_2]) (fun _ => ?_) (fun _ => ?_)
    · exact (by simp only [e0_2])
    · exact (by simp only [e0_2])
theorem dq_284 {Z Z' : qz_Z} {a1 a1' : Int} (h0 : ym Z Z') (ia1 : a1 = a1') : ym (zf_284 Z a1) (zf_284 Z' a1') := by
  subst ia1
  have e0_2 : ∀ a, Z 2 0 0 a = Z' 2 0 0 a := h0.1
  unfold zf_284
  refine dlet_Z (P := ym) (ym_u h0 rfl (by simp only [e0_2])) (fun Z8 Z8' h8 => ?_)
  have e8_2 : ∀ a, Z8 2 0 0 a = Z8' 2 0 0 a := h8.1
  refine dlet_Z (P := ym) (ym_u h8 rfl (by simp only [e8_2])) (fun Z12 Z12' h12 => ?_)
  have e12_2 : ∀ a, Z12 2 0 0 a = Z12' 2 0 0 a := h12.1
  refine dlet_Z (P := ym) (ym_u h12 (by simp only [e12_2]) (by simp only [e12_2])) (fun Z21 Z21' h21 => ?_)
  exact h21
theorem dq_404 {Z Z' : qz_Z} {a1 a1' : Int} (h0 : ym0 Z Z') (ia1 : a1 = a1') : zf_404 Z a1 = zf_404 Z' a1' := by
  subst ia1
  have e0_2 : ∀ a, Z 2 0 0 a = Z' 2 0 0 a := h0
  unfold zf_404
  exact (by simp only [e0_2])
theorem dq_419 {Z Z' : qz_Z} {a1 a1' : Int} (h0 : ym Z Z') (ia1 : a1 = a1') : ym (zf_419 Z a1) (zf_419 Z' a1') := by
  subst ia1
  have e0_2 : ∀ a, Z 2 0 0 a = Z' 2 0 0 a := h0.1
  unfold zf_419
  refine dlet_Z (P := ym) (dq_403 h0 rfl rfl (by simp only [e0_2]) (by simp only [e0_2])) (fun Z7 Z7' h7 => ?_)
  have p7_404 : ∀ u1 : Int, zf_404 Z7 u1 = zf_404 Z7' u1 := fun u1 => dq_404 h7.1 rfl
  refine dlet_i (by simp only [p7_404]) (fun v8 => ?_)
  refine dlet_Z (P := ym) (dq_403 h7 rfl rfl rfl (by simp only [e0_2])) (fun Z9 Z9' h9 => ?_)
  have e9_2 : ∀ a, Z9 2 0 0 a = Z9' 2 0 0 a := h9.1
  have p9_404 : ∀ u1 : Int, zf_404 Z9 u1 = zf_404 Z9' u1 := fun u1 => dq_404 h9.1 rfl
  refine dlet_i (by simp only [p9_404]) (fun v11 => ?_)
  refine dlet_Z (P := ym) (ym_u h9 (by simp only [e0_2]) (by simp only [e0_2, e9_2])) (fun Z19 Z19' h19 => ?_)
  have e19_2 : ∀ a, Z19 2 0 0 a = Z19' 2 0 0 a := h19.1
  refine dlet_Z (P := ym) (ym_u h19 (by simp only [e0_2]) (by simp only [e0_2, e19_2])) (fun Z30 Z30' h30 => ?_)
  have e30_2 : ∀ a, Z30 2 0 0 a = Z30' 2 0 0 a := h30.1
  have p30_404 : ∀ u1 : Int, zf_404 Z30 u1 = zf_404 Z30' u1 := fun u1 => dq_404 h30.1 rfl
  refine dlet_i (by simp only [p30_404]) (fun v31 => ?_)
  refine dlet_Z (P := ym) (ym_u h30 (by simp only [e0_2]) (by simp only [e0_2, e30_2])) (fun Z34 Z34' h34 => ?_)
  exact h34
theorem dq_433 {Z Z' : qz_Z} {a1 a2 a3 a4 a1' a2' a3' a4' : Int} (h0 : ym Z Z') (ia1 : a1 = a1') (ia2 : a2 = a2') (ia3 : a3 = a3') (ia4 : a4 = a4') : dMe (ym) (zf_433 Z a1 a2 a3 a4) (zf_433 Z' a1' a2' a3' a4') := by
  subst ia1
  subst ia2
  subst ia3
  subst ia4
  have e0_2 : ∀ a, Z 2 0 0 a = Z' 2 0 0 a := h0.1
  unfold zf_433
  refine dlet_Z (P := ym) (ym_u h0 rfl (by simp only [e0_2])) (fun Z9 Z9' h9 => ?_)
  have e9_2 : ∀ a, Z9 2 0 0 a = Z9' 2 0 0 a := h9.1
  refine dlet_Z (P := ym) (ym_u h9 (by simp only [e0_2]) rfl) (fun Z12 Z12' h12 => ?_)
  have e12_2 : ∀ a, Z12 2 0 0 a = Z12' 2 0 0 a := h12.1
  refine dlet_Z (P := ym) (ym_u h12 (by simp only [e0_2]) (by simp only [e12_2])) (fun Z14 Z14' h14 => ?_)
  refine dlet_Z (P := ym) (ym_u h14 (by simp only [e0_2]) rfl) (fun Z15 Z15' h15 => ?_)
  refine dlet_Z (P := ym) (ym_u h15 (by simp only [e0_2]) rfl) (fun Z16 Z16' h16 => ?_)
  refine dlet_Z (P := ym) (ym_u h16 (by simp only [e0_2]) (by simp only [e9_2])) (fun Z21 Z21' h21 => ?_)
  refine dlet_Z (P := ym) (ym_u h21 (by simp only [e0_2]) rfl) (fun Z22 Z22' h22 => ?_)
  have e22_2 : ∀ a, Z22 2 0 0 a = Z22' 2 0 0 a := h22.1
  refine dlet_Z (P := ym) (ym_u h22 (by simp only [e0_2]) (by simp only [e22_2])) (fun Z24 Z24' h24 => ?_)
  have e24_2 : ∀ a, Z24 2 0 0 a = Z24' 2 0 0 a := h24.1
  refine dlet_Z (P := ym) (ym_u h24 (by simp only [e0_2]) (by simp only [e24_2])) (fun Z26 Z26' h26 => ?_)
  have e26_2 : ∀ a, Z26 2 0 0 a = Z26' 2 0 0 a := h26.1
  refine dlet_Z (P := ym) (ym_u h26 (by simp only [e0_2]) (by simp only [e26_2])) (fun Z28 Z28' h28 => ?_)
  refine dlet_Z (P := ym) (ym_u h28 (by simp only [e0_2]) rfl) (fun Z29 Z29' h29 => ?_)
  refine dlet_Z (P := ym) (ym_u h29 (by simp only [e0_2]) rfl) (fun Z30 Z30' h30 => ?_)
  refine dlet_Z (P := ym) (ym_u h30 (by simp only [e0_2]) rfl) (fun Z34 Z34' h34 => ?_)
  refine dlet_Z (P := ym) (ym_u h34 (by simp only [e0_2]) rfl) (fun Z35 Z35' h35 => ?_)
  refine dlet_Z (P := ym) (ym_u h35 (by simp only [e0_2]) rfl) (fun Z36 Z36' h36 => ?_)
  refine dlet_Z (P := ym) (ym_u h36 (by simp only [e0_2]) rfl) (fun Z37 Z37' h37 => ?_)
  have e37_2 : ∀ a, Z37 2 0 0 a = Z37' 2 0 0 a := h37.1
  refine dlet_Z (P := ym) (ym_u h37 rfl (by simp only [e37_2])) (fun Z40 Z40' h40 => ?_)
  have e40_2 : ∀ a, Z40 2 0 0 a = Z40' 2 0 0 a := h40.1
  refine dlet_Z (P := ym) (ym_u h40 rfl (by simp only [e9_2, e40_2])) (fun Z43 Z43' h43 => ?_)
  refine dlet_Z (P := ym) (dq_284 h43 (by simp only [e0_2])) (fun Z55 Z55' h55 => ?_)
  refine dlet_Z (P := ym) (dq_419 h55 (by simp only [e0_2])) (fun Z84 Z84' h84 => ?_)
  exact ⟨h84, (by simp only [e0_2])⟩
theorem dl_309_1 : ∀ (m : Nat) {Z Z' : qz_Z} {x1 x2 x3 x4 x5 x6 x7 x1' x2' x3' x4' x5' x6' x7' : Int}, x1 = x1' → x2 = x2' → x3 = x3' → x4 = x4' → x5 = x5' → ym Z Z' → x6 = x6' → x7 = x7' → dMe (ym) (zl_309_1 x1 x2 x3 x4 x5 m Z x6 x7) (zl_309_1 x1' x2' x3' x4' x5' m Z' x6' x7')
  | 0, Z, Z', x1, x2, x3, x4, x5, x6, x7, x1', x2', x3', x4', x5', x6', x7', ix1, ix2, ix3, ix4, ix5, h0, ix6, ix7 => by
    subst ix1
    subst ix2
    subst ix3
    subst ix4
    subst ix5
    subst ix6
    subst ix7
    unfold zl_309_1
    exact ⟨h0, rfl⟩
  | m + 1, Z, Z', x1, x2, x3, x4, x5, x6, x7, x1', x2', x3', x4', x5', x6', x7', ix1, ix2, ix3, ix4, ix5, h0, ix6, ix7 => by
    subst ix1
    subst ix2
    subst ix3
    subst ix4
    subst ix5
    subst ix6
    subst ix7
    have p0_286 : ∀ u1 u2 : Int, zf_286 Z u1 u2 = zf_286 Z' u1 u2 := fun u1 u2 => dq_286 h0.1 rfl rfl
    have p0_287 : ∀ u1 u2 u3 : Int, zf_287 Z u1 u2 u3 = zf_287 Z' u1 u2 u3 := fun u1 u2 u3 => dq_287 h0.1 rfl rfl rfl
    unfold zl_309_1
    refine dite rfl (fun _ => ?_) (fun _ => ?_)
    · exact ⟨h0, rfl⟩
    · refine dlet_i (by simp only [p0_286]) (fun v9 => ?_)
      refine dite rfl (fun _ => ?_) (fun _ => ?_)
      · refine dlet_i (by simp only [p0_287]) (fun v17 => ?_)
        refine dlet2 (dq_433 h0 rfl rfl rfl rfl) (fun Z21 Z21' v22 h21 => ?_)
        have e21_2 : ∀ a, Z21 2 0 0 a = Z21' 2 0 0 a := h21.1
        refine dlet_Z (P := ym) (ym_u h21 rfl (by simp only [e21_2])) (fun Z34 Z34' h34 => ?_)
        have e34_2 : ∀ a, Z34 2 0 0 a = Z34' 2 0 0 a := h34.1
        refine dlet_Z (P := ym) (ym_u h34 rfl (by simp only [e34_2])) (fun Z37 Z37' h37 => ?_)
        have e37_2 : ∀ a, Z37 2 0 0 a = Z37' 2 0 0 a := h37.1
        refine dlet_Z (P := ym) (ym_u h37 rfl (by simp only [e37_2])) (fun Z41 Z41' h41 => ?_)
        have e41_2 : ∀ a, Z41 2 0 0 a = Z41' 2 0 0 a := h41.1
        refine dite (by simp only [e41_2]) (fun _ => ?_) (fun _ => ?_)
        · refine dite (by simp only [e41_2]) (fun _ => ?_) (fun _ => ?_)
          · exact dl_309_1 m rfl rfl rfl rfl rfl h41 rfl rfl
          · exact dl_309_1 m rfl rfl rfl rfl rfl h41 (by simp only [e41_2]) rfl
        · exact dl_309_1 m rfl rfl rfl rfl rfl h41 rfl rfl
      · refine dite rfl (fun _ => ?_) (fun _ => ?_)
        · exact dl_309_1 m rfl rfl rfl rfl rfl h0 rfl rfl
        · exact dl_309_1 m rfl rfl rfl rfl rfl h0 rfl rfl
theorem dq_309 {Z Z' : qz_Z} {a1 a1' : Int} (h0 : ym Z Z') (ia1 : a1 = a1') : ym (zf_309 Z a1) (zf_309 Z' a1') := by
  subst ia1
  have e0_2 : ∀ a, Z 2 0 0 a = Z' 2 0 0 a := h0.1
  unfold zf_309
  refine dlet3 (dl_309_1 _ rfl (by simp only [e0_2]) (by simp only [e0_2]) (by simp only [e0_2]) (by simp only [e0_2]) h0 (by simp only [e0_2]) rfl) (fun Z14 Z14' y12 y13 h14 => ?_)
  refine dlet_Z (P := ym) (ym_u h14 rfl rfl) (fun Z22 Z22' h22 => ?_)
  refine dlet_Z (P := ym) (ym_u h22 rfl (by simp only [e0_2])) (fun Z23 Z23' h23 => ?_)
  have e23_2 : ∀ a, Z23 2 0 0 a = Z23' 2 0 0 a := h23.1
  refine dlet_Z (P := ym) (ym_u h23 rfl (by simp only [e23_2])) (fun Z26 Z26' h26 => ?_)
  refine dlet_Z (P := ym) (dq_312 h26 rfl rfl) (fun Z29 Z29' h29 => ?_)
  refine dlet_Z (P := ym) (ym_u h29 (by simp only [e0_2]) rfl) (fun Z41 Z41' h41 => ?_)
  exact h41
theorem dl_301_1 : ∀ (m : Nat) {Z Z' : qz_Z} {x1 x2 x1' x2' : Int}, x1 = x1' → ym Z Z' → x2 = x2' → dMe (ym) (zl_301_1 x1 m Z x2) (zl_301_1 x1' m Z' x2')
  | 0, Z, Z', x1, x2, x1', x2', ix1, h0, ix2 => by
    subst ix1
    subst ix2
    unfold zl_301_1
    exact ⟨h0, rfl⟩
  | m + 1, Z, Z', x1, x2, x1', x2', ix1, h0, ix2 => by
    subst ix1
    subst ix2
    have e0_2 : ∀ a, Z 2 0 0 a = Z' 2 0 0 a := h0.1
    unfold zl_301_1
    refine dite (by simp only [e0_2]) (fun _ => ?_) (fun _ => ?_)
    · exact ⟨h0, rfl⟩
    · refine dite (by simp only [e0_2]) (fun _ => ?_) (fun _ => ?_)
      · exact ⟨h0, rfl⟩
      · refine dite (by simp only [e0_2]) (fun _ => ?_) (fun _ => ?_)
        · exact ⟨h0, rfl⟩
        · refine dite (by simp only [e0_2]) (fun _ => ?_) (fun _ => ?_)
          · exact ⟨h0, rfl⟩
          · refine dlet_Z (P := ym) (dq_309 h0 rfl) (fun Z14 Z14' h14 => ?_)
            exact dl_301_1 m rfl h14 rfl
theorem dl_301_3 : ∀ (m : Nat) {Z Z' : qz_Z} {x1 x1' : Int}, ym Z Z' → x1 = x1' → dMe (ym) (zl_301_3 m Z x1) (zl_301_3 m Z' x1')
  | 0, Z, Z', x1, x1', h0, ix1 => by
    subst ix1
    unfold zl_301_3
    exact ⟨h0, rfl⟩
  | m + 1, Z, Z', x1, x1', h0, ix1 => by
    subst ix1
    have e0_2 : ∀ a, Z 2 0 0 a = Z' 2 0 0 a := h0.1
    unfold zl_301_3
    refine dite (by simp only [e0_2]) (fun _ => ?_) (fun _ => ?_)
    · exact ⟨h0, rfl⟩
    · refine dlet2 (dl_301_1 _ rfl h0 rfl) (fun Z4 Z4' y3 h4 => ?_)
      exact dl_301_3 m h4 rfl
theorem dq_301 {Z Z' : qz_Z} (h0 : ym Z Z') : ym (zf_301 Z) (zf_301 Z') := by
  unfold zf_301
  refine dlet2 (dl_301_3 _ h0 rfl) (fun Z2 Z2' y1 h2 => ?_)
  exact h2
theorem dl_269_1 : ∀ (m : Nat) {Z Z' : qz_Z} {x1 x2 x3 x4 x5 x6 x1' x2' x3' x4' x5' x6' : Int}, x1 = x1' → x2 = x2' → x3 = x3' → x4 = x4' → ym0 Z Z' → x5 = x5' → x6 = x6' → zl_269_1 x1 x2 x3 x4 m Z x5 x6 = zl_269_1 x1' x2' x3' x4' m Z' x5' x6'
  | 0, Z, Z', x1, x2, x3, x4, x5, x6, x1', x2', x3', x4', x5', x6', ix1, ix2, ix3, ix4, h0, ix5, ix6 => by
    subst ix1
    subst ix2
    subst ix3
    subst ix4
    subst ix5
    subst ix6
    unfold zl_269_1
    exact rfl
  | m + 1, Z, Z', x1, x2, x3, x4, x5, x6, x1', x2', x3', x4', x5', x6', ix1, ix2, ix3, ix4, h0, ix5, ix6 => by
    subst ix1
    subst ix2
    subst ix3
    subst ix4
    subst ix5
    subst ix6
    have e0_2 : ∀ a, Z 2 0 0 a = Z' 2 0 0 a := h0
    unfold zl_269_1
    refine dite (by simp only [e0_2]) (fun _ => ?_) (fun _ => ?_)
    · exact rfl
    · refine dite (by simp only [e0_2]) (fun _ => ?_) (fun _ => ?_)
      · exact dl_269_1 m rfl rfl rfl rfl h0 rfl rfl
      · refine dite (by simp only [e0_2]) (fun _ => ?_) (fun _ => ?_)
        · exact dl_269_1 m rfl rfl rfl rfl h0 rfl rfl
        · refine dite (by simp only [e0_2]) (fun _ => ?_) (fun _ => ?_)
          · exact dl_269_1 m rfl rfl rfl rfl h0 rfl rfl
          · refine dite (by simp only [e0_2]) (fun _ => ?_) (fun _ => ?_)
            · refine dite rfl (fun _ => ?_) (fun _ => ?_)
              · exact dl_269_1 m rfl rfl rfl rfl h0 rfl rfl
              · refine dite (by simp only [e0_2]) (fun _ => ?_) (fun _ => ?_)
                · exact dl_269_1 m rfl rfl rfl rfl h0 rfl rfl
                · exact dl_269_1 m rfl rfl rfl rfl h0 rfl rfl
            · refine dite (by simp only [e0_2]) (fun _ => ?_) (fun _ => ?_)
              · exact dl_269_1 m rfl rfl rfl rfl h0 rfl rfl
              · refine dite rfl (fun _ => ?_) (fun _ => ?_)
                · exact dl_269_1 m rfl rfl rfl rfl h0 rfl rfl
                · refine dite rfl (fun _ => ?_) (fun _ => ?_)
                  · exact dl_269_1 m rfl rfl rfl rfl h0 rfl rfl
                  · refine dite (by simp only [e0_2]) (fun _ => ?_) (fun _ => ?_)
                    · exact dl_269_1 m rfl rfl rfl rfl h0 rfl rfl
                    · exact dl_269_1 m rfl rfl rfl rfl h0 rfl rfl
theorem dq_269 {Z Z' : qz_Z} {a1 a2 a3 a4 a1' a2' a3' a4' : Int} (h0 : ym0 Z Z') (ia1 : a1 = a1') (ia2 : a2 = a2') (ia3 : a3 = a3') (ia4 : a4 = a4') : zf_269 Z a1 a2 a3 a4 = zf_269 Z' a1' a2' a3' a4' := by
  subst ia1
  subst ia2
  subst ia3
  subst ia4
  unfold zf_269
  refine dlet2e (dl_269_1 _ rfl rfl rfl rfl h0 rfl rfl) (fun y1 y2 => ?_)
  exact rfl
theorem dl_281_1 : ∀ (m : Nat) {Z Z' : qz_Z} {x1 x2 x3 x1' x2' x3' : Int}, x1 = x1' → x2 = x2' → ym Z Z' → x3 = x3' → dMe (ym) (zl_281_1 x1 x2 m Z x3) (zl_281_1 x1' x2' m Z' x3')
  | 0, Z, Z', x1, x2, x3, x1', x2', x3', ix1, ix2, h0, ix3 => by
    subst ix1
    subst ix2
    subst ix3
    unfold zl_281_1
    exact ⟨h0, rfl⟩
  | m + 1, Z, Z', x1, x2, x3, x1', x2', x3', ix1, ix2, h0, ix3 => by
    subst ix1
    subst ix2
    subst ix3
    have e0_2 : ∀ a, Z 2 0 0 a = Z' 2 0 0 a := h0.1
    unfold zl_281_1
    refine dite rfl (fun _ => ?_) (fun _ => ?_)
    · exact ⟨h0, rfl⟩
    · refine dite (by simp only [e0_2]) (fun _ => ?_) (fun _ => ?_)
      · refine dlet_Z (P := ym) (ym_u h0 rfl (by simp only [e0_2])) (fun Z8 Z8' h8 => ?_)
        have e8_2 : ∀ a, Z8 2 0 0 a = Z8' 2 0 0 a := h8.1
        refine dlet_Z (P := ym) (ym_u h8 rfl (by simp only [e0_2, e8_2])) (fun Z12 Z12' h12 => ?_)
        have e12_2 : ∀ a, Z12 2 0 0 a = Z12' 2 0 0 a := h12.1
        refine dite (by simp only [e12_2]) (fun _ => ?_) (fun _ => ?_)
        · refine dlet_Z (P := ym) (ym_u h12 rfl (by simp only [e12_2])) (fun Z17 Z17' h17 => ?_)
          have e17_2 : ∀ a, Z17 2 0 0 a = Z17' 2 0 0 a := h17.1
          have p17_269 : ∀ u1 u2 u3 u4 : Int, zf_269 Z17 u1 u2 u3 u4 = zf_269 Z17' u1 u2 u3 u4 := fun u1 u2 u3 u4 => dq_269 h17.1 rfl rfl rfl rfl
          refine dlet_i (by simp only [e17_2, p17_269]) (fun v21 => ?_)
          exact dl_281_1 m rfl rfl h17 rfl
        · refine dlet_Z (P := ym) (ym_u h12 rfl rfl) (fun Z25 Z25' h25 => ?_)
          have e25_2 : ∀ a, Z25 2 0 0 a = Z25' 2 0 0 a := h25.1
          have p25_269 : ∀ u1 u2 u3 u4 : Int, zf_269 Z25 u1 u2 u3 u4 = zf_269 Z25' u1 u2 u3 u4 := fun u1 u2 u3 u4 => dq_269 h25.1 rfl rfl rfl rfl
          refine dlet_i (by simp only [e25_2, p25_269]) (fun v29 => ?_)
          exact dl_281_1 m rfl rfl h25 rfl
      · refine dlet_Z (P := ym) (ym_u h0 rfl (by simp only [e0_2])) (fun Z33 Z33' h33 => ?_)
        have e33_2 : ∀ a, Z33 2 0 0 a = Z33' 2 0 0 a := h33.1
        refine dlet_Z (P := ym) (ym_u h33 rfl (by simp only [e0_2, e33_2])) (fun Z37 Z37' h37 => ?_)
        have e37_2 : ∀ a, Z37 2 0 0 a = Z37' 2 0 0 a := h37.1
        refine dite (by simp only [e37_2]) (fun _ => ?_) (fun _ => ?_)
        · refine dlet_Z (P := ym) (ym_u h37 rfl (by simp only [e37_2])) (fun Z42 Z42' h42 => ?_)
          have e42_2 : ∀ a, Z42 2 0 0 a = Z42' 2 0 0 a := h42.1
          have p42_269 : ∀ u1 u2 u3 u4 : Int, zf_269 Z42 u1 u2 u3 u4 = zf_269 Z42' u1 u2 u3 u4 := fun u1 u2 u3 u4 => dq_269 h42.1 rfl rfl rfl rfl
          refine dlet_i (by simp only [e42_2, p42_269]) (fun v46 => ?_)
          exact dl_281_1 m rfl rfl h42 rfl
        · refine dlet_Z (P := ym) (ym_u h37 rfl rfl) (fun Z50 Z50' h50 => ?_)
          have e50_2 : ∀ a, Z50 2 0 0 a = Z50' 2 0 0 a := h50.1
          have p50_269 : ∀ u1 u2 u3 u4 : Int, zf_269 Z50 u1 u2 u3 u4 = zf_269 Z50' u1 u2 u3 u4 := fun u1 u2 u3 u4 => dq_269 h50.1 rfl rfl rfl rfl
          refine dlet_i (by simp only [e50_2, p50_269]) (fun v54 => ?_)
          exact dl_281_1 m rfl rfl h50 rfl
theorem dq_281 {Z Z' : qz_Z} {a1 a2 a1' a2' : Int} (h0 : ym Z Z') (ia1 : a1 = a1') (ia2 : a2 = a2') : ym (zf_281 Z a1 a2) (zf_281 Z' a1' a2') := by
  subst ia1
  subst ia2
  unfold zf_281
  refine dlet_Z (P := ym) (ym_u h0 rfl rfl) (fun Z1 Z1' h1 => ?_)
  have p1_269 : ∀ u1 u2 u3 u4 : Int, zf_269 Z1 u1 u2 u3 u4 = zf_269 Z1' u1 u2 u3 u4 := fun u1 u2 u3 u4 => dq_269 h1.1 rfl rfl rfl rfl
  refine dlet_i (by simp only [p1_269]) (fun v2 => ?_)
  refine dlet2 (dl_281_1 _ rfl rfl h1 rfl) (fun Z7 Z7' y6 h7 => ?_)
  exact h7
theorem dl_265_1 : ∀ (m : Nat) {Z Z' : qz_Z} {x1 x2 x1' x2' : Int}, x1 = x1' → ym Z Z' → x2 = x2' → dMe (ym) (zl_265_1 x1 m Z x2) (zl_265_1 x1' m Z' x2')
  | 0, Z, Z', x1, x2, x1', x2', ix1, h0, ix2 => by
    subst ix1
    subst ix2
    unfold zl_265_1
    exact ⟨h0, rfl⟩
  | m + 1, Z, Z', x1, x2, x1', x2', ix1, h0, ix2 => by
    subst ix1
    subst ix2
    have e0_2 : ∀ a, Z 2 0 0 a = Z' 2 0 0 a := h0.1
    unfold zl_265_1
    refine dite (by simp only [e0_2]) (fun _ => ?_) (fun _ => ?_)
    · exact ⟨h0, rfl⟩
    · refine dlet_Z (P := ym) (dq_281 h0 rfl rfl) (fun Z3 Z3' h3 => ?_)
      exact dl_265_1 m rfl h3 rfl
theorem dl_265_2 : ∀ (m : Nat) {Z Z' : qz_Z} {x2 x2' : Int}, ym Z Z' → x2 = x2' → dMe (ym) (zl_265_2 m Z x2) (zl_265_2 m Z' x2')
  | 0, Z, Z', x2, x2', h0, ix2 => by
    subst ix2
    unfold zl_265_2
    exact ⟨h0, rfl⟩
  | m + 1, Z, Z', x2, x2', h0, ix2 => by
    subst ix2
    have e0_2 : ∀ a, Z 2 0 0 a = Z' 2 0 0 a := h0.1
    unfold zl_265_2
    refine dite (by simp only [e0_2]) (fun _ => ?_) (fun _ => ?_)
    · exact ⟨h0, rfl⟩
    · refine dite (by simp only [e0_2]) (fun _ => ?_) (fun _ => ?_)
      · exact dl_265_2 m h0 rfl
      · refine dite (by simp only [e0_2]) (fun _ => ?_) (fun _ => ?_)
        · exact dl_265_2 m h0 rfl
        · refine dlet_Z (P := ym) (ym_u h0 rfl (by simp only [e0_2])) (fun Z12 Z12' h12 => ?_)
          exact dl_265_2 m h12 rfl
theorem dq_265 {Z Z' : qz_Z} {a1 a1' : Int} (h0 : ym Z Z') (ia1 : a1 = a1') : ym (zf_265 Z a1) (zf_265 Z' a1') := by
  subst ia1
  unfold zf_265
  refine dlet2 (dl_265_1 _ rfl h0 rfl) (fun Z2 Z2' y1 h2 => ?_)
  refine dlet2 (dl_265_2 _ h2 rfl) (fun Z5 Z5' y4 h5 => ?_)
  exact h5
theorem dl_492_1 : ∀ (m : Nat) {Z Z' : qz_Z} {x1 x2 x1' x2' : Int}, ym0 Z Z' → x1 = x1' → x2 = x2' → zl_492_1 m Z x1 x2 = zl_492_1 m Z' x1' x2'
  | 0, Z, Z', x1, x2, x1', x2', h0, ix1, ix2 => by
    subst ix1
    subst ix2
    unfold zl_492_1
    exact rfl
  | m + 1, Z, Z', x1, x2, x1', x2', h0, ix1, ix2 => by
    subst ix1
    subst ix2
    have e0_2 : ∀ a, Z 2 0 0 a = Z' 2 0 0 a := h0
    unfold zl_492_1
    refine dite (by simp only [e0_2]) (fun _ => ?_) (fun _ => ?_)
    · exact rfl
    · exact dl_492_1 m h0 (by simp only [e0_2]) rfl
theorem dq_492 {Z Z' : qz_Z} (h0 : ym0 Z Z') : zf_492 Z = zf_492 Z' := by
  unfold zf_492
  refine dlet2e (dl_492_1 _ h0 rfl rfl) (fun y1 y2 => ?_)
  exact rfl
theorem dl_463_1 : ∀ (m : Nat) {Z Z' : qz_Z} {x1 x1' : Int}, ym Z Z' → x1 = x1' → dMe (ym) (zl_463_1 m Z x1) (zl_463_1 m Z' x1')
  | 0, Z, Z', x1, x1', h0, ix1 => by
    subst ix1
    unfold zl_463_1
    exact ⟨h0, rfl⟩
  | m + 1, Z, Z', x1, x1', h0, ix1 => by
    subst ix1
    have e0_2 : ∀ a, Z 2 0 0 a = Z' 2 0 0 a := h0.1
    unfold zl_463_1
    refine dite (by simp only [e0_2]) (fun _ => ?_) (fun _ => ?_)
    · exact ⟨h0, rfl⟩
    · refine dlet_Z (P := ym) (ym_u h0 rfl rfl) (fun Z3 Z3' h3 => ?_)
      exact dl_463_1 m h3 rfl
theorem dq_463 {Z Z' : qz_Z} (h0 : ym Z Z') : ym (zf_463 Z) (zf_463 Z') := by
  unfold zf_463
  refine dlet2 (dl_463_1 _ h0 rfl) (fun Z2 Z2' y1 h2 => ?_)
  exact h2
theorem dq_421 {Z Z' : qz_Z} {a1 a1' : Int} (h0 : ym0 Z Z') (ia1 : a1 = a1') : zf_421 Z a1 = zf_421 Z' a1' := by
  subst ia1
  have e0_2 : ∀ a, Z 2 0 0 a = Z' 2 0 0 a := h0
  unfold zf_421
  refine dite (by simp only [e0_2]) (fun _ => ?_) (fun _ => ?_)
  · refine dite (by simp only [e0_2]) (fun _ => ?_) (fun _ => ?_)
    · refine dite (by simp only [e0_2]) (fun _ => ?_) (fun _ => ?_)
      · exact rfl
      · exact rfl
    · exact rfl
  · exact rfl
theorem dq_398 {Z Z' : qz_Z} {a1 a2 a1' a2' : Int} (h0 : ym0 Z Z') (ia1 : a1 = a1') (ia2 : a2 = a2') : zf_398 Z a1 a2 = zf_398 Z' a1' a2' := by
  subst ia1
  subst ia2
  have e0_2 : ∀ a, Z 2 0 0 a = Z' 2 0 0 a := h0
  have p0_421 : ∀ u1 : Int, zf_421 Z u1 = zf_421 Z' u1 := fun u1 => dq_421 h0 rfl
  unfold zf_398
  refine dite rfl (fun _ => ?_) (fun _ => ?_)
  · refine dite rfl (fun _ => ?_) (fun _ => ?_)
    · refine dite rfl (fun _ => ?_) (fun _ => ?_)
      · refine dite (by simp only [e0_2]) (fun _ => ?_) (fun _ => ?_)
        · exact rfl
        · exact (by simp only [e0_2])
      · refine dite (by simp only [e0_2]) (fun _ => ?_) (fun _ => ?_)
        · refine dite (by simp only [e0_2]) (fun _ => ?_) (fun _ => ?_)
          · exact (by simp only [e0_2])
          · exact (by simp only [e0_2])
        · exact rfl
    · refine dite (by simp only [e0_2]) (fun _ => ?_) (fun _ => ?_)
      · refine dite (by simp only [e0_2]) (fun _ => ?_) (fun _ => ?_)
        · refine dite (by simp only [e0_2]) (fun _ => ?_) (fun _ => ?_)
          · refine dite (by simp only [e0_2]) (fun _ => ?_) (fun _ => ?_)
            · exact rfl
            · exact (by simp only [e0_2])
          · refine dite (by simp only [e0_2]) (fun _ => ?_) (fun _ => ?_)
            · exact rfl
            · exact (by simp only [e0_2])
        · refine dite (by simp only [e0_2]) (fun _ => ?_) (fun _ => ?_)
          · exact rfl
          · exact (by simp only [e0_2])
      · refine dite (by simp only [e0_2]) (fun _ => ?_) (fun _ => ?_)
        · exact rfl
        · exact (by simp only [e0_2])
  · refine dlet_i (by simp only [p0_421]) (fun v48 => ?_)
    refine dite rfl (fun _ => ?_) (fun _ => ?_)
    · refine dite rfl (fun _ => ?_) (fun _ => ?_)
      · exact (by simp only [e0_2])
      · exact rfl
    · exact (by simp only [e0_2])
theorem dq_416 {Z Z' : qz_Z} {a1 a2 a1' a2' : Int} (h0 : ym0 Z Z') (ia1 : a1 = a1') (ia2 : a2 = a2') : zf_416 Z a1 a2 = zf_416 Z' a1' a2' := by
  subst ia1
  subst ia2
  have e0_2 : ∀ a, Z 2 0 0 a = Z' 2 0 0 a := h0
  have p0_421 : ∀ u1 : Int, zf_421 Z u1 = zf_421 Z' u1 := fun u1 => dq_421 h0 rfl
  unfold zf_416
  refine dlet_i (by simp only [p0_421]) (fun v4 => ?_)
  refine dite rfl (fun _ => ?_) (fun _ => ?_)
  · refine dite rfl (fun _ => ?_) (fun _ => ?_)
    · refine dite rfl (fun _ => ?_) (fun _ => ?_)
      · exact (by simp only [e0_2])
      · exact (by simp only [e0_2])
    · refine dite (by simp only [e0_2]) (fun _ => ?_) (fun _ => ?_)
      · exact rfl
      · exact (by simp only [e0_2])
  · refine dite rfl (fun _ => ?_) (fun _ => ?_)
    · exact rfl
    · exact rfl
theorem dq_423 {Z Z' : qz_Z} {a1 a2 a3 a1' a2' a3' : Int} (h0 : ym0 Z Z') (ia1 : a1 = a1') (ia2 : a2 = a2') (ia3 : a3 = a3') : zf_423 Z a1 a2 a3 = zf_423 Z' a1' a2' a3' := by
  subst ia1
  subst ia2
  subst ia3
  have e0_2 : ∀ a, Z 2 0 0 a = Z' 2 0 0 a := h0
  have p0_416 : ∀ u1 u2 : Int, zf_416 Z u1 u2 = zf_416 Z' u1 u2 := fun u1 u2 => dq_416 h0 rfl rfl
  unfold zf_423
  refine dite rfl (fun _ => ?_) (fun _ => ?_)
  · refine dite rfl (fun _ => ?_) (fun _ => ?_)
    · refine dite rfl (fun _ => ?_) (fun _ => ?_)
      · refine dite rfl (fun _ => ?_) (fun _ => ?_)
        · refine dite rfl (fun _ => ?_) (fun _ => ?_)
          · exact (by simp only [e0_2])
          · exact (by simp only [e0_2])
        · refine dite rfl (fun _ => ?_) (fun _ => ?_)
          · exact (by simp only [e0_2])
          · exact (by simp only [e0_2])
      · exact rfl
    · refine dite rfl (fun _ => ?_) (fun _ => ?_)
      · exact rfl
      · exact rfl
  · refine dlet_i (by simp only [p0_416]) (fun v16 => ?_)
    exact rfl
theorem dl_418_1 : ∀ (m : Nat) {Z Z' : qz_Z} {x0 x1 x2 x3 x4 x5 x6 x7 x8 x9 x0' x1' x2' x3' x4' x5' x6' x7' x8' x9' : Int}, x0 = x0' → x1 = x1' → x2 = x2' → x3 = x3' → x4 = x4' → x5 = x5' → x6 = x6' → x7 = x7' → ym0 Z Z' → x8 = x8' → x9 = x9' → zl_418_1 x0 x1 x2 x3 x4 x5 x6 x7 m Z x8 x9 = zl_418_1 x0' x1' x2' x3' x4' x5' x6' x7' m Z' x8' x9'
  | 0, Z, Z', x0, x1, x2, x3, x4, x5, x6, x7, x8, x9, x0', x1', x2', x3', x4', x5', x6', x7', x8', x9', ix0, ix1, ix2, ix3, ix4, ix5, ix6, ix7, h0, ix8, ix9 => by
    subst ix0
    subst ix1
    subst ix2
    subst ix3
    subst ix4
    subst ix5
    subst ix6
    subst ix7
    subst ix8
    subst ix9
    unfold zl_418_1
    exact rfl
  | m + 1, Z, Z', x0, x1, x2, x3, x4, x5, x6, x7, x8, x9, x0', x1', x2', x3', x4', x5', x6', x7', x8', x9', ix0, ix1, ix2, ix3, ix4, ix5, ix6, ix7, h0, ix8, ix9 => by
    subst ix0
    subst ix1
    subst ix2
    subst ix3
    subst ix4
    subst ix5
    subst ix6
    subst ix7
    subst ix8
    subst ix9
    unfold zl_418_1
    refine dite rfl (fun _ => ?_) (fun _ => ?_)
    · exact rfl
    · refine dite rfl (fun _ => ?_) (fun _ => ?_)
      · refine dite rfl (fun _ => ?_) (fun _ => ?_)
        · refine dite rfl (fun _ => ?_) (fun _ => ?_)
          · exact dl_418_1 m rfl rfl rfl rfl rfl rfl rfl rfl h0 rfl rfl
          · refine dite rfl (fun _ => ?_) (fun _ => ?_)
            · exact dl_418_1 m rfl rfl rfl rfl rfl rfl rfl rfl h0 rfl rfl
            · refine dite rfl (fun _ => ?_) (fun _ => ?_)
              · exact dl_418_1 m rfl rfl rfl rfl rfl rfl rfl rfl h0 rfl rfl
              · exact dl_418_1 m rfl rfl rfl rfl rfl rfl rfl rfl h0 rfl rfl
        · refine dite rfl (fun _ => ?_) (fun _ => ?_)
          · exact dl_418_1 m rfl rfl rfl rfl rfl rfl rfl rfl h0 rfl rfl
          · refine dite rfl (fun _ => ?_) (fun _ => ?_)
            · exact dl_418_1 m rfl rfl rfl rfl rfl rfl rfl rfl h0 rfl rfl
            · refine dite rfl (fun _ => ?_) (fun _ => ?_)
              · exact dl_418_1 m rfl rfl rfl rfl rfl rfl rfl rfl h0 rfl rfl
              · refine dite rfl (fun _ => ?_) (fun _ => ?_)
                · exact dl_418_1 m rfl rfl rfl rfl rfl rfl rfl rfl h0 rfl rfl
                · exact dl_418_1 m rfl rfl rfl rfl rfl rfl rfl rfl h0 rfl rfl
      · refine dite rfl (fun _ => ?_) (fun _ => ?_)
        · exact dl_418_1 m rfl rfl rfl rfl rfl rfl rfl rfl h0 rfl rfl
        · refine dite rfl (fun _ => ?_) (fun _ => ?_)
          · exact dl_418_1 m rfl rfl rfl rfl rfl rfl rfl rfl h0 rfl rfl
          · refine dite rfl (fun _ => ?_) (fun _ => ?_)
            · exact dl_418_1 m rfl rfl rfl rfl rfl rfl rfl rfl h0 rfl rfl
            · exact dl_418_1 m rfl rfl rfl rfl rfl rfl rfl rfl h0 rfl rfl
theorem dq_418 {Z Z' : qz_Z} {a0 a1 a2 a3 a4 a0' a1' a2' a3' a4' : Int} (h0 : ym0 Z Z') (ia0 : a0 = a0') (ia1 : a1 = a1') (ia2 : a2 = a2') (ia3 : a3 = a3') (ia4 : a4 = a4') : zf_418 Z a0 a1 a2 a3 a4 = zf_418 Z' a0' a1' a2' a3' a4' := by
  subst ia0
  subst ia1
  subst ia2
  subst ia3
  subst ia4
  unfold zf_418
  refine dite rfl (fun _ => ?_) (fun _ => ?_)
  · refine dite rfl (fun _ => ?_) (fun _ => ?_)
    · refine dlet2e (dl_418_1 _ rfl rfl rfl rfl rfl rfl rfl rfl h0 rfl rfl) (fun y12 y13 => ?_)
      refine dite rfl (fun _ => ?_) (fun _ => ?_)
      · exact rfl
      · exact rfl
    · refine dlet2e (dl_418_1 _ rfl rfl rfl rfl rfl rfl rfl rfl h0 rfl rfl) (fun y26 y27 => ?_)
      refine dite rfl (fun _ => ?_) (fun _ => ?_)
      · exact rfl
      · exact rfl
  · refine dlet2e (dl_418_1 _ rfl rfl rfl rfl rfl rfl rfl rfl h0 rfl rfl) (fun y40 y41 => ?_)
    refine dite rfl (fun _ => ?_) (fun _ => ?_)
    · exact rfl
    · exact rfl
theorem dl_408_1 : ∀ (m : Nat) {Z Z' : qz_Z} {x1 x2 x3 x4 x5 x6 x1' x2' x3' x4' x5' x6' : Int}, x1 = x1' → x2 = x2' → x3 = x3' → x4 = x4' → x5 = x5' → ym Z Z' → x6 = x6' → dMe (ym) (zl_408_1 x1 x2 x3 x4 x5 m Z x6) (zl_408_1 x1' x2' x3' x4' x5' m Z' x6')
  | 0, Z, Z', x1, x2, x3, x4, x5, x6, x1', x2', x3', x4', x5', x6', ix1, ix2, ix3, ix4, ix5, h0, ix6 => by
    subst ix1
    subst ix2
    subst ix3
    subst ix4
    subst ix5
    subst ix6
    unfold zl_408_1
    exact ⟨h0, rfl⟩
  | m + 1, Z, Z', x1, x2, x3, x4, x5, x6, x1', x2', x3', x4', x5', x6', ix1, ix2, ix3, ix4, ix5, h0, ix6 => by
    subst ix1
    subst ix2
    subst ix3
    subst ix4
    subst ix5
    subst ix6
    have p0_418 : ∀ u1 u2 u3 u4 u5 : Int, zf_418 Z u1 u2 u3 u4 u5 = zf_418 Z' u1 u2 u3 u4 u5 := fun u1 u2 u3 u4 u5 => dq_418 h0.1 rfl rfl rfl rfl rfl
    have p0_423 : ∀ u1 u2 u3 : Int, zf_423 Z u1 u2 u3 = zf_423 Z' u1 u2 u3 := fun u1 u2 u3 => dq_423 h0.1 rfl rfl rfl
    unfold zl_408_1
    refine dite rfl (fun _ => ?_) (fun _ => ?_)
    · exact ⟨h0, rfl⟩
    · refine dlet_i (by simp only [p0_423]) (fun v10 => ?_)
      refine dlet_i (by simp only [p0_423]) (fun v12 => ?_)
      refine dlet_i (by simp only [p0_423]) (fun v14 => ?_)
      refine dite rfl (fun _ => ?_) (fun _ => ?_)
      · refine dlet_i (by simp only [p0_418]) (fun v17 => ?_)
        refine dlet_Z (P := ym) (ym_u h0 rfl rfl) (fun Z18 Z18' h18 => ?_)
        exact dl_408_1 m rfl rfl rfl rfl rfl h18 rfl
      · refine dlet_i (by simp only [p0_418]) (fun v35 => ?_)
        refine dlet_Z (P := ym) (ym_u h0 rfl rfl) (fun Z36 Z36' h36 => ?_)
        exact dl_408_1 m rfl rfl rfl rfl rfl h36 rfl
theorem dq_272 {Z Z' : qz_Z} {a1 a2 a1' a2' : Int} (h0 : ym Z Z') (ia1 : a1 = a1') (ia2 : a2 = a2') : ym (zf_272 Z a1 a2) (zf_272 Z' a1' a2') := by
  subst ia1
  subst ia2
  have e0_2 : ∀ a, Z 2 0 0 a = Z' 2 0 0 a := h0.1
  unfold zf_272
  refine dite (by simp only [e0_2]) (fun _ => ?_) (fun _ => ?_)
  · refine dlet_Z (P := ym) (ym_u h0 rfl (by simp only [e0_2])) (fun Z3 Z3' h3 => ?_)
    have e3_2 : ∀ a, Z3 2 0 0 a = Z3' 2 0 0 a := h3.1
    refine dlet_Z (P := ym) (ym_u h3 (by simp only [e0_2]) (by simp only [e0_2, e3_2])) (fun Z8 Z8' h8 => ?_)
    have e8_2 : ∀ a, Z8 2 0 0 a = Z8' 2 0 0 a := h8.1
    refine dlet_Z (P := ym) (ym_u h8 (by simp only [e0_2]) (by simp only [e0_2, e8_2])) (fun Z11 Z11' h11 => ?_)
    exact h11
  · refine dlet_Z (P := ym) (ym_u h0 rfl (by simp only [e0_2])) (fun Z12 Z12' h12 => ?_)
    have e12_2 : ∀ a, Z12 2 0 0 a = Z12' 2 0 0 a := h12.1
    refine dlet_Z (P := ym) (ym_u h12 (by simp only [e0_2]) (by simp only [e0_2, e12_2])) (fun Z15 Z15' h15 => ?_)
    have e15_2 : ∀ a, Z15 2 0 0 a = Z15' 2 0 0 a := h15.1
    refine dlet_Z (P := ym) (ym_u h15 (by simp only [e0_2]) (by simp only [e0_2, e15_2])) (fun Z18 Z18' h18 => ?_)
    exact h18
theorem dq_408 {Z Z' : qz_Z} {a1 a1' : Int} (h0 : ym Z Z') (ia1 : a1 = a1') : ym (zf_408 Z a1) (zf_408 Z' a1') := by
  subst ia1
  have e0_2 : ∀ a, Z 2 0 0 a = Z' 2 0 0 a := h0.1
  have p0_398 : ∀ u1 u2 : Int, zf_398 Z u1 u2 = zf_398 Z' u1 u2 := fun u1 u2 => dq_398 h0.1 rfl rfl
  unfold zf_408
  refine dlet_i (by simp only [e0_2, p0_398]) (fun v16 => ?_)
  refine dite rfl (fun _ => ?_) (fun _ => ?_)
  · refine dlet_Z (P := ym) (ym_u h0 rfl rfl) (fun Z18 Z18' h18 => ?_)
    refine dlet_Z (P := ym) (ym_u h18 rfl rfl) (fun Z19 Z19' h19 => ?_)
    refine dlet2 (dl_408_1 _ rfl (by simp only [e0_2]) (by simp only [e0_2]) (by simp only [e0_2]) rfl h19 rfl) (fun Z22 Z22' y21 h22 => ?_)
    refine dlet_Z (P := ym) (dq_272 h22 (by simp only [e0_2]) rfl) (fun Z48 Z48' h48 => ?_)
    have e48_2 : ∀ a, Z48 2 0 0 a = Z48' 2 0 0 a := h48.1
    refine dlet_Z (P := ym) (dq_403 h48 rfl rfl rfl (by simp only [e0_2])) (fun Z49 Z49' h49 => ?_)
    refine dlet_Z (P := ym) (dq_403 h49 rfl rfl (by simp only [e48_2]) (by simp only [e0_2])) (fun Z51 Z51' h51 => ?_)
    have e51_2 : ∀ a, Z51 2 0 0 a = Z51' 2 0 0 a := h51.1
    refine dlet_Z (P := ym) (ym_u h51 (by simp only [e0_2, e51_2]) (by simp only [e0_2, e48_2, e51_2])) (fun Z56 Z56' h56 => ?_)
    have e56_2 : ∀ a, Z56 2 0 0 a = Z56' 2 0 0 a := h56.1
    refine dlet_Z (P := ym) (ym_u h56 (by simp only [e0_2, e56_2]) (by simp only [e0_2, e48_2, e56_2])) (fun Z62 Z62' h62 => ?_)
    have e62_2 : ∀ a, Z62 2 0 0 a = Z62' 2 0 0 a := h62.1
    refine dlet_Z (P := ym) (dq_403 h62 rfl rfl (by simp only [e62_2]) (by simp only [e0_2])) (fun Z64 Z64' h64 => ?_)
    exact h64
  · refine dlet_Z (P := ym) (ym_u h0 rfl rfl) (fun Z65 Z65' h65 => ?_)
    exact h65
theorem dl_402_1 : ∀ (m : Nat) {Z Z' : qz_Z} {x1 x2 x1' x2' : Int}, x1 = x1' → ym Z Z' → x2 = x2' → dMe (ym) (zl_402_1 x1 m Z x2) (zl_402_1 x1' m Z' x2')
  | 0, Z, Z', x1, x2, x1', x2', ix1, h0, ix2 => by
    subst ix1
    subst ix2
    unfold zl_402_1
    exact ⟨h0, rfl⟩
  | m + 1, Z, Z', x1, x2, x1', x2', ix1, h0, ix2 => by
    subst ix1
    subst ix2
    have e0_2 : ∀ a, Z 2 0 0 a = Z' 2 0 0 a := h0.1
    unfold zl_402_1
    refine dite (by simp only [e0_2]) (fun _ => ?_) (fun _ => ?_)
    · exact ⟨h0, rfl⟩
    · refine dite (by simp only [e0_2]) (fun _ => ?_) (fun _ => ?_)
      · exact dl_402_1 m rfl h0 rfl
      · refine dlet_Z (P := ym) (dq_408 h0 rfl) (fun Z14 Z14' h14 => ?_)
        exact dl_402_1 m rfl h14 rfl
theorem dl_413_1 : ∀ (m : Nat) {Z Z' : qz_Z} {x1 x1' : Int}, ym Z Z' → x1 = x1' → dMe (ym) (zl_413_1 m Z x1) (zl_413_1 m Z' x1')
  | 0, Z, Z', x1, x1', h0, ix1 => by
    subst ix1
    unfold zl_413_1
    exact ⟨h0, rfl⟩
  | m + 1, Z, Z', x1, x1', h0, ix1 => by
    subst ix1
    have e0_2 : ∀ a, Z 2 0 0 a = Z' 2 0 0 a := h0.1
    unfold zl_413_1
    refine dite (by simp only [e0_2]) (fun _ => ?_) (fun _ => ?_)
    · exact ⟨h0, rfl⟩
    · refine dite (by simp only [e0_2]) (fun _ => ?_) (fun _ => ?_)
      · exact dl_413_1 m h0 rfl
      · refine dlet_Z (P := ym) (dq_403 h0 rfl rfl (by simp only [e0_2]) rfl) (fun Z5 Z5' h5 => ?_)
        refine dlet_Z (P := ym) (ym_u h5 rfl rfl) (fun Z6 Z6' h6 => ?_)
        have e6_2 : ∀ a, Z6 2 0 0 a = Z6' 2 0 0 a := h6.1
        refine dlet_Z (P := ym) (ym_u h6 rfl (by simp only [e0_2, e6_2])) (fun Z9 Z9' h9 => ?_)
        exact dl_413_1 m h9 rfl
theorem dq_413 {Z Z' : qz_Z} (h0 : ym Z Z') : ym (zf_413 Z) (zf_413 Z') := by
  unfold zf_413
  refine dlet2 (dl_413_1 _ h0 rfl) (fun Z2 Z2' y1 h2 => ?_)
  exact h2
theorem dq_402 {Z Z' : qz_Z} {a1 a1' : Int} (h0 : ym Z Z') (ia1 : a1 = a1') : ym (zf_402 Z a1) (zf_402 Z' a1') := by
  subst ia1
  have e0_2 : ∀ a, Z 2 0 0 a = Z' 2 0 0 a := h0.1
  have p0_492 : zf_492 Z = zf_492 Z' := dq_492 h0.1
  unfold zf_402
  refine dlet_i (by simp only [p0_492]) (fun v1 => ?_)
  refine dlet_Z (P := ym) (dq_403 h0 rfl rfl (by simp only [e0_2]) rfl) (fun Z4 Z4' h4 => ?_)
  refine dlet_Z (P := ym) (dq_463 h4) (fun Z5 Z5' h5 => ?_)
  refine dlet2 (dl_402_1 _ rfl h5 rfl) (fun Z7 Z7' y6 h7 => ?_)
  have e7_2 : ∀ a, Z7 2 0 0 a = Z7' 2 0 0 a := h7.1
  refine dite rfl (fun _ => ?_) (fun _ => ?_)
  · refine dite (by simp only [e7_2]) (fun _ => ?_) (fun _ => ?_)
    · refine dlet_Z (P := ym) (dq_403 h7 rfl rfl (by simp only [e7_2]) rfl) (fun Z13 Z13' h13 => ?_)
      have e13_2 : ∀ a, Z13 2 0 0 a = Z13' 2 0 0 a := h13.1
      refine dite (by simp only [e13_2]) (fun _ => ?_) (fun _ => ?_)
      · refine dlet_Z (P := ym) (dq_403 h13 rfl rfl (by simp only [e13_2]) rfl) (fun Z17 Z17' h17 => ?_)
        have e17_2 : ∀ a, Z17 2 0 0 a = Z17' 2 0 0 a := h17.1
        refine dite (by simp only [e17_2]) (fun _ => ?_) (fun _ => ?_)
        · refine dlet_Z (P := ym) (dq_403 h17 rfl rfl (by simp only [e17_2]) rfl) (fun Z21 Z21' h21 => ?_)
          have e21_2 : ∀ a, Z21 2 0 0 a = Z21' 2 0 0 a := h21.1
          refine dite (by simp only [e21_2]) (fun _ => ?_) (fun _ => ?_)
          · refine dlet_Z (P := ym) (dq_403 h21 rfl rfl (by simp only [e21_2]) rfl) (fun Z25 Z25' h25 => ?_)
            have e25_2 : ∀ a, Z25 2 0 0 a = Z25' 2 0 0 a := h25.1
            refine dite (by simp only [e25_2]) (fun _ => ?_) (fun _ => ?_)
            · refine dlet_Z (P := ym) (dq_403 h25 rfl rfl (by simp only [e25_2]) rfl) (fun Z29 Z29' h29 => ?_)
              have e29_2 : ∀ a, Z29 2 0 0 a = Z29' 2 0 0 a := h29.1
              refine dite (by simp only [e29_2]) (fun _ => ?_) (fun _ => ?_)
              · refine dlet_Z (P := ym) (dq_403 h29 rfl rfl (by simp only [e29_2]) rfl) (fun Z33 Z33' h33 => ?_)
                exact h33
              · refine dlet_Z (P := ym) (dq_403 h29 rfl rfl (by simp only [e29_2]) rfl) (fun Z34 Z34' h34 => ?_)
                exact h34
            · refine dlet_Z (P := ym) (dq_403 h25 rfl rfl (by simp only [e25_2]) rfl) (fun Z35 Z35' h35 => ?_)
              have e35_2 : ∀ a, Z35 2 0 0 a = Z35' 2 0 0 a := h35.1
              refine dite (by simp only [e35_2]) (fun _ => ?_) (fun _ => ?_)
              · refine dlet_Z (P := ym) (dq_403 h35 rfl rfl (by simp only [e35_2]) rfl) (fun Z39 Z39' h39 => ?_)
                exact h39
              · refine dlet_Z (P := ym) (dq_403 h35 rfl rfl (by simp only [e35_2]) rfl) (fun Z40 Z40' h40 => ?_)
                exact h40
          · refine dlet_Z (P := ym) (dq_403 h21 rfl rfl (by simp only [e21_2]) rfl) (fun Z41 Z41' h41 => ?_)
            have e41_2 : ∀ a, Z41 2 0 0 a = Z41' 2 0 0 a := h41.1
            refine dite (by simp only [e41_2]) (fun _ => ?_) (fun _ => ?_)
            · refine dlet_Z (P := ym) (dq_403 h41 rfl rfl (by simp only [e41_2]) rfl) (fun Z45 Z45' h45 => ?_)
              have e45_2 : ∀ a, Z45 2 0 0 a = Z45' 2 0 0 a := h45.1
              refine dite (by simp only [e45_2]) (fun _ => ?_) (fun _ => ?_)
              · refine dlet_Z (P := ym) (dq_403 h45 rfl rfl (by simp only [e45_2]) rfl) (fun Z49 Z49' h49 => ?_)
                exact h49
              · refine dlet_Z (P := ym) (dq_403 h45 rfl rfl (by simp only [e45_2]) rfl) (fun Z50 Z50' h50 => ?_)
                exact h50
            · refine dlet_Z (P := ym) (dq_403 h41 rfl rfl (by simp only [e41_2]) rfl) (fun Z51 Z51' h51 => ?_)
              have e51_2 : ∀ a, Z51 2 0 0 a = Z51' 2 0 0 a := h51.1
              refine dite (by simp only [e51_2]) (fun _ => ?_) (fun _ => ?_)
              · refine dlet_Z (P := ym) (dq_403 h51 rfl rfl (by simp only [e51_2]) rfl) (fun Z55 Z55' h55 => ?_)
                exact h55
              · refine dlet_Z (P := ym) (dq_403 h51 rfl rfl (by simp only [e51_2]) rfl) (fun Z56 Z56' h56 => ?_)
                exact h56
        · refine dlet_Z (P := ym) (dq_403 h17 rfl rfl (by simp only [e17_2]) rfl) (fun Z57 Z57' h57 => ?_)
          have e57_2 : ∀ a, Z57 2 0 0 a = Z57' 2 0 0 a := h57.1
          refine dite (by simp only [e57_2]) (fun _ => ?_) (fun _ => ?_)
          · refine dlet_Z (P := ym) (dq_403 h57 rfl rfl (by simp only [e57_2]) rfl) (fun Z61 Z61' h61 => ?_)
            have e61_2 : ∀ a, Z61 2 0 0 a = Z61' 2 0 0 a := h61.1
            refine dite (by simp only [e61_2]) (fun _ => ?_) (fun _ => ?_)
            · refine dlet_Z (P := ym) (dq_403 h61 rfl rfl (by simp only [e61_2]) rfl) (fun Z65 Z65' h65 => ?_)
              have e65_2 : ∀ a, Z65 2 0 0 a = Z65' 2 0 0 a := h65.1
              refine dite (by simp only [e65_2]) (fun _ => ?_) (fun _ => ?_)
              · refine dlet_Z (P := ym) (dq_403 h65 rfl rfl (by simp only [e65_2]) rfl) (fun Z69 Z69' h69 => ?_)
                exact h69
              · refine dlet_Z (P := ym) (dq_403 h65 rfl rfl (by simp only [e65_2]) rfl) (fun Z70 Z70' h70 => ?_)
                exact h70
            · refine dlet_Z (P := ym) (dq_403 h61 rfl rfl (by simp only [e61_2]) rfl) (fun Z71 Z71' h71 => ?_)
              have e71_2 : ∀ a, Z71 2 0 0 a = Z71' 2 0 0 a := h71.1
              refine dite (by simp only [e71_2]) (fun _ => ?_) (fun _ => ?_)
              · refine dlet_Z (P := ym) (dq_403 h71 rfl rfl (by simp only [e71_2]) rfl) (fun Z75 Z75' h75 => ?_)
                exact h75
              · refine dlet_Z (P := ym) (dq_403 h71 rfl rfl (by simp only [e71_2]) rfl) (fun Z76 Z76' h76 => ?_)
                exact h76
          · refine dlet_Z (P := ym) (dq_403 h57 rfl rfl (by simp only [e57_2]) rfl) (fun Z77 Z77' h77 => ?_)
            have e77_2 : ∀ a, Z77 2 0 0 a = Z77' 2 0 0 a := h77.1
            refine dite (by simp only [e77_2]) (fun _ => ?_) (fun _ => ?_)
            · refine dlet_Z (P := ym) (dq_403 h77 rfl rfl (by simp only [e77_2]) rfl) (fun Z81 Z81' h81 => ?_)
              have e81_2 : ∀ a, Z81 2 0 0 a = Z81' 2 0 0 a := h81.1
              refine dite (by simp only [e81_2]) (fun _ => ?_) (fun _ => ?_)
              · refine dlet_Z (P := ym) (dq_403 h81 rfl rfl (by simp only [e81_2]) rfl) (fun Z85 Z85' h85 => ?_)
                exact h85
              · refine dlet_Z (P := ym) (dq_403 h81 rfl rfl (by simp only [e81_2]) rfl) (fun Z86 Z86' h86 => ?_)
                exact h86
            · refine dlet_Z (P := ym) (dq_403 h77 rfl rfl (by simp only [e77_2]) rfl) (fun Z87 Z87' h87 => ?_)
              have e87_2 : ∀ a, Z87 2 0 0 a = Z87' 2 0 0 a := h87.1
              refine dite (by simp only [e87_2]) (fun _ => ?_) (fun _ => ?_)
              · refine dlet_Z (P := ym) (dq_403 h87 rfl rfl (by simp only [e87_2]) rfl) (fun Z91 Z91' h91 => ?_)
                exact h91
              · refine dlet_Z (P := ym) (dq_403 h87 rfl rfl (by simp only [e87_2]) rfl) (fun Z92 Z92' h92 => ?_)
                exact h92
      · refine dlet_Z (P := ym) (dq_403 h13 rfl rfl (by simp only [e13_2]) rfl) (fun Z93 Z93' h93 => ?_)
        have e93_2 : ∀ a, Z93 2 0 0 a = Z93' 2 0 0 a := h93.1
        refine dite (by simp only [e93_2]) (fun _ => ?_) (fun _ => ?_)
        · refine dlet_Z (P := ym) (dq_403 h93 rfl rfl (by simp only [e93_2]) rfl) (fun Z97 Z97' h97 => ?_)
          have e97_2 : ∀ a, Z97 2 0 0 a = Z97' 2 0 0 a := h97.1
          refine dite (by simp only [e97_2]) (fun _ => ?_) (fun _ => ?_)
          · refine dlet_Z (P := ym) (dq_403 h97 rfl rfl (by simp only [e97_2]) rfl) (fun Z101 Z101' h101 => ?_)
            have e101_2 : ∀ a, Z101 2 0 0 a = Z101' 2 0 0 a := h101.1
            refine dite (by simp only [e101_2]) (fun _ => ?_) (fun _ => ?_)
            · refine dlet_Z (P := ym) (dq_403 h101 rfl rfl (by simp only [e101_2]) rfl) (fun Z105 Z105' h105 => ?_)
              have e105_2 : ∀ a, Z105 2 0 0 a = Z105' 2 0 0 a := h105.1
              refine dite (by simp only [e105_2]) (fun _ => ?_) (fun _ => ?_)
              · refine dlet_Z (P := ym) (dq_403 h105 rfl rfl (by simp only [e105_2]) rfl) (fun Z109 Z109' h109 => ?_)
                exact h109
              · refine dlet_Z (P := ym) (dq_403 h105 rfl rfl (by simp only [e105_2]) rfl) (fun Z110 Z110' h110 => ?_)
                exact h110
            · refine dlet_Z (P := ym) (dq_403 h101 rfl rfl (by simp only [e101_2]) rfl) (fun Z111 Z111' h111 => ?_)
              have e111_2 : ∀ a, Z111 2 0 0 a = Z111' 2 0 0 a := h111.1
              refine dite (by simp only [e111_2]) (fun _ => ?_) (fun _ => ?_)
              · refine dlet_Z (P := ym) (dq_403 h111 rfl rfl (by simp only [e111_2]) rfl) (fun Z115 Z115' h115 => ?_)
                exact h115
              · refine dlet_Z (P := ym) (dq_403 h111 rfl rfl (by simp only [e111_2]) rfl) (fun Z116 Z116' h116 => ?_)
                exact h116
          · refine dlet_Z (P := ym) (dq_403 h97 rfl rfl (by simp only [e97_2]) rfl) (fun Z117 Z117' h117 => ?_)
            have e117_2 : ∀ a, Z117 2 0 0 a = Z117' 2 0 0 a := h117.1
            refine dite (by simp only [e117_2]) (fun _ => ?_) (fun _ => ?_)
            · refine dlet_Z (P := ym) (dq_403 h117 rfl rfl (by simp only [e117_2]) rfl) (fun Z121 Z121' h121 => ?_)
              have e121_2 : ∀ a, Z121 2 0 0 a = Z121' 2 0 0 a := h121.1
              refine dite (by simp only [e121_2]) (fun _ => ?_) (fun _ => ?_)
              · refine dlet_Z (P := ym) (dq_403 h121 rfl rfl (by simp only [e121_2]) rfl) (fun Z125 Z125' h125 => ?_)
                exact h125
              · refine dlet_Z (P := ym) (dq_403 h121 rfl rfl (by simp only [e121_2]) rfl) (fun Z126 Z126' h126 => ?_)
                exact h126
            · refine dlet_Z (P := ym) (dq_403 h117 rfl rfl (by simp only [e117_2]) rfl) (fun Z127 Z127' h127 => ?_)
              have e127_2 : ∀ a, Z127 2 0 0 a = Z127' 2 0 0 a := h127.1
              refine dite (by simp only [e127_2]) (fun _ => ?_) (fun _ => ?_)
              · refine dlet_Z (P := ym) (dq_403 h127 rfl rfl (by simp only [e127_2]) rfl) (fun Z131 Z131' h131 => ?_)
                exact h131
              · refine dlet_Z (P := ym) (dq_403 h127 rfl rfl (by simp only [e127_2]) rfl) (fun Z132 Z132' h132 => ?_)
                exact h132
        · refine dlet_Z (P := ym) (dq_403 h93 rfl rfl (by simp only [e93_2]) rfl) (fun Z133 Z133' h133 => ?_)
          have e133_2 : ∀ a, Z133 2 0 0 a = Z133' 2 0 0 a := h133.1
          refine dite (by simp only [e133_2]) (fun _ => ?_) (fun _ => ?_)
          · refine dlet_Z (P := ym) (dq_403 h133 rfl rfl (by simp only [e133_2]) rfl) (fun Z137 Z137' h137 => ?_)
            have e137_2 : ∀ a, Z137 2 0 0 a = Z137' 2 0 0 a := h137.1
            refine dite (by simp only [e137_2]) (fun _ => ?_) (fun _ => ?_)
            · refine dlet_Z (P := ym) (dq_403 h137 rfl rfl (by simp only [e137_2]) rfl) (fun Z141 Z141' h141 => ?_)
              have e141_2 : ∀ a, Z141 2 0 0 a = Z141' 2 0 0 a := h141.1
              refine dite (by simp only [e141_2]) (fun _ => ?_) (fun _ => ?_)
              · refine dlet_Z (P := ym) (dq_403 h141 rfl rfl (by simp only [e141_2]) rfl) (fun Z145 Z145' h145 => ?_)
                exact h145
              · refine dlet_Z (P := ym) (dq_403 h141 rfl rfl (by simp only [e141_2]) rfl) (fun Z146 Z146' h146 => ?_)
                exact h146
            · refine dlet_Z (P := ym) (dq_403 h137 rfl rfl (by simp only [e137_2]) rfl) (fun Z147 Z147' h147 => ?_)
              have e147_2 : ∀ a, Z147 2 0 0 a = Z147' 2 0 0 a := h147.1
              refine dite (by simp only [e147_2]) (fun _ => ?_) (fun _ => ?_)
              · refine dlet_Z (P := ym) (dq_403 h147 rfl rfl (by simp only [e147_2]) rfl) (fun Z151 Z151' h151 => ?_)
                exact h151
              · refine dlet_Z (P := ym) (dq_403 h147 rfl rfl (by simp only [e147_2]) rfl) (fun Z152 Z152' h152 => ?_)
                exact h152
          · refine dlet_Z (P := ym) (dq_403 h133 rfl rfl (by simp only [e133_2]) rfl) (fun Z153 Z153' h153 => ?_)
            have e153_2 : ∀ a, Z153 2 0 0 a = Z153' 2 0 0 a := h153.1
            refine dite (by simp only [e153_2]) (fun _ => ?_) (fun _ => ?_)
            · refine dlet_Z (P := ym) (dq_403 h153 rfl rfl (by simp only [e153_2]) rfl) (fun Z157 Z157' h157 => ?_)
              have e157_2 : ∀ a, Z157 2 0 0 a = Z157' 2 0 0 a := h157.1
              refine dite (by simp only [e157_2]) (fun _ => ?_) (fun _ => ?_)
              · refine dlet_Z (P := ym) (dq_403 h157 rfl rfl (by simp only [e157_2]) rfl) (fun Z161 Z161' h161 => ?_)
                exact h161
              · refine dlet_Z (P := ym) (dq_403 h157 rfl rfl (by simp only [e157_2]) rfl) (fun Z162 Z162' h162 => ?_)
                exact h162
            · refine dlet_Z (P := ym) (dq_403 h153 rfl rfl (by simp only [e153_2]) rfl) (fun Z163 Z163' h163 => ?_)
              have e163_2 : ∀ a, Z163 2 0 0 a = Z163' 2 0 0 a := h163.1
              refine dite (by simp only [e163_2]) (fun _ => ?_) (fun _ => ?_)
              · refine dlet_Z (P := ym) (dq_403 h163 rfl rfl (by simp only [e163_2]) rfl) (fun Z167 Z167' h167 => ?_)
                exact h167
              · refine dlet_Z (P := ym) (dq_403 h163 rfl rfl (by simp only [e163_2]) rfl) (fun Z168 Z168' h168 => ?_)
                exact h168
    · refine dlet_Z (P := ym) (dq_403 h7 rfl rfl (by simp only [e7_2]) rfl) (fun Z169 Z169' h169 => ?_)
      have e169_2 : ∀ a, Z169 2 0 0 a = Z169' 2 0 0 a := h169.1
      refine dite (by simp only [e169_2]) (fun _ => ?_) (fun _ => ?_)
      · refine dlet_Z (P := ym) (dq_403 h169 rfl rfl (by simp only [e169_2]) rfl) (fun Z173 Z173' h173 => ?_)
        have e173_2 : ∀ a, Z173 2 0 0 a = Z173' 2 0 0 a := h173.1
        refine dite (by simp only [e173_2]) (fun _ => ?_) (fun _ => ?_)
        · refine dlet_Z (P := ym) (dq_403 h173 rfl rfl (by simp only [e173_2]) rfl) (fun Z177 Z177' h177 => ?_)
          have e177_2 : ∀ a, Z177 2 0 0 a = Z177' 2 0 0 a := h177.1
          refine dite (by simp only [e177_2]) (fun _ => ?_) (fun _ => ?_)
          · refine dlet_Z (P := ym) (dq_403 h177 rfl rfl (by simp only [e177_2]) rfl) (fun Z181 Z181' h181 => ?_)
            have e181_2 : ∀ a, Z181 2 0 0 a = Z181' 2 0 0 a := h181.1
            refine dite (by simp only [e181_2]) (fun _ => ?_) (fun _ => ?_)
            · refine dlet_Z (P := ym) (dq_403 h181 rfl rfl (by simp only [e181_2]) rfl) (fun Z185 Z185' h185 => ?_)
              have e185_2 : ∀ a, Z185 2 0 0 a = Z185' 2 0 0 a := h185.1
              refine dite (by simp only [e185_2]) (fun _ => ?_) (fun _ => ?_)
              · refine dlet_Z (P := ym) (dq_403 h185 rfl rfl (by simp only [e185_2]) rfl) (fun Z189 Z189' h189 => ?_)
                exact h189
              · refine dlet_Z (P := ym) (dq_403 h185 rfl rfl (by simp only [e185_2]) rfl) (fun Z190 Z190' h190 => ?_)
                exact h190
            · refine dlet_Z (P := ym) (dq_403 h181 rfl rfl (by simp only [e181_2]) rfl) (fun Z191 Z191' h191 => ?_)
              have e191_2 : ∀ a, Z191 2 0 0 a = Z191' 2 0 0 a := h191.1
              refine dite (by simp only [e191_2]) (fun _ => ?_) (fun _ => ?_)
              · refine dlet_Z (P := ym) (dq_403 h191 rfl rfl (by simp only [e191_2]) rfl) (fun Z195 Z195' h195 => ?_)
                exact h195
              · refine dlet_Z (P := ym) (dq_403 h191 rfl rfl (by simp only [e191_2]) rfl) (fun Z196 Z196' h196 => ?_)
                exact h196
          · refine dlet_Z (P := ym) (dq_403 h177 rfl rfl (by simp only [e177_2]) rfl) (fun Z197 Z197' h197 => ?_)
            have e197_2 : ∀ a, Z197 2 0 0 a = Z197' 2 0 0 a := h197.1
            refine dite (by simp only [e197_2]) (fun _ => ?_) (fun _ => ?_)
            · refine dlet_Z (P := ym) (dq_403 h197 rfl rfl (by simp only [e197_2]) rfl) (fun Z201 Z201' h201 => ?_)
              have e201_2 : ∀ a, Z201 2 0 0 a = Z201' 2 0 0 a := h201.1
              refine dite (by simp only [e201_2]) (fun _ => ?_) (fun _ => ?_)
              · refine dlet_Z (P := ym) (dq_403 h201 rfl rfl (by simp only [e201_2]) rfl) (fun Z205 Z205' h205 => ?_)
                exact h205
              · refine dlet_Z (P := ym) (dq_403 h201 rfl rfl (by simp only [e201_2]) rfl) (fun Z206 Z206' h206 => ?_)
                exact h206
            · refine dlet_Z (P := ym) (dq_403 h197 rfl rfl (by simp only [e197_2]) rfl) (fun Z207 Z207' h207 => ?_)
              have e207_2 : ∀ a, Z207 2 0 0 a = Z207' 2 0 0 a := h207.1
              refine dite (by simp only [e207_2]) (fun _ => ?_) (fun _ => ?_)
              · refine dlet_Z (P := ym) (dq_403 h207 rfl rfl (by simp only [e207_2]) rfl) (fun Z211 Z211' h211 => ?_)
                exact h211
              · refine dlet_Z (P := ym) (dq_403 h207 rfl rfl (by simp only [e207_2]) rfl) (fun Z212 Z212' h212 => ?_)
                exact h212
        · refine dlet_Z (P := ym) (dq_403 h173 rfl rfl (by simp only [e173_2]) rfl) (fun Z213 Z213' h213 => ?_)
          have e213_2 : ∀ a, Z213 2 0 0 a = Z213' 2 0 0 a := h213.1
          refine dite (by simp only [e213_2]) (fun _ => ?_) (fun _ => ?_)
          · refine dlet_Z (P := ym) (dq_403 h213 rfl rfl (by simp only [e213_2]) rfl) (fun Z217 Z217' h217 => ?_)
            have e217_2 : ∀ a, Z217 2 0 0 a = Z217' 2 0 0 a := h217.1
            refine dite (by simp only [e217_2]) (fun _ => ?_) (fun _ => ?_)
            · refine dlet_Z (P := ym) (dq_403 h217 rfl rfl (by simp only [e217_2]) rfl) (fun Z221 Z221' h221 => ?_)
              have e221_2 : ∀ a, Z221 2 0 0 a = Z221' 2 0 0 a := h221.1
              refine dite (by simp only [e221_2]) (fun _ => ?_) (fun _ => ?_)
              · refine dlet_Z (P := ym) (dq_403 h221 rfl rfl (by simp only [e221_2]) rfl) (fun Z225 Z225' h225 => ?_)
                exact h225
              · refine dlet_Z (P := ym) (dq_403 h221 rfl rfl (by simp only [e221_2]) rfl) (fun Z226 Z226' h226 => ?_)
                exact h226
            · refine dlet_Z (P := ym) (dq_403 h217 rfl rfl (by simp only [e217_2]) rfl) (fun Z227 Z227' h227 => ?_)
              have e227_2 : ∀ a, Z227 2 0 0 a = Z227' 2 0 0 a := h227.1
              refine dite (by simp only [e227_2]) (fun _ => ?_) (fun _ => ?_)
              · refine dlet_Z (P := ym) (dq_403 h227 rfl rfl (by simp only [e227_2]) rfl) (fun Z231 Z231' h231 => ?_)
                exact h231
              · refine dlet_Z (P := ym) (dq_403 h227 rfl rfl (by simp only [e227_2]) rfl) (fun Z232 Z232' h232 => ?_)
                exact h232
          · refine dlet_Z (P := ym) (dq_403 h213 rfl rfl (by simp only [e213_2]) rfl) (fun Z233 Z233' h233 => ?_)
            have e233_2 : ∀ a, Z233 2 0 0 a = Z233' 2 0 0 a := h233.1
            refine dite (by simp only [e233_2]) (fun _ => ?_) (fun _ => ?_)
            · refine dlet_Z (P := ym) (dq_403 h233 rfl rfl (by simp only [e233_2]) rfl) (fun Z237 Z237' h237 => ?_)
              have e237_2 : ∀ a, Z237 2 0 0 a = Z237' 2 0 0 a := h237.1
              refine dite (by simp only [e237_2]) (fun _ => ?_) (fun _ => ?_)
              · refine dlet_Z (P := ym) (dq_403 h237 rfl rfl (by simp only [e237_2]) rfl) (fun Z241 Z241' h241 => ?_)
                exact h241
              · refine dlet_Z (P := ym) (dq_403 h237 rfl rfl (by simp only [e237_2]) rfl) (fun Z242 Z242' h242 => ?_)
                exact h242
            · refine dlet_Z (P := ym) (dq_403 h233 rfl rfl (by simp only [e233_2]) rfl) (fun Z243 Z243' h243 => ?_)
              have e243_2 : ∀ a, Z243 2 0 0 a = Z243' 2 0 0 a := h243.1
              refine dite (by simp only [e243_2]) (fun _ => ?_) (fun _ => ?_)
              · refine dlet_Z (P := ym) (dq_403 h243 rfl rfl (by simp only [e243_2]) rfl) (fun Z247 Z247' h247 => ?_)
                exact h247
              · refine dlet_Z (P := ym) (dq_403 h243 rfl rfl (by simp only [e243_2]) rfl) (fun Z248 Z248' h248 => ?_)
                exact h248
      · refine dlet_Z (P := ym) (dq_403 h169 rfl rfl (by simp only [e169_2]) rfl) (fun Z249 Z249' h249 => ?_)
        have e249_2 : ∀ a, Z249 2 0 0 a = Z249' 2 0 0 a := h249.1
        refine dite (by simp only [e249_2]) (fun _ => ?_) (fun _ => ?_)
        · refine dlet_Z (P := ym) (dq_403 h249 rfl rfl (by simp only [e249_2]) rfl) (fun Z253 Z253' h253 => ?_)
          have e253_2 : ∀ a, Z253 2 0 0 a = Z253' 2 0 0 a := h253.1
          refine dite (by simp only [e253_2]) (fun _ => ?_) (fun _ => ?_)
          · refine dlet_Z (P := ym) (dq_403 h253 rfl rfl (by simp only [e253_2]) rfl) (fun Z257 Z257' h257 => ?_)
            have e257_2 : ∀ a, Z257 2 0 0 a = Z257' 2 0 0 a := h257.1
            refine dite (by simp only [e257_2]) (fun _ => ?_) (fun _ => ?_)
            · refine dlet_Z (P := ym) (dq_403 h257 rfl rfl (by simp only [e257_2]) rfl) (fun Z261 Z261' h261 => ?_)
              have e261_2 : ∀ a, Z261 2 0 0 a = Z261' 2 0 0 a := h261.1
              refine dite (by simp only [e261_2]) (fun _ => ?_) (fun _ => ?_)
              · refine dlet_Z (P := ym) (dq_403 h261 rfl rfl (by simp only [e261_2]) rfl) (fun Z265 Z265' h265 => ?_)
                exact h265
              · refine dlet_Z (P := ym) (dq_403 h261 rfl rfl (by simp only [e261_2]) rfl) (fun Z266 Z266' h266 => ?_)
                exact h266
            · refine dlet_Z (P := ym) (dq_403 h257 rfl rfl (by simp only [e257_2]) rfl) (fun Z267 Z267' h267 => ?_)
              have e267_2 : ∀ a, Z267 2 0 0 a = Z267' 2 0 0 a := h267.1
              refine dite (by simp only [e267_2]) (fun _ => ?_) (fun _ => ?_)
              · refine dlet_Z (P := ym) (dq_403 h267 rfl rfl (by simp only [e267_2]) rfl) (fun Z271 Z271' h271 => ?_)
                exact h271
              · refine dlet_Z (P := ym) (dq_403 h267 rfl rfl (by simp only [e267_2]) rfl) (fun Z272 Z272' h272 => ?_)
                exact h272
          · refine dlet_Z (P := ym) (dq_403 h253 rfl rfl (by simp only [e253_2]) rfl) (fun Z273 Z273' h273 => ?_)
            have e273_2 : ∀ a, Z273 2 0 0 a = Z273' 2 0 0 a := h273.1
            refine dite (by simp only [e273_2]) (fun _ => ?_) (fun _ => ?_)
            · refine dlet_Z (P := ym) (dq_403 h273 rfl rfl (by simp only [e273_2]) rfl) (fun Z277 Z277' h277 => ?_)
              have e277_2 : ∀ a, Z277 2 0 0 a = Z277' 2 0 0 a := h277.1
              refine dite (by simp only [e277_2]) (fun _ => ?_) (fun _ => ?_)
              · refine dlet_Z (P := ym) (dq_403 h277 rfl rfl (by simp only [e277_2]) rfl) (fun Z281 Z281' h281 => ?_)
                exact h281
              · refine dlet_Z (P := ym) (dq_403 h277 rfl rfl (by simp only [e277_2]) rfl) (fun Z282 Z282' h282 => ?_)
                exact h282
            · refine dlet_Z (P := ym) (dq_403 h273 rfl rfl (by simp only [e273_2]) rfl) (fun Z283 Z283' h283 => ?_)
              have e283_2 : ∀ a, Z283 2 0 0 a = Z283' 2 0 0 a := h283.1
              refine dite (by simp only [e283_2]) (fun _ => ?_) (fun _ => ?_)
              · refine dlet_Z (P := ym) (dq_403 h283 rfl rfl (by simp only [e283_2]) rfl) (fun Z287 Z287' h287 => ?_)
                exact h287
              · refine dlet_Z (P := ym) (dq_403 h283 rfl rfl (by simp only [e283_2]) rfl) (fun Z288 Z288' h288 => ?_)
                exact h288
        · refine dlet_Z (P := ym) (dq_403 h249 rfl rfl (by simp only [e249_2]) rfl) (fun Z289 Z289' h289 => ?_)
          have e289_2 : ∀ a, Z289 2 0 0 a = Z289' 2 0 0 a := h289.1
          refine dite (by simp only [e289_2]) (fun _ => ?_) (fun _ => ?_)
          · refine dlet_Z (P := ym) (dq_403 h289 rfl rfl (by simp only [e289_2]) rfl) (fun Z293 Z293' h293 => ?_)
            have e293_2 : ∀ a, Z293 2 0 0 a = Z293' 2 0 0 a := h293.1
            refine dite (by simp only [e293_2]) (fun _ => ?_) (fun _ => ?_)
            · refine dlet_Z (P := ym) (dq_403 h293 rfl rfl (by simp only [e293_2]) rfl) (fun Z297 Z297' h297 => ?_)
              have e297_2 : ∀ a, Z297 2 0 0 a = Z297' 2 0 0 a := h297.1
              refine dite (by simp only [e297_2]) (fun _ => ?_) (fun _ => ?_)
              · refine dlet_Z (P := ym) (dq_403 h297 rfl rfl (by simp only [e297_2]) rfl) (fun Z301 Z301' h301 => ?_)
                exact h301
              · refine dlet_Z (P := ym) (dq_403 h297 rfl rfl (by simp only [e297_2]) rfl) (fun Z302 Z302' h302 => ?_)
                exact h302
            · refine dlet_Z (P := ym) (dq_403 h293 rfl rfl (by simp only [e293_2]) rfl) (fun Z303 Z303' h303 => ?_)
              have e303_2 : ∀ a, Z303 2 0 0 a = Z303' 2 0 0 a := h303.1
              refine dite (by simp only [e303_2]) (fun _ => ?_) (fun _ => ?_)
              · refine dlet_Z (P := ym) (dq_403 h303 rfl rfl (by simp only [e303_2]) rfl) (fun Z307 Z307' h307 => ?_)
                exact h307
              · refine dlet_Z (P := ym) (dq_403 h303 rfl rfl (by simp only [e303_2]) rfl) (fun Z308 Z308' h308 => ?_)
                exact h308
          · refine dlet_Z (P := ym) (dq_403 h289 rfl rfl (by simp only [e289_2]) rfl) (fun Z309 Z309' h309 => ?_)
            have e309_2 : ∀ a, Z309 2 0 0 a = Z309' 2 0 0 a := h309.1
            refine dite (by simp only [e309_2]) (fun _ => ?_) (fun _ => ?_)
            · refine dlet_Z (P := ym) (dq_403 h309 rfl rfl (by simp only [e309_2]) rfl) (fun Z313 Z313' h313 => ?_)
              have e313_2 : ∀ a, Z313 2 0 0 a = Z313' 2 0 0 a := h313.1
              refine dite (by simp only [e313_2]) (fun _ => ?_) (fun _ => ?_)
              · refine dlet_Z (P := ym) (dq_403 h313 rfl rfl (by simp only [e313_2]) rfl) (fun Z317 Z317' h317 => ?_)
                exact h317
              · refine dlet_Z (P := ym) (dq_403 h313 rfl rfl (by simp only [e313_2]) rfl) (fun Z318 Z318' h318 => ?_)
                exact h318
            · refine dlet_Z (P := ym) (dq_403 h309 rfl rfl (by simp only [e309_2]) rfl) (fun Z319 Z319' h319 => ?_)
              have e319_2 : ∀ a, Z319 2 0 0 a = Z319' 2 0 0 a := h319.1
              refine dite (by simp only [e319_2]) (fun _ => ?_) (fun _ => ?_)
              · refine dlet_Z (P := ym) (dq_403 h319 rfl rfl (by simp only [e319_2]) rfl) (fun Z323 Z323' h323 => ?_)
                exact h323
              · refine dlet_Z (P := ym) (dq_403 h319 rfl rfl (by simp only [e319_2]) rfl) (fun Z324 Z324' h324 => ?_)
                exact h324
  · refine dlet_Z (P := ym) (dq_413 h7) (fun Z325 Z325' h325 => ?_)
    have e325_2 : ∀ a, Z325 2 0 0 a = Z325' 2 0 0 a := h325.1
    refine dite (by simp only [e325_2]) (fun _ => ?_) (fun _ => ?_)
    · refine dlet_Z (P := ym) (dq_403 h325 rfl rfl (by simp only [e325_2]) rfl) (fun Z329 Z329' h329 => ?_)
      have e329_2 : ∀ a, Z329 2 0 0 a = Z329' 2 0 0 a := h329.1
      refine dite (by simp only [e329_2]) (fun _ => ?_) (fun _ => ?_)
      · refine dlet_Z (P := ym) (dq_403 h329 rfl rfl (by simp only [e329_2]) rfl) (fun Z333 Z333' h333 => ?_)
        have e333_2 : ∀ a, Z333 2 0 0 a = Z333' 2 0 0 a := h333.1
        refine dite (by simp only [e333_2]) (fun _ => ?_) (fun _ => ?_)
        · refine dlet_Z (P := ym) (dq_403 h333 rfl rfl (by simp only [e333_2]) rfl) (fun Z337 Z337' h337 => ?_)
          have e337_2 : ∀ a, Z337 2 0 0 a = Z337' 2 0 0 a := h337.1
          refine dite (by simp only [e337_2]) (fun _ => ?_) (fun _ => ?_)
          · refine dlet_Z (P := ym) (dq_403 h337 rfl rfl (by simp only [e337_2]) rfl) (fun Z341 Z341' h341 => ?_)
            have e341_2 : ∀ a, Z341 2 0 0 a = Z341' 2 0 0 a := h341.1
            refine dite (by simp only [e341_2]) (fun _ => ?_) (fun _ => ?_)
            · refine dlet_Z (P := ym) (dq_403 h341 rfl rfl (by simp only [e341_2]) rfl) (fun Z345 Z345' h345 => ?_)
              have e345_2 : ∀ a, Z345 2 0 0 a = Z345' 2 0 0 a := h345.1
              refine dite (by simp only [e345_2]) (fun _ => ?_) (fun _ => ?_)
              · refine dlet_Z (P := ym) (dq_403 h345 rfl rfl (by simp only [e345_2]) rfl) (fun Z349 Z349' h349 => ?_)
                exact h349
              · refine dlet_Z (P := ym) (dq_403 h345 rfl rfl (by simp only [e345_2]) rfl) (fun Z350 Z350' h350 => ?_)
                exact h350
            · refine dlet_Z (P := ym) (dq_403 h341 rfl rfl (by simp only [e341_2]) rfl) (fun Z351 Z351' h351 => ?_)
              have e351_2 : ∀ a, Z351 2 0 0 a = Z351' 2 0 0 a := h351.1
              refine dite (by simp only [e351_2]) (fun _ => ?_) (fun _ => ?_)
              · refine dlet_Z (P := ym) (dq_403 h351 rfl rfl (by simp only [e351_2]) rfl) (fun Z355 Z355' h355 => ?_)
                exact h355
              · refine dlet_Z (P := ym) (dq_403 h351 rfl rfl (by simp only [e351_2]) rfl) (fun Z356 Z356' h356 => ?_)
                exact h356
          · refine dlet_Z (P := ym) (dq_403 h337 rfl rfl (by simp only [e337_2]) rfl) (fun Z357 Z357' h357 => ?_)
            have e357_2 : ∀ a, Z357 2 0 0 a = Z357' 2 0 0 a := h357.1
            refine dite (by simp only [e357_2]) (fun _ => ?_) (fun _ => ?_)
            · refine dlet_Z (P := ym) (dq_403 h357 rfl rfl (by simp only [e357_2]) rfl) (fun Z361 Z361' h361 => ?_)
              have e361_2 : ∀ a, Z361 2 0 0 a = Z361' 2 0 0 a := h361.1
              refine dite (by simp only [e361_2]) (fun _ => ?_) (fun _ => ?_)
              · refine dlet_Z (P := ym) (dq_403 h361 rfl rfl (by simp only [e361_2]) rfl) (fun Z365 Z365' h365 => ?_)
                exact h365
              · refine dlet_Z (P := ym) (dq_403 h361 rfl rfl (by simp only [e361_2]) rfl) (fun Z366 Z366' h366 => ?_)
                exact h366
            · refine dlet_Z (P := ym) (dq_403 h357 rfl rfl (by simp only [e357_2]) rfl) (fun Z367 Z367' h367 => ?_)
              have e367_2 : ∀ a, Z367 2 0 0 a = Z367' 2 0 0 a := h367.1
              refine dite (by simp only [e367_2]) (fun _ => ?_) (fun _ => ?_)
              · refine dlet_Z (P := ym) (dq_403 h367 rfl rfl (by simp only [e367_2]) rfl) (fun Z371 Z371' h371 => ?_)
                exact h371
              · refine dlet_Z (P := ym) (dq_403 h367 rfl rfl (by simp only [e367_2]) rfl) (fun Z372 Z372' h372 => ?_)
                exact h372
        · refine dlet_Z (P := ym) (dq_403 h333 rfl rfl (by simp only [e333_2]) rfl) (fun Z373 Z373' h373 => ?_)
          have e373_2 : ∀ a, Z373 2 0 0 a = Z373' 2 0 0 a := h373.1
          refine dite (by simp only [e373_2]) (fun _ => ?_) (fun _ => ?_)
          · refine dlet_Z (P := ym) (dq_403 h373 rfl rfl (by simp only [e373_2]) rfl) (fun Z377 Z377' h377 => ?_)
            have e377_2 : ∀ a, Z377 2 0 0 a = Z377' 2 0 0 a := h377.1
            refine dite (by simp only [e377_2]) (fun _ => ?_) (fun _ => ?_)
            · refine dlet_Z (P := ym) (dq_403 h377 rfl rfl (by simp only [e377_2]) rfl) (fun Z381 Z381' h381 => ?_)
              have e381_2 : ∀ a, Z381 2 0 0 a = Z381' 2 0 0 a := h381.1
              refine dite (by simp only [e381_2]) (fun _ => ?_) (fun _ => ?_)
              · refine dlet_Z (P := ym) (dq_403 h381 rfl rfl (by simp only [e381_2]) rfl) (fun Z385 Z385' h385 => ?_)
                exact h385
              · refine dlet_Z (P := ym) (dq_403 h381 rfl rfl (by simp only [e381_2]) rfl) (fun Z386 Z386' h386 => ?_)
                exact h386
            · refine dlet_Z (P := ym) (dq_403 h377 rfl rfl (by simp only [e377_2]) rfl) (fun Z387 Z387' h387 => ?_)
              have e387_2 : ∀ a, Z387 2 0 0 a = Z387' 2 0 0 a := h387.1
              refine dite (by simp only [e387_2]) (fun _ => ?_) (fun _ => ?_)
              · refine dlet_Z (P := ym) (dq_403 h387 rfl rfl (by simp only [e387_2]) rfl) (fun Z391 Z391' h391 => ?_)
                exact h391
              · refine dlet_Z (P := ym) (dq_403 h387 rfl rfl (by simp only [e387_2]) rfl) (fun Z392 Z392' h392 => ?_)
                exact h392
          · refine dlet_Z (P := ym) (dq_403 h373 rfl rfl (by simp only [e373_2]) rfl) (fun Z393 Z393' h393 => ?_)
            have e393_2 : ∀ a, Z393 2 0 0 a = Z393' 2 0 0 a := h393.1
            refine dite (by simp only [e393_2]) (fun _ => ?_) (fun _ => ?_)
            · refine dlet_Z (P := ym) (dq_403 h393 rfl rfl (by simp only [e393_2]) rfl) (fun Z397 Z397' h397 => ?_)
              have e397_2 : ∀ a, Z397 2 0 0 a = Z397' 2 0 0 a := h397.1
              refine dite (by simp only [e397_2]) (fun _ => ?_) (fun _ => ?_)
              · refine dlet_Z (P := ym) (dq_403 h397 rfl rfl (by simp only [e397_2]) rfl) (fun Z401 Z401' h401 => ?_)
                exact h401
              · refine dlet_Z (P := ym) (dq_403 h397 rfl rfl (by simp only [e397_2]) rfl) (fun Z402 Z402' h402 => ?_)
                exact h402
            · refine dlet_Z (P := ym) (dq_403 h393 rfl rfl (by simp only [e393_2]) rfl) (fun Z403 Z403' h403 => ?_)
              have e403_2 : ∀ a, Z403 2 0 0 a = Z403' 2 0 0 a := h403.1
              refine dite (by simp only [e403_2]) (fun _ => ?_) (fun _ => ?_)
              · refine dlet_Z (P := ym) (dq_403 h403 rfl rfl (by simp only [e403_2]) rfl) (fun Z407 Z407' h407 => ?_)
                exact h407
              · refine dlet_Z (P := ym) (dq_403 h403 rfl rfl (by simp only [e403_2]) rfl) (fun Z408 Z408' h408 => ?_)
                exact h408
      · refine dlet_Z (P := ym) (dq_403 h329 rfl rfl (by simp only [e329_2]) rfl) (fun Z409 Z409' h409 => ?_)
        have e409_2 : ∀ a, Z409 2 0 0 a = Z409' 2 0 0 a := h409.1
        refine dite (by simp only [e409_2]) (fun _ => ?_) (fun _ => ?_)
        · refine dlet_Z (P := ym) (dq_403 h409 rfl rfl (by simp only [e409_2]) rfl) (fun Z413 Z413' h413 => ?_)
          have e413_2 : ∀ a, Z413 2 0 0 a = Z413' 2 0 0 a := h413.1
          refine dite (by simp only [e413_2]) (fun _ => ?_) (fun _ => ?_)
          · refine dlet_Z (P := ym) (dq_403 h413 rfl rfl (by simp only [e413_2]) rfl) (fun Z417 Z417' h417 => ?_)
            have e417_2 : ∀ a, Z417 2 0 0 a = Z417' 2 0 0 a := h417.1
            refine dite (by simp only [e417_2]) (fun _ => ?_) (fun _ => ?_)
            · refine dlet_Z (P := ym) (dq_403 h417 rfl rfl (by simp only [e417_2]) rfl) (fun Z421 Z421' h421 => ?_)
              have e421_2 : ∀ a, Z421 2 0 0 a = Z421' 2 0 0 a := h421.1
              refine dite (by simp only [e421_2]) (fun _ => ?_) (fun _ => ?_)
              · refine dlet_Z (P := ym) (dq_403 h421 rfl rfl (by simp only [e421_2]) rfl) (fun Z425 Z425' h425 => ?_)
                exact h425
              · refine dlet_Z (P := ym) (dq_403 h421 rfl rfl (by simp only [e421_2]) rfl) (fun Z426 Z426' h426 => ?_)
                exact h426
            · refine dlet_Z (P := ym) (dq_403 h417 rfl rfl (by simp only [e417_2]) rfl) (fun Z427 Z427' h427 => ?_)
              have e427_2 : ∀ a, Z427 2 0 0 a = Z427' 2 0 0 a := h427.1
              refine dite (by simp only [e427_2]) (fun _ => ?_) (fun _ => ?_)
              · refine dlet_Z (P := ym) (dq_403 h427 rfl rfl (by simp only [e427_2]) rfl) (fun Z431 Z431' h431 => ?_)
                exact h431
              · refine dlet_Z (P := ym) (dq_403 h427 rfl rfl (by simp only [e427_2]) rfl) (fun Z432 Z432' h432 => ?_)
                exact h432
          · refine dlet_Z (P := ym) (dq_403 h413 rfl rfl (by simp only [e413_2]) rfl) (fun Z433 Z433' h433 => ?_)
            have e433_2 : ∀ a, Z433 2 0 0 a = Z433' 2 0 0 a := h433.1
            refine dite (by simp only [e433_2]) (fun _ => ?_) (fun _ => ?_)
            · refine dlet_Z (P := ym) (dq_403 h433 rfl rfl (by simp only [e433_2]) rfl) (fun Z437 Z437' h437 => ?_)
              have e437_2 : ∀ a, Z437 2 0 0 a = Z437' 2 0 0 a := h437.1
              refine dite (by simp only [e437_2]) (fun _ => ?_) (fun _ => ?_)
              · refine dlet_Z (P := ym) (dq_403 h437 rfl rfl (by simp only [e437_2]) rfl) (fun Z441 Z441' h441 => ?_)
                exact h441
              · refine dlet_Z (P := ym) (dq_403 h437 rfl rfl (by simp only [e437_2]) rfl) (fun Z442 Z442' h442 => ?_)
                exact h442
            · refine dlet_Z (P := ym) (dq_403 h433 rfl rfl (by simp only [e433_2]) rfl) (fun Z443 Z443' h443 => ?_)
              have e443_2 : ∀ a, Z443 2 0 0 a = Z443' 2 0 0 a := h443.1
              refine dite (by simp only [e443_2]) (fun _ => ?_) (fun _ => ?_)
              · refine dlet_Z (P := ym) (dq_403 h443 rfl rfl (by simp only [e443_2]) rfl) (fun Z447 Z447' h447 => ?_)
                exact h447
              · refine dlet_Z (P := ym) (dq_403 h443 rfl rfl (by simp only [e443_2]) rfl) (fun Z448 Z448' h448 => ?_)
                exact h448
        · refine dlet_Z (P := ym) (dq_403 h409 rfl rfl (by simp only [e409_2]) rfl) (fun Z449 Z449' h449 => ?_)
          have e449_2 : ∀ a, Z449 2 0 0 a = Z449' 2 0 0 a := h449.1
          refine dite (by simp only [e449_2]) (fun _ => ?_) (fun _ => ?_)
          · refine dlet_Z (P := ym) (dq_403 h449 rfl rfl (by simp only [e449_2]) rfl) (fun Z453 Z453' h453 => ?_)
            have e453_2 : ∀ a, Z453 2 0 0 a = Z453' 2 0 0 a := h453.1
            refine dite (by simp only [e453_2]) (fun _ => ?_) (fun _ => ?_)
            · refine dlet_Z (P := ym) (dq_403 h453 rfl rfl (by simp only [e453_2]) rfl) (fun Z457 Z457' h457 => ?_)
              have e457_2 : ∀ a, Z457 2 0 0 a = Z457' 2 0 0 a := h457.1
              refine dite (by simp only [e457_2]) (fun _ => ?_) (fun _ => ?_)
              · refine dlet_Z (P := ym) (dq_403 h457 rfl rfl (by simp only [e457_2]) rfl) (fun Z461 Z461' h461 => ?_)
                exact h461
              · refine dlet_Z (P := ym) (dq_403 h457 rfl rfl (by simp only [e457_2]) rfl) (fun Z462 Z462' h462 => ?_)
                exact h462
            · refine dlet_Z (P := ym) (dq_403 h453 rfl rfl (by simp only [e453_2]) rfl) (fun Z463 Z463' h463 => ?_)
              have e463_2 : ∀ a, Z463 2 0 0 a = Z463' 2 0 0 a := h463.1
              refine dite (by simp only [e463_2]) (fun _ => ?_) (fun _ => ?_)
              · refine dlet_Z (P := ym) (dq_403 h463 rfl rfl (by simp only [e463_2]) rfl) (fun Z467 Z467' h467 => ?_)
                exact h467
              · refine dlet_Z (P := ym) (dq_403 h463 rfl rfl (by simp only [e463_2]) rfl) (fun Z468 Z468' h468 => ?_)
                exact h468
          · refine dlet_Z (P := ym) (dq_403 h449 rfl rfl (by simp only [e449_2]) rfl) (fun Z469 Z469' h469 => ?_)
            have e469_2 : ∀ a, Z469 2 0 0 a = Z469' 2 0 0 a := h469.1
            refine dite (by simp only [e469_2]) (fun _ => ?_) (fun _ => ?_)
            · refine dlet_Z (P := ym) (dq_403 h469 rfl rfl (by simp only [e469_2]) rfl) (fun Z473 Z473' h473 => ?_)
              have e473_2 : ∀ a, Z473 2 0 0 a = Z473' 2 0 0 a := h473.1
              refine dite (by simp only [e473_2]) (fun _ => ?_) (fun _ => ?_)
              · refine dlet_Z (P := ym) (dq_403 h473 rfl rfl (by simp only [e473_2]) rfl) (fun Z477 Z477' h477 => ?_)
                exact h477
              · refine dlet_Z (P := ym) (dq_403 h473 rfl rfl (by simp only [e473_2]) rfl) (fun Z478 Z478' h478 => ?_)
                exact h478
            · refine dlet_Z (P := ym) (dq_403 h469 rfl rfl (by simp only [e469_2]) rfl) (fun Z479 Z479' h479 => ?_)
              have e479_2 : ∀ a, Z479 2 0 0 a = Z479' 2 0 0 a := h479.1
              refine dite (by simp only [e479_2]) (fun _ => ?_) (fun _ => ?_)
              · refine dlet_Z (P := ym) (dq_403 h479 rfl rfl (by simp only [e479_2]) rfl) (fun Z483 Z483' h483 => ?_)
                exact h483
              · refine dlet_Z (P := ym) (dq_403 h479 rfl rfl (by simp only [e479_2]) rfl) (fun Z484 Z484' h484 => ?_)
                exact h484
    · refine dlet_Z (P := ym) (dq_403 h325 rfl rfl (by simp only [e325_2]) rfl) (fun Z485 Z485' h485 => ?_)
      have e485_2 : ∀ a, Z485 2 0 0 a = Z485' 2 0 0 a := h485.1
      refine dite (by simp only [e485_2]) (fun _ => ?_) (fun _ => ?_)
      · refine dlet_Z (P := ym) (dq_403 h485 rfl rfl (by simp only [e485_2]) rfl) (fun Z489 Z489' h489 => ?_)
        have e489_2 : ∀ a, Z489 2 0 0 a = Z489' 2 0 0 a := h489.1
        refine dite (by simp only [e489_2]) (fun _ => ?_) (fun _ => ?_)
        · refine dlet_Z (P := ym) (dq_403 h489 rfl rfl (by simp only [e489_2]) rfl) (fun Z493 Z493' h493 => ?_)
          have e493_2 : ∀ a, Z493 2 0 0 a = Z493' 2 0 0 a := h493.1
          refine dite (by simp only [e493_2]) (fun _ => ?_) (fun _ => ?_)
          · refine dlet_Z (P := ym) (dq_403 h493 rfl rfl (by simp only [e493_2]) rfl) (fun Z497 Z497' h497 => ?_)
            have e497_2 : ∀ a, Z497 2 0 0 a = Z497' 2 0 0 a := h497.1
            refine dite (by simp only [e497_2]) (fun _ => ?_) (fun _ => ?_)
            · refine dlet_Z (P := ym) (dq_403 h497 rfl rfl (by simp only [e497_2]) rfl) (fun Z501 Z501' h501 => ?_)
              have e501_2 : ∀ a, Z501 2 0 0 a = Z501' 2 0 0 a := h501.1
              refine dite (by simp only [e501_2]) (fun _ => ?_) (fun _ => ?_)
              · refine dlet_Z (P := ym) (dq_403 h501 rfl rfl (by simp only [e501_2]) rfl) (fun Z505 Z505' h505 => ?_)
                exact h505
              · refine dlet_Z (P := ym) (dq_403 h501 rfl rfl (by simp only [e501_2]) rfl) (fun Z506 Z506' h506 => ?_)
                exact h506
            · refine dlet_Z (P := ym) (dq_403 h497 rfl rfl (by simp only [e497_2]) rfl) (fun Z507 Z507' h507 => ?_)
              have e507_2 : ∀ a, Z507 2 0 0 a = Z507' 2 0 0 a := h507.1
              refine dite (by simp only [e507_2]) (fun _ => ?_) (fun _ => ?_)
              · refine dlet_Z (P := ym) (dq_403 h507 rfl rfl (by simp only [e507_2]) rfl) (fun Z511 Z511' h511 => ?_)
                exact h511
              · refine dlet_Z (P := ym) (dq_403 h507 rfl rfl (by simp only [e507_2]) rfl) (fun Z512 Z512' h512 => ?_)
                exact h512
          · refine dlet_Z (P := ym) (dq_403 h493 rfl rfl (by simp only [e493_2]) rfl) (fun Z513 Z513' h513 => ?_)
            have e513_2 : ∀ a, Z513 2 0 0 a = Z513' 2 0 0 a := h513.1
            refine dite (by simp only [e513_2]) (fun _ => ?_) (fun _ => ?_)
            · refine dlet_Z (P := ym) (dq_403 h513 rfl rfl (by simp only [e513_2]) rfl) (fun Z517 Z517' h517 => ?_)
              have e517_2 : ∀ a, Z517 2 0 0 a = Z517' 2 0 0 a := h517.1
              refine dite (by simp only [e517_2]) (fun _ => ?_) (fun _ => ?_)
              · refine dlet_Z (P := ym) (dq_403 h517 rfl rfl (by simp only [e517_2]) rfl) (fun Z521 Z521' h521 => ?_)
                exact h521
              · refine dlet_Z (P := ym) (dq_403 h517 rfl rfl (by simp only [e517_2]) rfl) (fun Z522 Z522' h522 => ?_)
                exact h522
            · refine dlet_Z (P := ym) (dq_403 h513 rfl rfl (by simp only [e513_2]) rfl) (fun Z523 Z523' h523 => ?_)
              have e523_2 : ∀ a, Z523 2 0 0 a = Z523' 2 0 0 a := h523.1
              refine dite (by simp only [e523_2]) (fun _ => ?_) (fun _ => ?_)
              · refine dlet_Z (P := ym) (dq_403 h523 rfl rfl (by simp only [e523_2]) rfl) (fun Z527 Z527' h527 => ?_)
                exact h527
              · refine dlet_Z (P := ym) (dq_403 h523 rfl rfl (by simp only [e523_2]) rfl) (fun Z528 Z528' h528 => ?_)
                exact h528
        · refine dlet_Z (P := ym) (dq_403 h489 rfl rfl (by simp only [e489_2]) rfl) (fun Z529 Z529' h529 => ?_)
          have e529_2 : ∀ a, Z529 2 0 0 a = Z529' 2 0 0 a := h529.1
          refine dite (by simp only [e529_2]) (fun _ => ?_) (fun _ => ?_)
          · refine dlet_Z (P := ym) (dq_403 h529 rfl rfl (by simp only [e529_2]) rfl) (fun Z533 Z533' h533 => ?_)
            have e533_2 : ∀ a, Z533 2 0 0 a = Z533' 2 0 0 a := h533.1
            refine dite (by simp only [e533_2]) (fun _ => ?_) (fun _ => ?_)
            · refine dlet_Z (P := ym) (dq_403 h533 rfl rfl (by simp only [e533_2]) rfl) (fun Z537 Z537' h537 => ?_)
              have e537_2 : ∀ a, Z537 2 0 0 a = Z537' 2 0 0 a := h537.1
              refine dite (by simp only [e537_2]) (fun _ => ?_) (fun _ => ?_)
              · refine dlet_Z (P := ym) (dq_403 h537 rfl rfl (by simp only [e537_2]) rfl) (fun Z541 Z541' h541 => ?_)
                exact h541
              · refine dlet_Z (P := ym) (dq_403 h537 rfl rfl (by simp only [e537_2]) rfl) (fun Z542 Z542' h542 => ?_)
                exact h542
            · refine dlet_Z (P := ym) (dq_403 h533 rfl rfl (by simp only [e533_2]) rfl) (fun Z543 Z543' h543 => ?_)
              have e543_2 : ∀ a, Z543 2 0 0 a = Z543' 2 0 0 a := h543.1
              refine dite (by simp only [e543_2]) (fun _ => ?_) (fun _ => ?_)
              · refine dlet_Z (P := ym) (dq_403 h543 rfl rfl (by simp only [e543_2]) rfl) (fun Z547 Z547' h547 => ?_)
                exact h547
              · refine dlet_Z (P := ym) (dq_403 h543 rfl rfl (by simp only [e543_2]) rfl) (fun Z548 Z548' h548 => ?_)
                exact h548
          · refine dlet_Z (P := ym) (dq_403 h529 rfl rfl (by simp only [e529_2]) rfl) (fun Z549 Z549' h549 => ?_)
            have e549_2 : ∀ a, Z549 2 0 0 a = Z549' 2 0 0 a := h549.1
            refine dite (by simp only [e549_2]) (fun _ => ?_) (fun _ => ?_)
            · refine dlet_Z (P := ym) (dq_403 h549 rfl rfl (by simp only [e549_2]) rfl) (fun Z553 Z553' h553 => ?_)
              have e553_2 : ∀ a, Z553 2 0 0 a = Z553' 2 0 0 a := h553.1
              refine dite (by simp only [e553_2]) (fun _ => ?_) (fun _ => ?_)
              · refine dlet_Z (P := ym) (dq_403 h553 rfl rfl (by simp only [e553_2]) rfl) (fun Z557 Z557' h557 => ?_)
                exact h557
              · refine dlet_Z (P := ym) (dq_403 h553 rfl rfl (by simp only [e553_2]) rfl) (fun Z558 Z558' h558 => ?_)
                exact h558
            · refine dlet_Z (P := ym) (dq_403 h549 rfl rfl (by simp only [e549_2]) rfl) (fun Z559 Z559' h559 => ?_)
              have e559_2 : ∀ a, Z559 2 0 0 a = Z559' 2 0 0 a := h559.1
              refine dite (by simp only [e559_2]) (fun _ => ?_) (fun _ => ?_)
              · refine dlet_Z (P := ym) (dq_403 h559 rfl rfl (by simp only [e559_2]) rfl) (fun Z563 Z563' h563 => ?_)
                exact h563
              · refine dlet_Z (P := ym) (dq_403 h559 rfl rfl (by simp only [e559_2]) rfl) (fun Z564 Z564' h564 => ?_)
                exact h564
      · refine dlet_Z (P := ym) (dq_403 h485 rfl rfl (by simp only [e485_2]) rfl) (fun Z565 Z565' h565 => ?_)
        have e565_2 : ∀ a, Z565 2 0 0 a = Z565' 2 0 0 a := h565.1
        refine dite (by simp only [e565_2]) (fun _ => ?_) (fun _ => ?_)
        · refine dlet_Z (P := ym) (dq_403 h565 rfl rfl (by simp only [e565_2]) rfl) (fun Z569 Z569' h569 => ?_)
          have e569_2 : ∀ a, Z569 2 0 0 a = Z569' 2 0 0 a := h569.1
          refine dite (by simp only [e569_2]) (fun _ => ?_) (fun _ => ?_)
          · refine dlet_Z (P := ym) (dq_403 h569 rfl rfl (by simp only [e569_2]) rfl) (fun Z573 Z573' h573 => ?_)
            have e573_2 : ∀ a, Z573 2 0 0 a = Z573' 2 0 0 a := h573.1
            refine dite (by simp only [e573_2]) (fun _ => ?_) (fun _ => ?_)
            · refine dlet_Z (P := ym) (dq_403 h573 rfl rfl (by simp only [e573_2]) rfl) (fun Z577 Z577' h577 => ?_)
              have e577_2 : ∀ a, Z577 2 0 0 a = Z577' 2 0 0 a := h577.1
              refine dite (by simp only [e577_2]) (fun _ => ?_) (fun _ => ?_)
              · refine dlet_Z (P := ym) (dq_403 h577 rfl rfl (by simp only [e577_2]) rfl) (fun Z581 Z581' h581 => ?_)
                exact h581
              · refine dlet_Z (P := ym) (dq_403 h577 rfl rfl (by simp only [e577_2]) rfl) (fun Z582 Z582' h582 => ?_)
                exact h582
            · refine dlet_Z (P := ym) (dq_403 h573 rfl rfl (by simp only [e573_2]) rfl) (fun Z583 Z583' h583 => ?_)
              have e583_2 : ∀ a, Z583 2 0 0 a = Z583' 2 0 0 a := h583.1
              refine dite (by simp only [e583_2]) (fun _ => ?_) (fun _ => ?_)
              · refine dlet_Z (P := ym) (dq_403 h583 rfl rfl (by simp only [e583_2]) rfl) (fun Z587 Z587' h587 => ?_)
                exact h587
              · refine dlet_Z (P := ym) (dq_403 h583 rfl rfl (by simp only [e583_2]) rfl) (fun Z588 Z588' h588 => ?_)
                exact h588
          · refine dlet_Z (P := ym) (dq_403 h569 rfl rfl (by simp only [e569_2]) rfl) (fun Z589 Z589' h589 => ?_)
            have e589_2 : ∀ a, Z589 2 0 0 a = Z589' 2 0 0 a := h589.1
            refine dite (by simp only [e589_2]) (fun _ => ?_) (fun _ => ?_)
            · refine dlet_Z (P := ym) (dq_403 h589 rfl rfl (by simp only [e589_2]) rfl) (fun Z593 Z593' h593 => ?_)
              have e593_2 : ∀ a, Z593 2 0 0 a = Z593' 2 0 0 a := h593.1
              refine dite (by simp only [e593_2]) (fun _ => ?_) (fun _ => ?_)
              · refine dlet_Z (P := ym) (dq_403 h593 rfl rfl (by simp only [e593_2]) rfl) (fun Z597 Z597' h597 => ?_)
                exact h597
              · refine dlet_Z (P := ym) (dq_403 h593 rfl rfl (by simp only [e593_2]) rfl) (fun Z598 Z598' h598 => ?_)
                exact h598
            · refine dlet_Z (P := ym) (dq_403 h589 rfl rfl (by simp only [e589_2]) rfl) (fun Z599 Z599' h599 => ?_)
              have e599_2 : ∀ a, Z599 2 0 0 a = Z599' 2 0 0 a := h599.1
              refine dite (by simp only [e599_2]) (fun _ => ?_) (fun _ => ?_)
              · refine dlet_Z (P := ym) (dq_403 h599 rfl rfl (by simp only [e599_2]) rfl) (fun Z603 Z603' h603 => ?_)
                exact h603
              · refine dlet_Z (P := ym) (dq_403 h599 rfl rfl (by simp only [e599_2]) rfl) (fun Z604 Z604' h604 => ?_)
                exact h604
        · refine dlet_Z (P := ym) (dq_403 h565 rfl rfl (by simp only [e565_2]) rfl) (fun Z605 Z605' h605 => ?_)
          have e605_2 : ∀ a, Z605 2 0 0 a = Z605' 2 0 0 a := h605.1
          refine dite (by simp only [e605_2]) (fun _ => ?_) (fun _ => ?_)
          · refine dlet_Z (P := ym) (dq_403 h605 rfl rfl (by simp only [e605_2]) rfl) (fun Z609 Z609' h609 => ?_)
            have e609_2 : ∀ a, Z609 2 0 0 a = Z609' 2 0 0 a := h609.1
            refine dite (by simp only [e609_2]) (fun _ => ?_) (fun _ => ?_)
            · refine dlet_Z (P := ym) (dq_403 h609 rfl rfl (by simp only [e609_2]) rfl) (fun Z613 Z613' h613 => ?_)
              have e613_2 : ∀ a, Z613 2 0 0 a = Z613' 2 0 0 a := h613.1
              refine dite (by simp only [e613_2]) (fun _ => ?_) (fun _ => ?_)
              · refine dlet_Z (P := ym) (dq_403 h613 rfl rfl (by simp only [e613_2]) rfl) (fun Z617 Z617' h617 => ?_)
                exact h617
              · refine dlet_Z (P := ym) (dq_403 h613 rfl rfl (by simp only [e613_2]) rfl) (fun Z618 Z618' h618 => ?_)
                exact h618
            · refine dlet_Z (P := ym) (dq_403 h609 rfl rfl (by simp only [e609_2]) rfl) (fun Z619 Z619' h619 => ?_)
              have e619_2 : ∀ a, Z619 2 0 0 a = Z619' 2 0 0 a := h619.1
              refine dite (by simp only [e619_2]) (fun _ => ?_) (fun _ => ?_)
              · refine dlet_Z (P := ym) (dq_403 h619 rfl rfl (by simp only [e619_2]) rfl) (fun Z623 Z623' h623 => ?_)
                exact h623
              · refine dlet_Z (P := ym) (dq_403 h619 rfl rfl (by simp only [e619_2]) rfl) (fun Z624 Z624' h624 => ?_)
                exact h624
          · refine dlet_Z (P := ym) (dq_403 h605 rfl rfl (by simp only [e605_2]) rfl) (fun Z625 Z625' h625 => ?_)
            have e625_2 : ∀ a, Z625 2 0 0 a = Z625' 2 0 0 a := h625.1
            refine dite (by simp only [e625_2]) (fun _ => ?_) (fun _ => ?_)
            · refine dlet_Z (P := ym) (dq_403 h625 rfl rfl (by simp only [e625_2]) rfl) (fun Z629 Z629' h629 => ?_)
              have e629_2 : ∀ a, Z629 2 0 0 a = Z629' 2 0 0 a := h629.1
              refine dite (by simp only [e629_2]) (fun _ => ?_) (fun _ => ?_)
              · refine dlet_Z (P := ym) (dq_403 h629 rfl rfl (by simp only [e629_2]) rfl) (fun Z633 Z633' h633 => ?_)
                exact h633
              · refine dlet_Z (P := ym) (dq_403 h629 rfl rfl (by simp only [e629_2]) rfl) (fun Z634 Z634' h634 => ?_)
                exact h634
            · refine dlet_Z (P := ym) (dq_403 h625 rfl rfl (by simp only [e625_2]) rfl) (fun Z635 Z635' h635 => ?_)
              have e635_2 : ∀ a, Z635 2 0 0 a = Z635' 2 0 0 a := h635.1
              refine dite (by simp only [e635_2]) (fun _ => ?_) (fun _ => ?_)
              · refine dlet_Z (P := ym) (dq_403 h635 rfl rfl (by simp only [e635_2]) rfl) (fun Z639 Z639' h639 => ?_)
                exact h639
              · refine dlet_Z (P := ym) (dq_403 h635 rfl rfl (by simp only [e635_2]) rfl) (fun Z640 Z640' h640 => ?_)
                exact h640
theorem dl_527_1 : ∀ (m : Nat) {Z Z' : qz_Z} {x1 x2 x3 x1' x2' x3' : Int}, x1 = x1' → ym0 Z Z' → x2 = x2' → x3 = x3' → zl_527_1 x1 m Z x2 x3 = zl_527_1 x1' m Z' x2' x3'
  | 0, Z, Z', x1, x2, x3, x1', x2', x3', ix1, h0, ix2, ix3 => by
    subst ix1
    subst ix2
    subst ix3
    unfold zl_527_1
    exact rfl
  | m + 1, Z, Z', x1, x2, x3, x1', x2', x3', ix1, h0, ix2, ix3 => by
    subst ix1
    subst ix2
    subst ix3
    have e0_2 : ∀ a, Z 2 0 0 a = Z' 2 0 0 a := h0
    unfold zl_527_1
    refine dite (by simp only [e0_2]) (fun _ => ?_) (fun _ => ?_)
    · exact rfl
    · refine dite (by simp only [e0_2]) (fun _ => ?_) (fun _ => ?_)
      · exact dl_527_1 m rfl h0 rfl rfl
      · refine dite (by simp only [e0_2]) (fun _ => ?_) (fun _ => ?_)
        · exact dl_527_1 m rfl h0 rfl rfl
        · exact dl_527_1 m rfl h0 (by simp only [e0_2]) rfl
theorem dq_527 {Z Z' : qz_Z} {a1 a1' : Int} (h0 : ym0 Z Z') (ia1 : a1 = a1') : zf_527 Z a1 = zf_527 Z' a1' := by
  subst ia1
  unfold zf_527
  refine dlet2e (dl_527_1 _ rfl h0 rfl rfl) (fun y1 y2 => ?_)
  exact rfl
