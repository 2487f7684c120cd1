/-  |  -/
theorem rr_106 {b : Int} {Z Y : qz_Z} {p w : Int} (hRa : zR b Z Y) (hV : zV Y)  (e0 : 0 ≤ p) (e1 : p < 48) (e2 : 0 ≤ w) (e3 : w ≤ 8) {C : Int} {M : Int} (hC : zE C (zf_106 Z b p w)) (hM : zE M (zf_317 Y p w)) : C = M := by
  have hRb := zRx_0 hRa
  unfold zf_106 at hC
  unfold zf_317 at hM
  rcases zE_c hC with ⟨h1, hC⟩ | ⟨h1, hC⟩
  · rcases zE_c hM with ⟨h2, hM⟩ | ⟨h2, hM⟩
    · have q3 := zhd ((zRl_44_4 (x := p) (a := 204 + 20 * p) hRa (by omega) (by omega) (by omega)))
      obtain rfl : C = _ := hC
      obtain rfl : M = _ := hM
      exact (by first | rfl | (have q3 := zhx q3; omega) | (simp only [zhx q3] <;> omega) | (have q3 := zhx q3; refine w3z ?_ ?_ ?_ <;> omega) | (have q3 := zhx q3; refine w3y ?_ ?_ ?_ <;> omega) | (have q3 := zhx q3; refine z2o ?_ ?_ ?_ <;> omega))
    · rcases zE_c hM with ⟨h4, hM⟩ | ⟨h4, hM⟩
      · have q5 := zhd ((zRl_44_4 (x := p) (a := 204 + 20 * p) hRa (by omega) (by omega) (by omega)))
        obtain rfl : C = _ := hC
        obtain rfl : M = _ := hM
        exact (by first | rfl | (have q5 := zhx q5; omega) | (simp only [zhx q5] <;> omega) | (have q5 := zhx q5; refine w3z ?_ ?_ ?_ <;> omega) | (have q5 := zhx q5; refine w3y ?_ ?_ ?_ <;> omega) | (have q5 := zhx q5; refine z2o ?_ ?_ ?_ <;> omega))
      · rcases zE_c hM with ⟨h6, hM⟩ | ⟨h6, hM⟩
        · have q7 := zhd ((zRl_44_4 (x := p) (a := 204 + 20 * p) hRa (by omega) (by omega) (by omega)))
          obtain rfl : C = _ := hC
          obtain rfl : M = _ := hM
          exact (by first | rfl | (have q7 := zhx q7; omega) | (simp only [zhx q7] <;> omega) | (have q7 := zhx q7; refine w3z ?_ ?_ ?_ <;> omega) | (have q7 := zhx q7; refine w3y ?_ ?_ ?_ <;> omega) | (have q7 := zhx q7; refine z2o ?_ ?_ ?_ <;> omega))
        · rcases zE_c hM with ⟨h8, hM⟩ | ⟨h8, hM⟩
          · obtain ⟨v9, hv9, hM⟩ := zl_x hM
            have q10 := zhd ((zRl_44_4 (x := p) (a := 204 + 20 * p) hRa (by omega) (by omega) (by omega)))
            obtain rfl : C = _ := hC
            obtain rfl : M = _ := hM
            exact (by first | rfl | (have q10 := zhx q10; omega) | (simp only [zhx q10] <;> omega) | (have q10 := zhx q10; refine w3z ?_ ?_ ?_ <;> omega) | (have q10 := zhx q10; refine w3y ?_ ?_ ?_ <;> omega) | (have q10 := zhx q10; refine z2o ?_ ?_ ?_ <;> omega))
          · rcases zE_c hM with ⟨h11, hM⟩ | ⟨h11, hM⟩
            · have q12 := zhd ((zRl_44_4 (x := p) (a := 204 + 20 * p) hRa (by omega) (by omega) (by omega)))
              obtain rfl : C = _ := hC
              obtain rfl : M = _ := hM
              exact (by first | rfl | (have q12 := zhx q12; omega) | (simp only [zhx q12] <;> omega) | (have q12 := zhx q12; refine w3z ?_ ?_ ?_ <;> omega) | (have q12 := zhx q12; refine w3y ?_ ?_ ?_ <;> omega) | (have q12 := zhx q12; refine z2o ?_ ?_ ?_ <;> omega))
            · rcases zE_c hM with ⟨h13, hM⟩ | ⟨h13, hM⟩
              · have q14 := zhd (zVr_44_10 (x := p) (a := 210 + 20 * p) hV (by omega) (by omega) (by omega))
                rcases zE_c hM with ⟨h15, hM⟩ | ⟨h15, hM⟩
                · have q16 := zhd ((zRl_44_4 (x := p) (a := 204 + 20 * p) hRa (by have q14 := zhx q14; omega) (by have q14 := zhx q14; omega) (by have q14 := zhx q14; omega)))
                  obtain rfl : C = _ := hC
                  obtain rfl : M = _ := hM
                  exact (by first | rfl | (have q14 := zhx q14; have q16 := zhx q16; omega) | (simp only [zhx q14, zhx q16] <;> omega) | (have q14 := zhx q14; have q16 := zhx q16; refine w3z ?_ ?_ ?_ <;> omega) | (have q14 := zhx q14; have q16 := zhx q16; refine w3y ?_ ?_ ?_ <;> omega) | (have q14 := zhx q14; have q16 := zhx q16; refine z2o ?_ ?_ ?_ <;> omega))
                · have q17 := zhd ((zRl_44_4 (x := p) (a := 204 + 20 * p) hRa (by have q14 := zhx q14; omega) (by have q14 := zhx q14; omega) (by have q14 := zhx q14; omega)))
                  obtain rfl : C = _ := hC
                  obtain rfl : M = _ := hM
                  exact (by first | rfl | (have q14 := zhx q14; have q17 := zhx q17; omega) | (simp only [zhx q14, zhx q17] <;> omega) | (have q14 := zhx q14; have q17 := zhx q17; refine w3z ?_ ?_ ?_ <;> omega) | (have q14 := zhx q14; have q17 := zhx q17; refine w3y ?_ ?_ ?_ <;> omega) | (have q14 := zhx q14; have q17 := zhx q17; refine z2o ?_ ?_ ?_ <;> omega))
              · have q18 := zhd (zVr_44_10 (x := p) (a := 210 + 20 * p) hV (by omega) (by omega) (by omega))
                rcases zE_c hM with ⟨h19, hM⟩ | ⟨h19, hM⟩
                · have q20 := zhd ((zRl_44_4 (x := p) (a := 204 + 20 * p) hRa (by have q18 := zhx q18; omega) (by have q18 := zhx q18; omega) (by have q18 := zhx q18; omega)))
                  obtain rfl : C = _ := hC
                  obtain rfl : M = _ := hM
                  exact (by first | rfl | (have q18 := zhx q18; have q20 := zhx q20; omega) | (simp only [zhx q18, zhx q20] <;> omega) | (have q18 := zhx q18; have q20 := zhx q20; refine w3z ?_ ?_ ?_ <;> omega) | (have q18 := zhx q18; have q20 := zhx q20; refine w3y ?_ ?_ ?_ <;> omega) | (have q18 := zhx q18; have q20 := zhx q20; refine z2o ?_ ?_ ?_ <;> omega))
                · have q21 := zhd (zVr_44_9 (x := p) (a := 209 + 20 * p) hV (by have q18 := zhx q18; omega) (by have q18 := zhx q18; omega) (by have q18 := zhx q18; omega))
                  rcases zE_c hM with ⟨h22, hM⟩ | ⟨h22, hM⟩
                  · have q23 := zhd ((zRl_44_4 (x := p) (a := 204 + 20 * p) hRa (by have q18 := zhx q18; have q21 := zhx q21; omega) (by have q18 := zhx q18; have q21 := zhx q21; omega) (by have q18 := zhx q18; have q21 := zhx q21; omega)))
                    obtain rfl : C = _ := hC
                    obtain rfl : M = _ := hM
                    exact (by first | rfl | (have q18 := zhx q18; have q21 := zhx q21; have q23 := zhx q23; omega) | (simp only [zhx q18, zhx q21, zhx q23] <;> omega) | (have q18 := zhx q18; have q21 := zhx q21; have q23 := zhx q23; refine w3z ?_ ?_ ?_ <;> omega) | (have q18 := zhx q18; have q21 := zhx q21; have q23 := zhx q23; refine w3y ?_ ?_ ?_ <;> omega) | (have q18 := zhx q18; have q21 := zhx q21; have q23 := zhx q23; refine z2o ?_ ?_ ?_ <;> omega))
                  · have q24 := zhd ((zRl_44_4 (x := p) (a := 204 + 20 * p) hRa (by have q18 := zhx q18; have q21 := zhx q21; omega) (by have q18 := zhx q18; have q21 := zhx q21; omega) (by have q18 := zhx q18; have q21 := zhx q21; omega)))
                    obtain rfl : C = _ := hC
                    obtain rfl : M = _ := hM
                    exact (by first | rfl | (have q18 := zhx q18; have q21 := zhx q21; have q24 := zhx q24; omega) | (simp only [zhx q18, zhx q21, zhx q24] <;> omega) | (have q18 := zhx q18; have q21 := zhx q21; have q24 := zhx q24; refine w3z ?_ ?_ ?_ <;> omega) | (have q18 := zhx q18; have q21 := zhx q21; have q24 := zhx q24; refine w3y ?_ ?_ ?_ <;> omega) | (have q18 := zhx q18; have q21 := zhx q21; have q24 := zhx q24; refine z2o ?_ ?_ ?_ <;> omega))
  · rcases zE_c hC with ⟨h25, hC⟩ | ⟨h25, hC⟩
    · replace hM := zE_n hM (by omega)
      replace hM := zE_p hM (by omega)
      obtain rfl : C = _ := hC
      obtain rfl : M = _ := hM
      exact (by first | rfl | (omega) | (simp only [] <;> omega) | (refine w3z ?_ ?_ ?_ <;> omega) | (refine w3y ?_ ?_ ?_ <;> omega) | (refine z2o ?_ ?_ ?_ <;> omega))
    · rcases zE_c hC with ⟨h26, hC⟩ | ⟨h26, hC⟩
      · replace hM := zE_n hM (by omega)
        replace hM := zE_n hM (by omega)
        replace hM := zE_p hM (by omega)
        have q27 := zhd ((zRl_44_3 (x := p) (a := 203 + 20 * p) hRa (by omega) (by omega) (by omega)))
        obtain rfl : C = _ := hC
        obtain rfl : M = _ := hM
        exact (by first | rfl | (have q27 := zhx q27; omega) | (simp only [zhx q27] <;> omega) | (have q27 := zhx q27; refine w3z ?_ ?_ ?_ <;> omega) | (have q27 := zhx q27; refine w3y ?_ ?_ ?_ <;> omega) | (have q27 := zhx q27; refine z2o ?_ ?_ ?_ <;> omega))
      · rcases zE_c hC with ⟨h28, hC⟩ | ⟨h28, hC⟩
        · obtain ⟨v29, hv29, hC⟩ := zl_x hC
          have q30 := zhd (show v29 = (zf_329 Y p) from hv29.trans (rr_103 hRa hV   rfl rfl))
          replace hM := zE_n hM (by omega)
          replace hM := zE_n hM (by omega)
          replace hM := zE_n hM (by omega)
          replace hM := zE_p hM (by omega)
          obtain ⟨v31, hv31, hM⟩ := zl_x hM
          have q32 := zhd (hv31)
          obtain rfl : C = _ := hC
          obtain rfl : M = _ := hM
          exact (by first | rfl | (have q30 := zhx q30; have q32 := zhx q32; omega) | (simp only [zhx q30, zhx q32] <;> omega) | (have q30 := zhx q30; have q32 := zhx q32; refine w3z ?_ ?_ ?_ <;> omega) | (have q30 := zhx q30; have q32 := zhx q32; refine w3y ?_ ?_ ?_ <;> omega) | (have q30 := zhx q30; have q32 := zhx q32; refine z2o ?_ ?_ ?_ <;> omega))
        · rcases zE_c hC with ⟨h33, hC⟩ | ⟨h33, hC⟩
          · replace hM := zE_n hM (by omega)
            replace hM := zE_n hM (by omega)
            replace hM := zE_n hM (by omega)
            replace hM := zE_n hM (by omega)
            replace hM := zE_p hM (by omega)
            have q34 := zhd ((zRl_44_6 (x := p) (a := 206 + 20 * p) hRa (by omega) (by omega) (by omega)))
            obtain rfl : C = _ := hC
            obtain rfl : M = _ := hM
            exact (by first | rfl | (have q34 := zhx q34; omega) | (simp only [zhx q34] <;> omega) | (have q34 := zhx q34; refine w3z ?_ ?_ ?_ <;> omega) | (have q34 := zhx q34; refine w3y ?_ ?_ ?_ <;> omega) | (have q34 := zhx q34; refine z2o ?_ ?_ ?_ <;> omega))
          · rcases zE_c hC with ⟨h35, hC⟩ | ⟨h35, hC⟩
            · have q36 := zhd (zVr_44_10 (x := p) (a := 210 + 20 * p) hV (by omega) (by omega) (by omega))
              have q37 := zhd ((zRl_44_10 (x := p) (a := 210 + 20 * p) hRa (by omega) (by omega) (by omega)))
              rcases zE_c hC with ⟨h38, hC⟩ | ⟨h38, hC⟩
              · replace hM := zE_n hM (by first | (have q36 := zhx q36; have q37 := zhx q37; omega) | (simp only [zhx q36, zhx q37] at h1 h25 h26 h28 h33 h35 h38 ⊢ <;> omega))
                replace hM := zE_n hM (by first | (have q36 := zhx q36; have q37 := zhx q37; omega) | (simp only [zhx q36, zhx q37] at h1 h25 h26 h28 h33 h35 h38 ⊢ <;> omega))
                replace hM := zE_n hM (by first | (have q36 := zhx q36; have q37 := zhx q37; omega) | (simp only [zhx q36, zhx q37] at h1 h25 h26 h28 h33 h35 h38 ⊢ <;> omega))
                replace hM := zE_n hM (by first | (have q36 := zhx q36; have q37 := zhx q37; omega) | (simp only [zhx q36, zhx q37] at h1 h25 h26 h28 h33 h35 h38 ⊢ <;> omega))
                replace hM := zE_n hM (by first | (have q36 := zhx q36; have q37 := zhx q37; omega) | (simp only [zhx q36, zhx q37] at h1 h25 h26 h28 h33 h35 h38 ⊢ <;> omega))
                replace hM := zE_p hM (by first | (have q36 := zhx q36; have q37 := zhx q37; omega) | (simp only [zhx q36, zhx q37] at h1 h25 h26 h28 h33 h35 h38 ⊢ <;> omega))
                replace hM := zE_n hM (by first | (have q36 := zhx q36; have q37 := zhx q37; omega) | (simp only [zhx q36, zhx q37] at h1 h25 h26 h28 h33 h35 h38 ⊢ <;> omega))
                obtain rfl : C = _ := hC
                obtain rfl : M = _ := hM
                exact (by first | rfl | (have q36 := zhx q36; have q37 := zhx q37; omega) | (simp only [zhx q36, zhx q37] <;> omega) | (have q36 := zhx q36; have q37 := zhx q37; refine w3z ?_ ?_ ?_ <;> omega) | (have q36 := zhx q36; have q37 := zhx q37; refine w3y ?_ ?_ ?_ <;> omega) | (have q36 := zhx q36; have q37 := zhx q37; refine z2o ?_ ?_ ?_ <;> omega))
              · rcases zE_c hC with ⟨h39, hC⟩ | ⟨h39, hC⟩
                · replace hM := zE_n hM (by first | (have q36 := zhx q36; have q37 := zhx q37; omega) | (simp only [zhx q36, zhx q37] at h1 h25 h26 h28 h33 h35 h38 h39 ⊢ <;> omega))
                  replace hM := zE_n hM (by first | (have q36 := zhx q36; have q37 := zhx q37; omega) | (simp only [zhx q36, zhx q37] at h1 h25 h26 h28 h33 h35 h38 h39 ⊢ <;> omega))
                  replace hM := zE_n hM (by first | (have q36 := zhx q36; have q37 := zhx q37; omega) | (simp only [zhx q36, zhx q37] at h1 h25 h26 h28 h33 h35 h38 h39 ⊢ <;> omega))
                  replace hM := zE_n hM (by first | (have q36 := zhx q36; have q37 := zhx q37; omega) | (simp only [zhx q36, zhx q37] at h1 h25 h26 h28 h33 h35 h38 h39 ⊢ <;> omega))
                  replace hM := zE_n hM (by first | (have q36 := zhx q36; have q37 := zhx q37; omega) | (simp only [zhx q36, zhx q37] at h1 h25 h26 h28 h33 h35 h38 h39 ⊢ <;> omega))
                  replace hM := zE_p hM (by first | (have q36 := zhx q36; have q37 := zhx q37; omega) | (simp only [zhx q36, zhx q37] at h1 h25 h26 h28 h33 h35 h38 h39 ⊢ <;> omega))
                  rcases zE_c hM with ⟨h40, hM⟩ | ⟨h40, hM⟩
                  · obtain rfl : C = _ := hC
                    obtain rfl : M = _ := hM
                    exact (by first | rfl | (have q36 := zhx q36; have q37 := zhx q37; omega) | (simp only [zhx q36, zhx q37] <;> omega) | (have q36 := zhx q36; have q37 := zhx q37; refine w3z ?_ ?_ ?_ <;> omega) | (have q36 := zhx q36; have q37 := zhx q37; refine w3y ?_ ?_ ?_ <;> omega) | (have q36 := zhx q36; have q37 := zhx q37; refine z2o ?_ ?_ ?_ <;> omega))
                  · obtain rfl : C = _ := hC
                    obtain rfl : M = _ := hM
                    exact (by first | rfl | (have q36 := zhx q36; have q37 := zhx q37; omega) | (simp only [zhx q36, zhx q37] <;> omega) | (have q36 := zhx q36; have q37 := zhx q37; refine w3z ?_ ?_ ?_ <;> omega) | (have q36 := zhx q36; have q37 := zhx q37; refine w3y ?_ ?_ ?_ <;> omega) | (have q36 := zhx q36; have q37 := zhx q37; refine z2o ?_ ?_ ?_ <;> omega))
                · replace hM := zE_n hM (by first | (have q36 := zhx q36; have q37 := zhx q37; omega) | (simp only [zhx q36, zhx q37] at h1 h25 h26 h28 h33 h35 h38 h39 ⊢ <;> omega))
                  replace hM := zE_n hM (by first | (have q36 := zhx q36; have q37 := zhx q37; omega) | (simp only [zhx q36, zhx q37] at h1 h25 h26 h28 h33 h35 h38 h39 ⊢ <;> omega))
                  replace hM := zE_n hM (by first | (have q36 := zhx q36; have q37 := zhx q37; omega) | (simp only [zhx q36, zhx q37] at h1 h25 h26 h28 h33 h35 h38 h39 ⊢ <;> omega))
                  replace hM := zE_n hM (by first | (have q36 := zhx q36; have q37 := zhx q37; omega) | (simp only [zhx q36, zhx q37] at h1 h25 h26 h28 h33 h35 h38 h39 ⊢ <;> omega))
                  replace hM := zE_n hM (by first | (have q36 := zhx q36; have q37 := zhx q37; omega) | (simp only [zhx q36, zhx q37] at h1 h25 h26 h28 h33 h35 h38 h39 ⊢ <;> omega))
                  replace hM := zE_p hM (by first | (have q36 := zhx q36; have q37 := zhx q37; omega) | (simp only [zhx q36, zhx q37] at h1 h25 h26 h28 h33 h35 h38 h39 ⊢ <;> omega))
                  replace hM := zE_n hM (by first | (have q36 := zhx q36; have q37 := zhx q37; omega) | (simp only [zhx q36, zhx q37] at h1 h25 h26 h28 h33 h35 h38 h39 ⊢ <;> omega))
                  obtain rfl : C = _ := hC
                  obtain rfl : M = _ := hM
                  exact (by first | rfl | (have q36 := zhx q36; have q37 := zhx q37; omega) | (simp only [zhx q36, zhx q37] <;> omega) | (have q36 := zhx q36; have q37 := zhx q37; refine w3z ?_ ?_ ?_ <;> omega) | (have q36 := zhx q36; have q37 := zhx q37; refine w3y ?_ ?_ ?_ <;> omega) | (have q36 := zhx q36; have q37 := zhx q37; refine z2o ?_ ?_ ?_ <;> omega))
            · have q41 := zhd (zVr_44_10 (x := p) (a := 210 + 20 * p) hV (by omega) (by omega) (by omega))
              have q42 := zhd ((zRl_44_10 (x := p) (a := 210 + 20 * p) hRa (by omega) (by omega) (by omega)))
              rcases zE_c hC with ⟨h43, hC⟩ | ⟨h43, hC⟩
              · have q44 := zhd (zVr_44_9 (x := p) (a := 209 + 20 * p) hV (by have q41 := zhx q41; have q42 := zhx q42; omega) (by have q41 := zhx q41; have q42 := zhx q42; omega) (by have q41 := zhx q41; have q42 := zhx q42; omega))
                have q45 := zhd ((zRl_44_9 (x := p) (a := 209 + 20 * p) hRa (by have q41 := zhx q41; have q42 := zhx q42; omega) (by have q41 := zhx q41; have q42 := zhx q42; omega) (by have q41 := zhx q41; have q42 := zhx q42; omega)))
                rcases zE_c hC with ⟨h46, hC⟩ | ⟨h46, hC⟩
                · replace hM := zE_n hM (by first | (have q41 := zhx q41; have q42 := zhx q42; have q44 := zhx q44; have q45 := zhx q45; omega) | (simp only [zhx q41, zhx q42, zhx q44, zhx q45] at h1 h25 h26 h28 h33 h35 h43 h46 ⊢ <;> omega))
                  replace hM := zE_n hM (by first | (have q41 := zhx q41; have q42 := zhx q42; have q44 := zhx q44; have q45 := zhx q45; omega) | (simp only [zhx q41, zhx q42, zhx q44, zhx q45] at h1 h25 h26 h28 h33 h35 h43 h46 ⊢ <;> omega))
                  replace hM := zE_n hM (by first | (have q41 := zhx q41; have q42 := zhx q42; have q44 := zhx q44; have q45 := zhx q45; omega) | (simp only [zhx q41, zhx q42, zhx q44, zhx q45] at h1 h25 h26 h28 h33 h35 h43 h46 ⊢ <;> omega))
                  replace hM := zE_n hM (by first | (have q41 := zhx q41; have q42 := zhx q42; have q44 := zhx q44; have q45 := zhx q45; omega) | (simp only [zhx q41, zhx q42, zhx q44, zhx q45] at h1 h25 h26 h28 h33 h35 h43 h46 ⊢ <;> omega))
                  replace hM := zE_n hM (by first | (have q41 := zhx q41; have q42 := zhx q42; have q44 := zhx q44; have q45 := zhx q45; omega) | (simp only [zhx q41, zhx q42, zhx q44, zhx q45] at h1 h25 h26 h28 h33 h35 h43 h46 ⊢ <;> omega))
                  replace hM := zE_n hM (by first | (have q41 := zhx q41; have q42 := zhx q42; have q44 := zhx q44; have q45 := zhx q45; omega) | (simp only [zhx q41, zhx q42, zhx q44, zhx q45] at h1 h25 h26 h28 h33 h35 h43 h46 ⊢ <;> omega))
                  replace hM := zE_n hM (by first | (have q41 := zhx q41; have q42 := zhx q42; have q44 := zhx q44; have q45 := zhx q45; omega) | (simp only [zhx q41, zhx q42, zhx q44, zhx q45] at h1 h25 h26 h28 h33 h35 h43 h46 ⊢ <;> omega))
                  replace hM := zE_p hM (by first | (have q41 := zhx q41; have q42 := zhx q42; have q44 := zhx q44; have q45 := zhx q45; omega) | (simp only [zhx q41, zhx q42, zhx q44, zhx q45] at h1 h25 h26 h28 h33 h35 h43 h46 ⊢ <;> omega))
                  obtain rfl : C = _ := hC
                  obtain rfl : M = _ := hM
                  exact (by first | rfl | (have q41 := zhx q41; have q42 := zhx q42; have q44 := zhx q44; have q45 := zhx q45; omega) | (simp only [zhx q41, zhx q42, zhx q44, zhx q45] <;> omega) | (have q41 := zhx q41; have q42 := zhx q42; have q44 := zhx q44; have q45 := zhx q45; refine w3z ?_ ?_ ?_ <;> omega) | (have q41 := zhx q41; have q42 := zhx q42; have q44 := zhx q44; have q45 := zhx q45; refine w3y ?_ ?_ ?_ <;> omega) | (have q41 := zhx q41; have q42 := zhx q42; have q44 := zhx q44; have q45 := zhx q45; refine z2o ?_ ?_ ?_ <;> omega))
                · replace hM := zE_n hM (by first | (have q41 := zhx q41; have q42 := zhx q42; have q44 := zhx q44; have q45 := zhx q45; omega) | (simp only [zhx q41, zhx q42, zhx q44, zhx q45] at h1 h25 h26 h28 h33 h35 h43 h46 ⊢ <;> omega))
                  replace hM := zE_n hM (by first | (have q41 := zhx q41; have q42 := zhx q42; have q44 := zhx q44; have q45 := zhx q45; omega) | (simp only [zhx q41, zhx q42, zhx q44, zhx q45] at h1 h25 h26 h28 h33 h35 h43 h46 ⊢ <;> omega))
                  replace hM := zE_n hM (by first | (have q41 := zhx q41; have q42 := zhx q42; have q44 := zhx q44; have q45 := zhx q45; omega) | (simp only [zhx q41, zhx q42, zhx q44, zhx q45] at h1 h25 h26 h28 h33 h35 h43 h46 ⊢ <;> omega))
                  replace hM := zE_n hM (by first | (have q41 := zhx q41; have q42 := zhx q42; have q44 := zhx q44; have q45 := zhx q45; omega) | (simp only [zhx q41, zhx q42, zhx q44, zhx q45] at h1 h25 h26 h28 h33 h35 h43 h46 ⊢ <;> omega))
                  replace hM := zE_n hM (by first | (have q41 := zhx q41; have q42 := zhx q42; have q44 := zhx q44; have q45 := zhx q45; omega) | (simp only [zhx q41, zhx q42, zhx q44, zhx q45] at h1 h25 h26 h28 h33 h35 h43 h46 ⊢ <;> omega))
                  replace hM := zE_n hM (by first | (have q41 := zhx q41; have q42 := zhx q42; have q44 := zhx q44; have q45 := zhx q45; omega) | (simp only [zhx q41, zhx q42, zhx q44, zhx q45] at h1 h25 h26 h28 h33 h35 h43 h46 ⊢ <;> omega))
                  replace hM := zE_n hM (by first | (have q41 := zhx q41; have q42 := zhx q42; have q44 := zhx q44; have q45 := zhx q45; omega) | (simp only [zhx q41, zhx q42, zhx q44, zhx q45] at h1 h25 h26 h28 h33 h35 h43 h46 ⊢ <;> omega))
                  replace hM := zE_n hM (by first | (have q41 := zhx q41; have q42 := zhx q42; have q44 := zhx q44; have q45 := zhx q45; omega) | (simp only [zhx q41, zhx q42, zhx q44, zhx q45] at h1 h25 h26 h28 h33 h35 h43 h46 ⊢ <;> omega))
                  obtain rfl : C = _ := hC
                  obtain rfl : M = _ := hM
                  exact (by first | rfl | (have q41 := zhx q41; have q42 := zhx q42; have q44 := zhx q44; have q45 := zhx q45; omega) | (simp only [zhx q41, zhx q42, zhx q44, zhx q45] <;> omega) | (have q41 := zhx q41; have q42 := zhx q42; have q44 := zhx q44; have q45 := zhx q45; refine w3z ?_ ?_ ?_ <;> omega) | (have q41 := zhx q41; have q42 := zhx q42; have q44 := zhx q44; have q45 := zhx q45; refine w3y ?_ ?_ ?_ <;> omega) | (have q41 := zhx q41; have q42 := zhx q42; have q44 := zhx q44; have q45 := zhx q45; refine z2o ?_ ?_ ?_ <;> omega))
              · rcases zE_c hC with ⟨h47, hC⟩ | ⟨h47, hC⟩
                · replace hM := zE_n hM (by first | (have q41 := zhx q41; have q42 := zhx q42; omega) | (simp only [zhx q41, zhx q42] at h1 h25 h26 h28 h33 h35 h43 h47 ⊢ <;> omega))
                  replace hM := zE_n hM (by first | (have q41 := zhx q41; have q42 := zhx q42; omega) | (simp only [zhx q41, zhx q42] at h1 h25 h26 h28 h33 h35 h43 h47 ⊢ <;> omega))
                  replace hM := zE_n hM (by first | (have q41 := zhx q41; have q42 := zhx q42; omega) | (simp only [zhx q41, zhx q42] at h1 h25 h26 h28 h33 h35 h43 h47 ⊢ <;> omega))
                  replace hM := zE_n hM (by first | (have q41 := zhx q41; have q42 := zhx q42; omega) | (simp only [zhx q41, zhx q42] at h1 h25 h26 h28 h33 h35 h43 h47 ⊢ <;> omega))
                  replace hM := zE_n hM (by first | (have q41 := zhx q41; have q42 := zhx q42; omega) | (simp only [zhx q41, zhx q42] at h1 h25 h26 h28 h33 h35 h43 h47 ⊢ <;> omega))
                  replace hM := zE_n hM (by first | (have q41 := zhx q41; have q42 := zhx q42; omega) | (simp only [zhx q41, zhx q42] at h1 h25 h26 h28 h33 h35 h43 h47 ⊢ <;> omega))
                  rcases zE_c hM with ⟨h48, hM⟩ | ⟨h48, hM⟩
                  · obtain rfl : C = _ := hC
                    obtain rfl : M = _ := hM
                    exact (by first | rfl | (have q41 := zhx q41; have q42 := zhx q42; omega) | (simp only [zhx q41, zhx q42] <;> omega) | (have q41 := zhx q41; have q42 := zhx q42; refine w3z ?_ ?_ ?_ <;> omega) | (have q41 := zhx q41; have q42 := zhx q42; refine w3y ?_ ?_ ?_ <;> omega) | (have q41 := zhx q41; have q42 := zhx q42; refine z2o ?_ ?_ ?_ <;> omega))
                  · have q49 := zhd (zVr_44_9 (x := p) (a := 209 + 20 * p) hV (by have q41 := zhx q41; have q42 := zhx q42; omega) (by have q41 := zhx q41; have q42 := zhx q42; omega) (by have q41 := zhx q41; have q42 := zhx q42; omega))
                    rcases zE_c hM with ⟨h50, hM⟩ | ⟨h50, hM⟩
                    · obtain rfl : C = _ := hC
                      obtain rfl : M = _ := hM
                      exact (by first | rfl | (have q41 := zhx q41; have q42 := zhx q42; have q49 := zhx q49; omega) | (simp only [zhx q41, zhx q42, zhx q49] <;> omega) | (have q41 := zhx q41; have q42 := zhx q42; have q49 := zhx q49; refine w3z ?_ ?_ ?_ <;> omega) | (have q41 := zhx q41; have q42 := zhx q42; have q49 := zhx q49; refine w3y ?_ ?_ ?_ <;> omega) | (have q41 := zhx q41; have q42 := zhx q42; have q49 := zhx q49; refine z2o ?_ ?_ ?_ <;> omega))
                    · obtain rfl : C = _ := hC
                      obtain rfl : M = _ := hM
                      exact (by first | rfl | (have q41 := zhx q41; have q42 := zhx q42; have q49 := zhx q49; omega) | (simp only [zhx q41, zhx q42, zhx q49] <;> omega) | (have q41 := zhx q41; have q42 := zhx q42; have q49 := zhx q49; refine w3z ?_ ?_ ?_ <;> omega) | (have q41 := zhx q41; have q42 := zhx q42; have q49 := zhx q49; refine w3y ?_ ?_ ?_ <;> omega) | (have q41 := zhx q41; have q42 := zhx q42; have q49 := zhx q49; refine z2o ?_ ?_ ?_ <;> omega))
                · have q51 := zhd (zVr_44_9 (x := p) (a := 209 + 20 * p) hV (by have q41 := zhx q41; have q42 := zhx q42; omega) (by have q41 := zhx q41; have q42 := zhx q42; omega) (by have q41 := zhx q41; have q42 := zhx q42; omega))
                  have q52 := zhd ((zRl_44_9 (x := p) (a := 209 + 20 * p) hRa (by have q41 := zhx q41; have q42 := zhx q42; omega) (by have q41 := zhx q41; have q42 := zhx q42; omega) (by have q41 := zhx q41; have q42 := zhx q42; omega)))
                  rcases zE_c hC with ⟨h53, hC⟩ | ⟨h53, hC⟩
                  · replace hM := zE_n hM (by first | (have q41 := zhx q41; have q42 := zhx q42; have q51 := zhx q51; have q52 := zhx q52; omega) | (simp only [zhx q41, zhx q42, zhx q51, zhx q52] at h1 h25 h26 h28 h33 h35 h43 h47 h53 ⊢ <;> omega))
                    replace hM := zE_n hM (by first | (have q41 := zhx q41; have q42 := zhx q42; have q51 := zhx q51; have q52 := zhx q52; omega) | (simp only [zhx q41, zhx q42, zhx q51, zhx q52] at h1 h25 h26 h28 h33 h35 h43 h47 h53 ⊢ <;> omega))
                    replace hM := zE_n hM (by first | (have q41 := zhx q41; have q42 := zhx q42; have q51 := zhx q51; have q52 := zhx q52; omega) | (simp only [zhx q41, zhx q42, zhx q51, zhx q52] at h1 h25 h26 h28 h33 h35 h43 h47 h53 ⊢ <;> omega))
                    replace hM := zE_n hM (by first | (have q41 := zhx q41; have q42 := zhx q42; have q51 := zhx q51; have q52 := zhx q52; omega) | (simp only [zhx q41, zhx q42, zhx q51, zhx q52] at h1 h25 h26 h28 h33 h35 h43 h47 h53 ⊢ <;> omega))
                    replace hM := zE_n hM (by first | (have q41 := zhx q41; have q42 := zhx q42; have q51 := zhx q51; have q52 := zhx q52; omega) | (simp only [zhx q41, zhx q42, zhx q51, zhx q52] at h1 h25 h26 h28 h33 h35 h43 h47 h53 ⊢ <;> omega))
                    replace hM := zE_n hM (by first | (have q41 := zhx q41; have q42 := zhx q42; have q51 := zhx q51; have q52 := zhx q52; omega) | (simp only [zhx q41, zhx q42, zhx q51, zhx q52] at h1 h25 h26 h28 h33 h35 h43 h47 h53 ⊢ <;> omega))
                    replace hM := zE_n hM (by first | (have q41 := zhx q41; have q42 := zhx q42; have q51 := zhx q51; have q52 := zhx q52; omega) | (simp only [zhx q41, zhx q42, zhx q51, zhx q52] at h1 h25 h26 h28 h33 h35 h43 h47 h53 ⊢ <;> omega))
                    replace hM := zE_p hM (by first | (have q41 := zhx q41; have q42 := zhx q42; have q51 := zhx q51; have q52 := zhx q52; omega) | (simp only [zhx q41, zhx q42, zhx q51, zhx q52] at h1 h25 h26 h28 h33 h35 h43 h47 h53 ⊢ <;> omega))
                    obtain rfl : C = _ := hC
                    obtain rfl : M = _ := hM
                    exact (by first | rfl | (have q41 := zhx q41; have q42 := zhx q42; have q51 := zhx q51; have q52 := zhx q52; omega) | (simp only [zhx q41, zhx q42, zhx q51, zhx q52] <;> omega) | (have q41 := zhx q41; have q42 := zhx q42; have q51 := zhx q51; have q52 := zhx q52; refine w3z ?_ ?_ ?_ <;> omega) | (have q41 := zhx q41; have q42 := zhx q42; have q51 := zhx q51; have q52 := zhx q52; refine w3y ?_ ?_ ?_ <;> omega) | (have q41 := zhx q41; have q42 := zhx q42; have q51 := zhx q51; have q52 := zhx q52; refine z2o ?_ ?_ ?_ <;> omega))
                  · replace hM := zE_n hM (by first | (have q41 := zhx q41; have q42 := zhx q42; have q51 := zhx q51; have q52 := zhx q52; omega) | (simp only [zhx q41, zhx q42, zhx q51, zhx q52] at h1 h25 h26 h28 h33 h35 h43 h47 h53 ⊢ <;> omega))
                    replace hM := zE_n hM (by first | (have q41 := zhx q41; have q42 := zhx q42; have q51 := zhx q51; have q52 := zhx q52; omega) | (simp only [zhx q41, zhx q42, zhx q51, zhx q52] at h1 h25 h26 h28 h33 h35 h43 h47 h53 ⊢ <;> omega))
                    replace hM := zE_n hM (by first | (have q41 := zhx q41; have q42 := zhx q42; have q51 := zhx q51; have q52 := zhx q52; omega) | (simp only [zhx q41, zhx q42, zhx q51, zhx q52] at h1 h25 h26 h28 h33 h35 h43 h47 h53 ⊢ <;> omega))
                    replace hM := zE_n hM (by first | (have q41 := zhx q41; have q42 := zhx q42; have q51 := zhx q51; have q52 := zhx q52; omega) | (simp only [zhx q41, zhx q42, zhx q51, zhx q52] at h1 h25 h26 h28 h33 h35 h43 h47 h53 ⊢ <;> omega))
                    replace hM := zE_n hM (by first | (have q41 := zhx q41; have q42 := zhx q42; have q51 := zhx q51; have q52 := zhx q52; omega) | (simp only [zhx q41, zhx q42, zhx q51, zhx q52] at h1 h25 h26 h28 h33 h35 h43 h47 h53 ⊢ <;> omega))
                    replace hM := zE_n hM (by first | (have q41 := zhx q41; have q42 := zhx q42; have q51 := zhx q51; have q52 := zhx q52; omega) | (simp only [zhx q41, zhx q42, zhx q51, zhx q52] at h1 h25 h26 h28 h33 h35 h43 h47 h53 ⊢ <;> omega))
                    replace hM := zE_n hM (by first | (have q41 := zhx q41; have q42 := zhx q42; have q51 := zhx q51; have q52 := zhx q52; omega) | (simp only [zhx q41, zhx q42, zhx q51, zhx q52] at h1 h25 h26 h28 h33 h35 h43 h47 h53 ⊢ <;> omega))
                    replace hM := zE_n hM (by first | (have q41 := zhx q41; have q42 := zhx q42; have q51 := zhx q51; have q52 := zhx q52; omega) | (simp only [zhx q41, zhx q42, zhx q51, zhx q52] at h1 h25 h26 h28 h33 h35 h43 h47 h53 ⊢ <;> omega))
                    obtain rfl : C = _ := hC
                    obtain rfl : M = _ := hM
                    exact (by first | rfl | (have q41 := zhx q41; have q42 := zhx q42; have q51 := zhx q51; have q52 := zhx q52; omega) | (simp only [zhx q41, zhx q42, zhx q51, zhx q52] <;> omega) | (have q41 := zhx q41; have q42 := zhx q42; have q51 := zhx q51; have q52 := zhx q52; refine w3z ?_ ?_ ?_ <;> omega) | (have q41 := zhx q41; have q42 := zhx q42; have q51 := zhx q51; have q52 := zhx q52; refine w3y ?_ ?_ ?_ <;> omega) | (have q41 := zhx q41; have q42 := zhx q42; have q51 := zhx q51; have q52 := zhx q52; refine z2o ?_ ?_ ?_ <;> omega))

/-  |  -/
theorem rl_107_1 {b : Int} : ∀ (m n : Nat) {Z Y : qz_Z} {cx1 cx2 cx3 cx4 mx1 mx2 mx3 mx4 : Int} {C : Int × Int} {M : Int × Int}, zR b Z Y → zV Y → (cx1 = mx1) → (cx2 = mx2) → (cx3 = mx3) → (cx4 = mx4) → (0 ≤ cx4) → (cx4 ≤ 48) → (0 ≤ cx2) → (cx2 ≤ 8) → (48 - cx4 < (m : Int)) → (48 - cx4 < (n : Int)) → zE C (zl_107_1 b cx1 cx2 m Z cx3 cx4) → zE M (zl_324_1 mx1 mx2 n Y mx3 mx4) → C.1 = M.1 ∧ C.2 = M.2 := by
  intro m
  induction m with
  | zero => intros; omega
  | succ m ih =>
    intro n
    cases n with
    | zero => intros; omega
    | succ n =>
      intro Z Y cx1 cx2 cx3 cx4 mx1 mx2 mx3 mx4 C M hRa hV  e0 e1 e2 e3 g0 g1 g2 g3 gm gn hC hM
      have hRb := zRx_0 hRa
      unfold zl_107_1 at hC
      unfold zl_324_1 at hM
      have q1 := zhd (zVr_11_3 (a := 102) hV (by omega))
      have q2 := zhd ((zRl_11_3 (a := 102) hRa (by omega)))
      rcases zE_c hC with ⟨h3, hC⟩ | ⟨h3, hC⟩
      · replace hM := zE_p hM (by first | (have q1 := zhx q1; have q2 := zhx q2; omega) | (simp only [zhx q1, zhx q2] at h3 ⊢ <;> omega))
        obtain rfl : C = _ := hC
        obtain rfl : M = _ := hM
        exact ⟨(by first | rfl | (have q1 := zhx q1; have q2 := zhx q2; omega) | (simp only [zhx q1, zhx q2, e0, e1, e2, e3] <;> omega) | (have q1 := zhx q1; have q2 := zhx q2; refine w3z ?_ ?_ ?_ <;> omega) | (have q1 := zhx q1; have q2 := zhx q2; refine w3y ?_ ?_ ?_ <;> omega) | (have q1 := zhx q1; have q2 := zhx q2; refine z2o ?_ ?_ ?_ <;> omega)), (by first | rfl | (have q1 := zhx q1; have q2 := zhx q2; omega) | (simp only [zhx q1, zhx q2, e0, e1, e2, e3] <;> omega) | (have q1 := zhx q1; have q2 := zhx q2; refine w3z ?_ ?_ ?_ <;> omega) | (have q1 := zhx q1; have q2 := zhx q2; refine w3y ?_ ?_ ?_ <;> omega) | (have q1 := zhx q1; have q2 := zhx q2; refine z2o ?_ ?_ ?_ <;> omega))⟩
      · have q4 := zhd (zVr_44_0 (x := mx4) (a := 200 + 20 * mx4) hV (by have q1 := zhx q1; have q2 := zhx q2; omega) (by have q1 := zhx q1; have q2 := zhx q2; omega) (by have q1 := zhx q1; have q2 := zhx q2; omega))
        have q5 := zhd ((zRl_44_0 (x := cx4) (a := 200 + 20 * mx4) hRa (by have q1 := zhx q1; have q2 := zhx q2; omega) (by have q1 := zhx q1; have q2 := zhx q2; omega) (by have q1 := zhx q1; have q2 := zhx q2; omega)))
        have q6 := zhd ((congrArg (fun x => Z 44 b x 0) (show mx4 = cx4 from (by have q1 := zhx q1; have q2 := zhx q2; omega))).trans (zhx q5))
        rcases zE_c hC with ⟨h7, hC⟩ | ⟨h7, hC⟩
        · replace hM := zE_n hM (by first | (have q1 := zhx q1; have q2 := zhx q2; have q4 := zhx q4; have q5 := zhx q5; have q6 := zhx q6; omega) | (simp only [zhx q1, zhx q2, zhx q4, zhx q5, zhx q6] at h3 h7 ⊢ <;> omega))
          replace hM := zE_p hM (by first | (have q1 := zhx q1; have q2 := zhx q2; have q4 := zhx q4; have q5 := zhx q5; have q6 := zhx q6; omega) | (simp only [zhx q1, zhx q2, zhx q4, zhx q5, zhx q6] at h3 h7 ⊢ <;> omega))
          exact ih n (zRx_1 hRb) hV  (by first | rfl | (omega) | (simp only [e0, e1, e2, e3] <;> omega) | (have q1 := zhx q1; have q2 := zhx q2; have q4 := zhx q4; have q5 := zhx q5; have q6 := zhx q6; omega)) (by first | rfl | (omega) | (simp only [e0, e1, e2, e3] <;> omega) | (have q1 := zhx q1; have q2 := zhx q2; have q4 := zhx q4; have q5 := zhx q5; have q6 := zhx q6; omega)) (by first | rfl | (omega) | (simp only [e0, e1, e2, e3] <;> omega) | (have q1 := zhx q1; have q2 := zhx q2; have q4 := zhx q4; have q5 := zhx q5; have q6 := zhx q6; omega)) (by first | rfl | (omega) | (simp only [e0, e1, e2, e3] <;> omega) | (have q1 := zhx q1; have q2 := zhx q2; have q4 := zhx q4; have q5 := zhx q5; have q6 := zhx q6; omega)) (by have q1 := zhx q1; have q2 := zhx q2; have q4 := zhx q4; have q5 := zhx q5; have q6 := zhx q6; first | omega | exact (z2_r _ _ _).1 | exact (z2_r _ _ _).2 | exact (w3_r _).1 | exact (w3_r _).2) (by have q1 := zhx q1; have q2 := zhx q2; have q4 := zhx q4; have q5 := zhx q5; have q6 := zhx q6; first | omega | exact (z2_r _ _ _).1 | exact (z2_r _ _ _).2 | exact (w3_r _).1 | exact (w3_r _).2) (by have q1 := zhx q1; have q2 := zhx q2; have q4 := zhx q4; have q5 := zhx q5; have q6 := zhx q6; first | omega | exact (z2_r _ _ _).1 | exact (z2_r _ _ _).2 | exact (w3_r _).1 | exact (w3_r _).2) (by have q1 := zhx q1; have q2 := zhx q2; have q4 := zhx q4; have q5 := zhx q5; have q6 := zhx q6; first | omega | exact (z2_r _ _ _).1 | exact (z2_r _ _ _).2 | exact (w3_r _).1 | exact (w3_r _).2) (by have q1 := zhx q1; have q2 := zhx q2; have q4 := zhx q4; have q5 := zhx q5; have q6 := zhx q6; omega) (by have q1 := zhx q1; have q2 := zhx q2; have q4 := zhx q4; have q5 := zhx q5; have q6 := zhx q6; omega) hC hM
        · obtain ⟨v8, hv8, hC⟩ := zl_x hC
          have q9 := zhd (show v8 = (zf_317 Y mx4 mx2) from (hv8.trans (rr_106 hRa hV  (by first | (omega) | (have q1 := zhx q1; have q2 := zhx q2; have q4 := zhx q4; have q5 := zhx q5; have q6 := zhx q6; omega)) (by first | (omega) | (have q1 := zhx q1; have q2 := zhx q2; have q4 := zhx q4; have q5 := zhx q5; have q6 := zhx q6; omega)) (by first | (omega) | (have q1 := zhx q1; have q2 := zhx q2; have q4 := zhx q4; have q5 := zhx q5; have q6 := zhx q6; omega)) (by first | (omega) | (have q1 := zhx q1; have q2 := zhx q2; have q4 := zhx q4; have q5 := zhx q5; have q6 := zhx q6; omega)) rfl rfl)).trans (show zf_317 Y cx4 cx2 = zf_317 Y mx4 mx2 from by rw [show cx4 = mx4 from (by first | (omega) | (have q1 := zhx q1; have q2 := zhx q2; have q4 := zhx q4; have q5 := zhx q5; have q6 := zhx q6; omega)), show cx2 = mx2 from (by first | (omega) | (have q1 := zhx q1; have q2 := zhx q2; have q4 := zhx q4; have q5 := zhx q5; have q6 := zhx q6; omega))]))
          replace hM := zE_n hM (by first | (have q1 := zhx q1; have q2 := zhx q2; have q4 := zhx q4; have q5 := zhx q5; have q6 := zhx q6; omega) | (simp only [zhx q1, zhx q2, zhx q4, zhx q5, zhx q6] at h3 h7 ⊢ <;> omega))
          replace hM := zE_n hM (by first | (have q1 := zhx q1; have q2 := zhx q2; have q4 := zhx q4; have q5 := zhx q5; have q6 := zhx q6; omega) | (simp only [zhx q1, zhx q2, zhx q4, zhx q5, zhx q6] at h3 h7 ⊢ <;> omega))
          obtain ⟨v10, hv10, hM⟩ := zl_x hM
          have q11 := zhd (hv10)
          exact ih n (zRx_1 hRb) hV  (by first | rfl | (omega) | (simp only [e0, e1, e2, e3] <;> omega) | (have q1 := zhx q1; have q2 := zhx q2; have q4 := zhx q4; have q5 := zhx q5; have q6 := zhx q6; omega)) (by first | rfl | (omega) | (simp only [e0, e1, e2, e3] <;> omega) | (have q1 := zhx q1; have q2 := zhx q2; have q4 := zhx q4; have q5 := zhx q5; have q6 := zhx q6; omega)) (by first | (simp only [zhx q9, zhx q11, e0, e1, e2, e3] <;> omega) | rfl | (have q9 := zhx q9; have q11 := zhx q11; omega) | (have q1 := zhx q1; have q2 := zhx q2; have q4 := zhx q4; have q5 := zhx q5; have q6 := zhx q6; have q9 := zhx q9; have q11 := zhx q11; omega)) (by first | rfl | (omega) | (simp only [e0, e1, e2, e3] <;> omega) | (have q1 := zhx q1; have q2 := zhx q2; have q4 := zhx q4; have q5 := zhx q5; have q6 := zhx q6; omega)) (by have q1 := zhx q1; have q2 := zhx q2; have q4 := zhx q4; have q5 := zhx q5; have q6 := zhx q6; have q9 := zhx q9; have q11 := zhx q11; first | omega | exact (z2_r _ _ _).1 | exact (z2_r _ _ _).2 | exact (w3_r _).1 | exact (w3_r _).2) (by have q1 := zhx q1; have q2 := zhx q2; have q4 := zhx q4; have q5 := zhx q5; have q6 := zhx q6; have q9 := zhx q9; have q11 := zhx q11; first | omega | exact (z2_r _ _ _).1 | exact (z2_r _ _ _).2 | exact (w3_r _).1 | exact (w3_r _).2) (by have q1 := zhx q1; have q2 := zhx q2; have q4 := zhx q4; have q5 := zhx q5; have q6 := zhx q6; have q9 := zhx q9; have q11 := zhx q11; first | omega | exact (z2_r _ _ _).1 | exact (z2_r _ _ _).2 | exact (w3_r _).1 | exact (w3_r _).2) (by have q1 := zhx q1; have q2 := zhx q2; have q4 := zhx q4; have q5 := zhx q5; have q6 := zhx q6; have q9 := zhx q9; have q11 := zhx q11; first | omega | exact (z2_r _ _ _).1 | exact (z2_r _ _ _).2 | exact (w3_r _).1 | exact (w3_r _).2) (by have q1 := zhx q1; have q2 := zhx q2; have q4 := zhx q4; have q5 := zhx q5; have q6 := zhx q6; have q9 := zhx q9; have q11 := zhx q11; omega) (by have q1 := zhx q1; have q2 := zhx q2; have q4 := zhx q4; have q5 := zhx q5; have q6 := zhx q6; have q9 := zhx q9; have q11 := zhx q11; omega) hC hM

/-  |  -/
theorem rl_35a {b : Int} : ∀ (m n : Nat) {Z Y : qz_Z} {cx1 cx2 cx4 cx5 mx1 mx2 mx3 : Int} {C : Int × Int} {M : Int × Int}, zR b Z Y → zV Y → (cx1 = mx1) → (cx4 = mx2) → (cx5 = mx3) → (0 ≤ cx5) → (cx5 ≤ 60) → (cx2 = 6) → (-2147483648 ≤ cx4) → (cx4 ≤ 2147483647) → (60 - cx5 < (m : Int)) → (60 - cx5 < (n : Int)) → zE C (zl_35_1 b cx1 cx2 m Z cx4 cx5) → zE M (zl_280_1 mx1 n Y mx2 mx3) → C.1 = M.1 ∧ C.2 = M.2 := by
  intro m
  induction m with
  | zero => intros; omega
  | succ m ih =>
    intro n
    cases n with
    | zero => intros; omega
    | succ n =>
      intro Z Y cx1 cx2 cx4 cx5 mx1 mx2 mx3 C M hRa hV  e0 e1 e2 g0 g1 g2 g3 g4 gm gn hC hM
      have hRb := zRx_0 hRa
      unfold zl_35_1 at hC
      unfold zl_280_1 at hM
      have q1 := zhd (zVr_11_6 (a := 2000) hV (by omega))
      have q2 := zhd ((zRl_11_6 (a := 2000) hRa (by omega)))
      rcases zE_c hC with ⟨h3, hC⟩ | ⟨h3, hC⟩
      · replace hM := zE_p hM (by first | (have q1 := zhx q1; have q2 := zhx q2; omega) | (simp only [zhx q1, zhx q2] at h3 ⊢ <;> omega))
        obtain rfl : C = _ := hC
        obtain rfl : M = _ := hM
        exact ⟨(by first | rfl | (have q1 := zhx q1; have q2 := zhx q2; omega) | (simp only [zhx q1, zhx q2, e0, e1, e2] <;> omega) | (have q1 := zhx q1; have q2 := zhx q2; refine w3z ?_ ?_ ?_ <;> omega) | (have q1 := zhx q1; have q2 := zhx q2; refine w3y ?_ ?_ ?_ <;> omega) | (have q1 := zhx q1; have q2 := zhx q2; refine z2o ?_ ?_ ?_ <;> omega)), (by first | rfl | (have q1 := zhx q1; have q2 := zhx q2; omega) | (simp only [zhx q1, zhx q2, e0, e1, e2] <;> omega) | (have q1 := zhx q1; have q2 := zhx q2; refine w3z ?_ ?_ ?_ <;> omega) | (have q1 := zhx q1; have q2 := zhx q2; refine w3y ?_ ?_ ?_ <;> omega) | (have q1 := zhx q1; have q2 := zhx q2; refine z2o ?_ ?_ ?_ <;> omega))⟩
      · have q4 := zhd (zVr_47_1 (x := mx3) (a := 2011 + 16 * mx3) hV (by have q1 := zhx q1; have q2 := zhx q2; omega) (by have q1 := zhx q1; have q2 := zhx q2; omega) (by have q1 := zhx q1; have q2 := zhx q2; omega))
        have q5 := zhd ((zRl_47_1 (x := cx5) (a := 2011 + 16 * mx3) hRa (by have q1 := zhx q1; have q2 := zhx q2; omega) (by have q1 := zhx q1; have q2 := zhx q2; omega) (by have q1 := zhx q1; have q2 := zhx q2; omega)))
        have q6 := zhd ((congrArg (fun x => Z 47 b x 1) (show mx3 = cx5 from (by have q1 := zhx q1; have q2 := zhx q2; omega))).trans (zhx q5))
        rcases zE_c hC with ⟨h7, hC⟩ | ⟨h7, hC⟩
        · replace hM := zE_n hM (by first | (have q1 := zhx q1; have q2 := zhx q2; have q4 := zhx q4; have q5 := zhx q5; have q6 := zhx q6; omega) | (simp only [zhx q1, zhx q2, zhx q4, zhx q5, zhx q6] at h3 h7 ⊢ <;> omega))
          replace hM := zE_p hM (by first | (have q1 := zhx q1; have q2 := zhx q2; have q4 := zhx q4; have q5 := zhx q5; have q6 := zhx q6; omega) | (simp only [zhx q1, zhx q2, zhx q4, zhx q5, zhx q6] at h3 h7 ⊢ <;> omega))
          exact ih n (zRx_1 hRb) hV  (by first | rfl | (omega) | (simp only [e0, e1, e2] <;> omega) | (have q1 := zhx q1; have q2 := zhx q2; have q4 := zhx q4; have q5 := zhx q5; have q6 := zhx q6; omega)) (by first | rfl | (omega) | (simp only [e0, e1, e2] <;> omega) | (have q1 := zhx q1; have q2 := zhx q2; have q4 := zhx q4; have q5 := zhx q5; have q6 := zhx q6; omega)) (by first | rfl | (omega) | (simp only [e0, e1, e2] <;> omega) | (have q1 := zhx q1; have q2 := zhx q2; have q4 := zhx q4; have q5 := zhx q5; have q6 := zhx q6; omega)) (by have q1 := zhx q1; have q2 := zhx q2; have q4 := zhx q4; have q5 := zhx q5; have q6 := zhx q6; first | omega | exact (z2_r _ _ _).1 | exact (z2_r _ _ _).2 | exact (w3_r _).1 | exact (w3_r _).2) (by have q1 := zhx q1; have q2 := zhx q2; have q4 := zhx q4; have q5 := zhx q5; have q6 := zhx q6; first | omega | exact (z2_r _ _ _).1 | exact (z2_r _ _ _).2 | exact (w3_r _).1 | exact (w3_r _).2) (by have q1 := zhx q1; have q2 := zhx q2; have q4 := zhx q4; have q5 := zhx q5; have q6 := zhx q6; first | omega | exact (z2_r _ _ _).1 | exact (z2_r _ _ _).2 | exact (w3_r _).1 | exact (w3_r _).2) (by have q1 := zhx q1; have q2 := zhx q2; have q4 := zhx q4; have q5 := zhx q5; have q6 := zhx q6; first | omega | exact (z2_r _ _ _).1 | exact (z2_r _ _ _).2 | exact (w3_r _).1 | exact (w3_r _).2) (by have q1 := zhx q1; have q2 := zhx q2; have q4 := zhx q4; have q5 := zhx q5; have q6 := zhx q6; first | omega | exact (z2_r _ _ _).1 | exact (z2_r _ _ _).2 | exact (w3_r _).1 | exact (w3_r _).2) (by have q1 := zhx q1; have q2 := zhx q2; have q4 := zhx q4; have q5 := zhx q5; have q6 := zhx q6; omega) (by have q1 := zhx q1; have q2 := zhx q2; have q4 := zhx q4; have q5 := zhx q5; have q6 := zhx q6; omega) hC hM
        · replace hC := zE_p hC (by first | (have q1 := zhx q1; have q2 := zhx q2; have q4 := zhx q4; have q5 := zhx q5; have q6 := zhx q6; omega) | (simp only [zhx q1, zhx q2, zhx q4, zhx q5, zhx q6] at h3 h7 ⊢ <;> omega))
          have q8 := zhd (zVr_11_13 (a := 0) hV (by omega))
          have q9 := zhd ((zRl_11_13 (a := 0) hRa (by omega)))
          have q10 := zhd ((zRl_47_20 (x := cx5) (a := 1811 + 2 * mx3) hRa (by first | (omega) | (have q1 := zhx q1; have q2 := zhx q2; have q4 := zhx q4; have q5 := zhx q5; have q6 := zhx q6; omega)) (by first | (omega) | (have q1 := zhx q1; have q2 := zhx q2; have q4 := zhx q4; have q5 := zhx q5; have q6 := zhx q6; omega)) (by first | (omega) | (have q1 := zhx q1; have q2 := zhx q2; have q4 := zhx q4; have q5 := zhx q5; have q6 := zhx q6; omega))))
          have q11 := zhd ((congrArg (fun x => Z 47 b x 20) (show mx3 = cx5 from (by first | (omega) | (have q1 := zhx q1; have q2 := zhx q2; have q4 := zhx q4; have q5 := zhx q5; have q6 := zhx q6; omega)))).trans (zhx q10))
          rcases zE_c hC with ⟨h12, hC⟩ | ⟨h12, hC⟩
          · replace hM := zE_n hM (by first | (have q1 := zhx q1; have q2 := zhx q2; have q4 := zhx q4; have q5 := zhx q5; have q6 := zhx q6; have q8 := zhx q8; have q9 := zhx q9; have q10 := zhx q10; have q11 := zhx q11; omega) | (simp only [zhx q1, zhx q2, zhx q4, zhx q5, zhx q6, zhx q8, zhx q9, zhx q10, zhx q11] at h3 h7 h12 ⊢ <;> omega))
            replace hM := zE_n hM (by first | (have q1 := zhx q1; have q2 := zhx q2; have q4 := zhx q4; have q5 := zhx q5; have q6 := zhx q6; have q8 := zhx q8; have q9 := zhx q9; have q10 := zhx q10; have q11 := zhx q11; omega) | (simp only [zhx q1, zhx q2, zhx q4, zhx q5, zhx q6, zhx q8, zhx q9, zhx q10, zhx q11] at h3 h7 h12 ⊢ <;> omega))
            replace hM := zE_p hM (by first | (have q1 := zhx q1; have q2 := zhx q2; have q4 := zhx q4; have q5 := zhx q5; have q6 := zhx q6; have q8 := zhx q8; have q9 := zhx q9; have q10 := zhx q10; have q11 := zhx q11; omega) | (simp only [zhx q1, zhx q2, zhx q4, zhx q5, zhx q6, zhx q8, zhx q9, zhx q10, zhx q11] at h3 h7 h12 ⊢ <;> omega))
            exact ih n (zRx_1 hRb) hV  (by first | rfl | (omega) | (simp only [e0, e1, e2] <;> omega) | (have q1 := zhx q1; have q2 := zhx q2; have q4 := zhx q4; have q5 := zhx q5; have q6 := zhx q6; have q8 := zhx q8; have q9 := zhx q9; have q10 := zhx q10; have q11 := zhx q11; omega)) (by first | rfl | (omega) | (simp only [e0, e1, e2] <;> omega) | (have q1 := zhx q1; have q2 := zhx q2; have q4 := zhx q4; have q5 := zhx q5; have q6 := zhx q6; have q8 := zhx q8; have q9 := zhx q9; have q10 := zhx q10; have q11 := zhx q11; omega)) (by first | rfl | (omega) | (simp only [e0, e1, e2] <;> omega) | (have q1 := zhx q1; have q2 := zhx q2; have q4 := zhx q4; have q5 := zhx q5; have q6 := zhx q6; have q8 := zhx q8; have q9 := zhx q9; have q10 := zhx q10; have q11 := zhx q11; omega)) (by have q1 := zhx q1; have q2 := zhx q2; have q4 := zhx q4; have q5 := zhx q5; have q6 := zhx q6; have q8 := zhx q8; have q9 := zhx q9; have q10 := zhx q10; have q11 := zhx q11; first | omega | exact (z2_r _ _ _).1 | exact (z2_r _ _ _).2 | exact (w3_r _).1 | exact (w3_r _).2) (by have q1 := zhx q1; have q2 := zhx q2; have q4 := zhx q4; have q5 := zhx q5; have q6 := zhx q6; have q8 := zhx q8; have q9 := zhx q9; have q10 := zhx q10; have q11 := zhx q11; first | omega | exact (z2_r _ _ _).1 | exact (z2_r _ _ _).2 | exact (w3_r _).1 | exact (w3_r _).2) (by have q1 := zhx q1; have q2 := zhx q2; have q4 := zhx q4; have q5 := zhx q5; have q6 := zhx q6; have q8 := zhx q8; have q9 := zhx q9; have q10 := zhx q10; have q11 := zhx q11; first | omega | exact (z2_r _ _ _).1 | exact (z2_r _ _ _).2 | exact (w3_r _).1 | exact (w3_r _).2) (by have q1 := zhx q1; have q2 := zhx q2; have q4 := zhx q4; have q5 := zhx q5; have q6 := zhx q6; have q8 := zhx q8; have q9 := zhx q9; have q10 := zhx q10; have q11 := zhx q11; first | omega | exact (z2_r _ _ _).1 | exact (z2_r _ _ _).2 | exact (w3_r _).1 | exact (w3_r _).2) (by have q1 := zhx q1; have q2 := zhx q2; have q4 := zhx q4; have q5 := zhx q5; have q6 := zhx q6; have q8 := zhx q8; have q9 := zhx q9; have q10 := zhx q10; have q11 := zhx q11; first | omega | exact (z2_r _ _ _).1 | exact (z2_r _ _ _).2 | exact (w3_r _).1 | exact (w3_r _).2) (by have q1 := zhx q1; have q2 := zhx q2; have q4 := zhx q4; have q5 := zhx q5; have q6 := zhx q6; have q8 := zhx q8; have q9 := zhx q9; have q10 := zhx q10; have q11 := zhx q11; omega) (by have q1 := zhx q1; have q2 := zhx q2; have q4 := zhx q4; have q5 := zhx q5; have q6 := zhx q6; have q8 := zhx q8; have q9 := zhx q9; have q10 := zhx q10; have q11 := zhx q11; omega) hC hM
          · replace hM := zE_n hM (by first | (have q1 := zhx q1; have q2 := zhx q2; have q4 := zhx q4; have q5 := zhx q5; have q6 := zhx q6; have q8 := zhx q8; have q9 := zhx q9; have q10 := zhx q10; have q11 := zhx q11; omega) | (simp only [zhx q1, zhx q2, zhx q4, zhx q5, zhx q6, zhx q8, zhx q9, zhx q10, zhx q11] at h3 h7 h12 ⊢ <;> omega))
            replace hM := zE_n hM (by first | (have q1 := zhx q1; have q2 := zhx q2; have q4 := zhx q4; have q5 := zhx q5; have q6 := zhx q6; have q8 := zhx q8; have q9 := zhx q9; have q10 := zhx q10; have q11 := zhx q11; omega) | (simp only [zhx q1, zhx q2, zhx q4, zhx q5, zhx q6, zhx q8, zhx q9, zhx q10, zhx q11] at h3 h7 h12 ⊢ <;> omega))
            replace hM := zE_n hM (by first | (have q1 := zhx q1; have q2 := zhx q2; have q4 := zhx q4; have q5 := zhx q5; have q6 := zhx q6; have q8 := zhx q8; have q9 := zhx q9; have q10 := zhx q10; have q11 := zhx q11; omega) | (simp only [zhx q1, zhx q2, zhx q4, zhx q5, zhx q6, zhx q8, zhx q9, zhx q10, zhx q11] at h3 h7 h12 ⊢ <;> omega))
            have q13 := zhd ((zRl_47_19 (x := cx5) (a := 1810 + 2 * mx3) hRa (by first | (omega) | (have q1 := zhx q1; have q2 := zhx q2; have q4 := zhx q4; have q5 := zhx q5; have q6 := zhx q6; have q8 := zhx q8; have q9 := zhx q9; have q10 := zhx q10; have q11 := zhx q11; omega)) (by first | (omega) | (have q1 := zhx q1; have q2 := zhx q2; have q4 := zhx q4; have q5 := zhx q5; have q6 := zhx q6; have q8 := zhx q8; have q9 := zhx q9; have q10 := zhx q10; have q11 := zhx q11; omega)) (by first | (omega) | (have q1 := zhx q1; have q2 := zhx q2; have q4 := zhx q4; have q5 := zhx q5; have q6 := zhx q6; have q8 := zhx q8; have q9 := zhx q9; have q10 := zhx q10; have q11 := zhx q11; omega))))
            have q14 := zhd ((congrArg (fun x => Z 47 b x 19) (show mx3 = cx5 from (by first | (omega) | (have q1 := zhx q1; have q2 := zhx q2; have q4 := zhx q4; have q5 := zhx q5; have q6 := zhx q6; have q8 := zhx q8; have q9 := zhx q9; have q10 := zhx q10; have q11 := zhx q11; omega)))).trans (zhx q13))
            exact ih n (zRx_1 hRb) hV  (by first | rfl | (omega) | (simp only [e0, e1, e2] <;> omega) | (have q1 := zhx q1; have q2 := zhx q2; have q4 := zhx q4; have q5 := zhx q5; have q6 := zhx q6; have q8 := zhx q8; have q9 := zhx q9; have q10 := zhx q10; have q11 := zhx q11; omega)) (by first | (simp only [zhx q13, zhx q14, e0, e1, e2] <;> omega) | rfl | (have q13 := zhx q13; have q14 := zhx q14; omega) | (have q1 := zhx q1; have q2 := zhx q2; have q4 := zhx q4; have q5 := zhx q5; have q6 := zhx q6; have q8 := zhx q8; have q9 := zhx q9; have q10 := zhx q10; have q11 := zhx q11; have q13 := zhx q13; have q14 := zhx q14; omega)) (by first | rfl | (omega) | (simp only [e0, e1, e2] <;> omega) | (have q1 := zhx q1; have q2 := zhx q2; have q4 := zhx q4; have q5 := zhx q5; have q6 := zhx q6; have q8 := zhx q8; have q9 := zhx q9; have q10 := zhx q10; have q11 := zhx q11; omega)) (by have q1 := zhx q1; have q2 := zhx q2; have q4 := zhx q4; have q5 := zhx q5; have q6 := zhx q6; have q8 := zhx q8; have q9 := zhx q9; have q10 := zhx q10; have q11 := zhx q11; have q13 := zhx q13; have q14 := zhx q14; first | omega | exact (z2_r _ _ _).1 | exact (z2_r _ _ _).2 | exact (w3_r _).1 | exact (w3_r _).2) (by have q1 := zhx q1; have q2 := zhx q2; have q4 := zhx q4; have q5 := zhx q5; have q6 := zhx q6; have q8 := zhx q8; have q9 := zhx q9; have q10 := zhx q10; have q11 := zhx q11; have q13 := zhx q13; have q14 := zhx q14; first | omega | exact (z2_r _ _ _).1 | exact (z2_r _ _ _).2 | exact (w3_r _).1 | exact (w3_r _).2) (by have q1 := zhx q1; have q2 := zhx q2; have q4 := zhx q4; have q5 := zhx q5; have q6 := zhx q6; have q8 := zhx q8; have q9 := zhx q9; have q10 := zhx q10; have q11 := zhx q11; have q13 := zhx q13; have q14 := zhx q14; first | omega | exact (z2_r _ _ _).1 | exact (z2_r _ _ _).2 | exact (w3_r _).1 | exact (w3_r _).2) (by have q1 := zhx q1; have q2 := zhx q2; have q4 := zhx q4; have q5 := zhx q5; have q6 := zhx q6; have q8 := zhx q8; have q9 := zhx q9; have q10 := zhx q10; have q11 := zhx q11; have q13 := zhx q13; have q14 := zhx q14; first | omega | exact (z2_r _ _ _).1 | exact (z2_r _ _ _).2 | exact (w3_r _).1 | exact (w3_r _).2) (by have q1 := zhx q1; have q2 := zhx q2; have q4 := zhx q4; have q5 := zhx q5; have q6 := zhx q6; have q8 := zhx q8; have q9 := zhx q9; have q10 := zhx q10; have q11 := zhx q11; have q13 := zhx q13; have q14 := zhx q14; first | omega | exact (z2_r _ _ _).1 | exact (z2_r _ _ _).2 | exact (w3_r _).1 | exact (w3_r _).2) (by have q1 := zhx q1; have q2 := zhx q2; have q4 := zhx q4; have q5 := zhx q5; have q6 := zhx q6; have q8 := zhx q8; have q9 := zhx q9; have q10 := zhx q10; have q11 := zhx q11; have q13 := zhx q13; have q14 := zhx q14; omega) (by have q1 := zhx q1; have q2 := zhx q2; have q4 := zhx q4; have q5 := zhx q5; have q6 := zhx q6; have q8 := zhx q8; have q9 := zhx q9; have q10 := zhx q10; have q11 := zhx q11; have q13 := zhx q13; have q14 := zhx q14; omega) hC hM
