/-! bills are paid by paydays, or by the first that is due -/
/-- a bill that is due, at a place or behind it -/
def zEb (Y : qz_Z) (i D d x q : Int) : Prop := 0 ≤ q ∧ q < Y 2 0 0 2000 ∧ Y 2 0 0 (2011 + 16 * q) = i ∧ 0 < Y 2 0 0 (1810 + 2 * q) ∧ Y 2 0 0 (1811 + 2 * q) ≤ D ∧ (d < Y 2 0 0 (1811 + 2 * q) ∨ Y 2 0 0 (1811 + 2 * q) = d ∧ x ≤ q)
def zFst (Y : qz_Z) (i D d x r : Int) : Prop := (r = -1 ∧ ∀ q, ¬ zEb Y i D d x q) ∨ (zEb Y i D d x r ∧ ∀ q, zEb Y i D d x q → Y 2 0 0 (1811 + 2 * r) < Y 2 0 0 (1811 + 2 * q) ∨ (Y 2 0 0 (1811 + 2 * r) = Y 2 0 0 (1811 + 2 * q) ∧ r ≤ q))
theorem zl269 {Y : qz_Z} {i D bd bq : Int} (hn : Y 2 0 0 2000 ≤ 60) : ∀ (m : Nat) (x5 x6 : Int), 0 ≤ x6 → x6 ≤ 60 → 60 - x6 < (m : Int) → ((x5 = -1 ∧ ∀ q, q < x6 → ¬ zEb Y i D bd (bq + 1) q) ∨ (zEb Y i D bd (bq + 1) x5 ∧ x5 < x6 ∧ ∀ q, q < x6 → zEb Y i D bd (bq + 1) q → Y 2 0 0 (1811 + 2 * x5) < Y 2 0 0 (1811 + 2 * q) ∨ (Y 2 0 0 (1811 + 2 * x5) = Y 2 0 0 (1811 + 2 * q) ∧ x5 ≤ q))) → zFst Y i D bd (bq + 1) (zl_269_1 i D bd bq m Y x5 x6).1
  | 0, _, _, _, _, _, _ => by omega
  | m + 1, x5, x6, h0, h1, h2, hi => by
    unfold zl_269_1
    by_cases c : Y 2 0 0 2000 ≤ x6
    · rw [if_pos c]
      rcases hi with ⟨a1, a2⟩ | ⟨a1, a2, a3⟩
      · exact .inl ⟨a1, fun q e => a2 q (by have := e.2.1; omega) e⟩
      · exact .inr ⟨a1, fun q e => a3 q (by have := e.2.1; omega) e⟩
    rw [if_neg c]
    have ih := fun y hy => zl269 (Y := Y) (i := i) (D := D) (bd := bd) (bq := bq) hn m y (x6 + 1) (by omega) (by omega) (by omega) hy
    have no : ¬ zEb Y i D bd (bq + 1) x6 → zFst Y i D bd (bq + 1) (zl_269_1 i D bd bq m Y x5 (x6 + 1)).1 := fun ne => by
      refine ih x5 ?_
      rcases hi with ⟨a1, a2⟩ | ⟨a1, a2, a3⟩
      · refine .inl ⟨a1, fun q hq => ?_⟩
        by_cases e : q = x6
        · rw [e]
          exact ne
        · exact a2 q (by omega)
      · refine .inr ⟨a1, by omega, fun q hq e => ?_⟩
        by_cases e2 : q = x6
        · rw [e2] at e
          exact absurd e ne
        · exact a3 q (by omega) e
    have yes : zEb Y i D bd (bq + 1) x6 → zFst Y i D bd (bq + 1) (if x5 = -1 then zl_269_1 i D bd bq m Y x6 (x6 + 1) else if Y 2 0 0 (1811 + 2 * x5) ≤ Y 2 0 0 (1811 + 2 * x6) then zl_269_1 i D bd bq m Y x5 (x6 + 1) else zl_269_1 i D bd bq m Y x6 (x6 + 1)).1 := fun ee => by
      by_cases f : x5 = -1
      · rw [if_pos f]
        refine ih x6 (.inr ⟨ee, by omega, fun q hq e => ?_⟩)
        by_cases e2 : q = x6
        · rw [e2]
          exact .inr ⟨rfl, Int.le_refl _⟩
        · rcases hi with ⟨a1, a2⟩ | ⟨a1, a2, a3⟩
          · exact absurd e (a2 q (by omega))
          · have := a1.1
            omega
      · rw [if_neg f]
        rcases hi with ⟨a1, a2⟩ | ⟨a1, a2, a3⟩
        · exact absurd a1 f
        by_cases g : Y 2 0 0 (1811 + 2 * x5) ≤ Y 2 0 0 (1811 + 2 * x6)
        · rw [if_pos g]
          refine ih x5 (.inr ⟨a1, by omega, fun q hq e => ?_⟩)
          by_cases e2 : q = x6
          · rw [e2]
            omega
          · exact a3 q (by omega) e
        · rw [if_neg g]
          refine ih x6 (.inr ⟨ee, by omega, fun q hq e => ?_⟩)
          by_cases e2 : q = x6
          · rw [e2]
            exact .inr ⟨rfl, Int.le_refl _⟩
          · have := a3 q (by omega) e
            omega
    by_cases c1 : Y 2 0 0 (2011 + 16 * x6) ≠ i
    · rw [if_pos c1]
      exact no (fun e => c1 e.2.2.1)
    rw [if_neg c1]
    by_cases c2 : Y 2 0 0 (1810 + 2 * x6) ≤ 0
    · rw [if_pos c2]
      exact no (fun e => by have := e.2.2.2.1; omega)
    rw [if_neg c2]
    by_cases c3 : D < Y 2 0 0 (1811 + 2 * x6)
    · rw [if_pos c3]
      exact no (fun e => by have := e.2.2.2.2.1; omega)
    rw [if_neg c3]
    by_cases c4 : bd < Y 2 0 0 (1811 + 2 * x6)
    · rw [if_pos c4]
      exact yes ⟨h0, by omega, Classical.not_not.mp c1, by omega, by omega, .inl c4⟩
    rw [if_neg c4]
    by_cases c5 : Y 2 0 0 (1811 + 2 * x6) ≠ bd
    · rw [if_pos c5]
      exact no (fun e => by have := e.2.2.2.2.2; omega)
    rw [if_neg c5]
    by_cases c6 : x6 ≤ bq
    · rw [if_pos c6]
      exact no (fun e => by have := e.2.2.2.2.2; omega)
    · rw [if_neg c6]
      exact yes ⟨h0, by omega, Classical.not_not.mp c1, by omega, by omega, .inr ⟨Classical.not_not.mp c5, by omega⟩⟩
theorem z269 {Y : qz_Z} {i D bd bq : Int} (hn : Y 2 0 0 2000 ≤ 60) : zFst Y i D bd (bq + 1) (zf_269 Y i D bd bq) := zl269 hn 61 (-1) 0 (by omega) (by omega) (by omega) (.inl ⟨rfl, fun q h e => by have := e.1; omega⟩)
theorem zFst_here {Y : qz_Z} {i D d x r : Int} (h : zFst Y i D d x r) (x0 : 0 ≤ x) (x1 : x < Y 2 0 0 2000) (b1 : Y 2 0 0 (2011 + 16 * x) = i) (b2 : 0 < Y 2 0 0 (1810 + 2 * x)) (b3 : Y 2 0 0 (1811 + 2 * x) = d) (hd : d ≤ D) : r = x := by
  have e : zEb Y i D d x x := ⟨x0, x1, b1, b2, by omega, .inr ⟨b3, Int.le_refl _⟩⟩
  rcases h with ⟨_, a2⟩ | ⟨a1, a2⟩
  · exact absurd e (a2 x)
  · have g := a2 x e
    have k := a1.2.2.2.2.2
    omega
theorem zFst_on {Y : qz_Z} {i D d x r : Int} (h : zFst Y i D d x r) (ne : ¬ (Y 2 0 0 (2011 + 16 * x) = i ∧ 0 < Y 2 0 0 (1810 + 2 * x) ∧ Y 2 0 0 (1811 + 2 * x) = d)) : zFst Y i D d (x + 1) r := by
  have e : ∀ q, zEb Y i D d (x + 1) q ↔ zEb Y i D d x q := fun q => by
    constructor
    · rintro ⟨a1, a2, a3, a4, a5, a6⟩
      exact ⟨a1, a2, a3, a4, a5, by omega⟩
    · rintro ⟨a1, a2, a3, a4, a5, a6⟩
      refine ⟨a1, a2, a3, a4, a5, ?_⟩
      by_cases g : q = x
      · rw [g] at a3 a4 a6
        by_cases k : Y 2 0 0 (1811 + 2 * x) = d
        · exact absurd ⟨a3, a4, k⟩ ne
        · rw [g]
          omega
      · omega
  unfold zFst
  simp only [e]
  exact h
theorem zFst_day {Y : qz_Z} {i D d x r : Int} (h : zFst Y i D d x r) (hx : Y 2 0 0 2000 ≤ x) : zFst Y i D (d + 1) 0 r := by
  have e : ∀ q, zEb Y i D (d + 1) 0 q ↔ zEb Y i D d x q := fun q => by
    constructor
    · rintro ⟨a1, a2, a3, a4, a5, a6⟩
      exact ⟨a1, a2, a3, a4, a5, by omega⟩
    · rintro ⟨a1, a2, a3, a4, a5, a6⟩
      exact ⟨a1, a2, a3, a4, a5, by omega⟩
  unfold zFst
  simp only [e]
  exact h
theorem zFst_end {Y : qz_Z} {i D d x r : Int} (h : zFst Y i D d x r) (hd : D < d) : r = -1 := by
  rcases h with ⟨a, _⟩ | ⟨⟨_, _, _, _, a5, a6⟩, _⟩
  · exact a
  · omega
/-- one payday of a buyer -/
theorem rl_30 {b i D d : Int} (i0 : 0 ≤ i) (i1 : i < 8) (hd : d ≤ D) : ∀ (m k : Nat) {Z Y : qz_Z} {x cur : Int}, zR b Z Y → zV Y → 0 ≤ x → x ≤ 60 → 60 - x < (m : Int) → 60 - x ≤ (k : Int) → zFst Y i D d x cur → ∃ (k' : Nat) (Y' : qz_Z) (cur' : Int), zl_281_1 i D k Y cur = zl_281_1 i D k' Y' cur' ∧ zFst Y' i D (d + 1) 0 cur' ∧ (k : Int) ≤ (k' : Int) + (60 - x) ∧ zR b (zl_30_1 b i i d m Z x).1 Y' ∧ zV Y' ∧ zFc [4503, 4504, 4507, 4719] b Z (zl_30_1 b i i d m Z x).1 ∧ yFr [4503, 4507, 4719] Y Y'
  | 0, _, _, _, _, _, _, _, _, _, _, _, _ => by omega
  | m + 1, k, Z, Y, x, cur, hRa, hV, x0, x1, h1, h2, hf => by
    unfold zl_30_1
    have v := zVr_11_6 (a := 2000) hV rfl
    rw [zRl_11_6 (a := 2000) hRa rfl]
    by_cases c : Y 2 0 0 2000 ≤ x
    · rw [if_pos c]
      exact ⟨k, Y, cur, rfl, zFst_day hf c, by omega, hRa, hV, zFc_r, yFr_r⟩
    have x60 : x < 60 := by omega
    rw [if_neg c, zRl_47_1 (x := x) (a := 2011 + 16 * x) hRa x0 x60 rfl, zRl_47_20 (x := x) (a := 1811 + 2 * x) hRa x0 x60 rfl, zRl_47_19 (x := x) (a := 1810 + 2 * x) hRa x0 x60 rfl]
    have skip : ¬ (Y 2 0 0 (2011 + 16 * x) = i ∧ 0 < Y 2 0 0 (1810 + 2 * x) ∧ Y 2 0 0 (1811 + 2 * x) = d) → ∃ (k' : Nat) (Y' : qz_Z) (cur' : Int), zl_281_1 i D k Y cur = zl_281_1 i D k' Y' cur' ∧ zFst Y' i D (d + 1) 0 cur' ∧ (k : Int) ≤ (k' : Int) + (60 - x) ∧ zR b (zl_30_1 b i i d m Z (x + 1)).1 Y' ∧ zV Y' ∧ zFc [4503, 4504, 4507, 4719] b Z (zl_30_1 b i i d m Z (x + 1)).1 ∧ yFr [4503, 4507, 4719] Y Y' := fun ne => by
      obtain ⟨k', Y', cur', a1, a2, a3, a4⟩ := rl_30 i0 i1 hd m k (x := x + 1) hRa hV (by omega) (by omega) (by omega) (by omega) (zFst_on hf ne)
      exact ⟨k', Y', cur', a1, a2, by omega, a4⟩
    by_cases c1 : Y 2 0 0 (2011 + 16 * x) ≠ i
    · rw [if_pos c1]
      exact skip (fun e => c1 e.1)
    rw [if_neg c1]
    by_cases c2 : Y 2 0 0 (1811 + 2 * x) ≠ d
    · rw [if_pos c2]
      exact skip (fun e => c2 e.2.2)
    rw [if_neg c2]
    by_cases c3 : Y 2 0 0 (1810 + 2 * x) ≤ 0
    · rw [if_pos c3]
      exact skip (fun e => by have := e.2.1; omega)
    rw [if_neg c3]
    simp only [zlet]
    have cx := zFst_here hf x0 (by omega) (Classical.not_not.mp c1) (by omega) (Classical.not_not.mp c2) hd
    rw [cx]
    obtain ⟨k1, hk⟩ : ∃ k1, k = k1 + 1 := ⟨k - 1, by omega⟩
    rw [hk]
    rw [zRl_45_3 (x := i) (a := 1413 + 12 * i) hRa i0 i1 rfl]
    -- both pay
    obtain ⟨P, U, hP, hU, er⟩ : ∃ P U : Int, w3 (Y 2 0 0 (1413 + 12 * i) - min (Y 2 0 0 (1810 + 2 * x)) (Y 2 0 0 (1413 + 12 * i))) = P ∧ w3 (Y 2 0 0 (1810 + 2 * x) - min (Y 2 0 0 (1810 + 2 * x)) (Y 2 0 0 (1413 + 12 * i))) = U ∧ zl_281_1 i D (k1 + 1) Y x = (if U ≤ 0 then zl_281_1 i D k1 (zu (zu Y 2 0 0 (1413 + 12 * i) P) 2 0 0 (1810 + 2 * x) U) (zf_269 (zu (zu Y 2 0 0 (1413 + 12 * i) P) 2 0 0 (1810 + 2 * x) U) i D d x) else zl_281_1 i D k1 (zu (zu (zu Y 2 0 0 (1413 + 12 * i) P) 2 0 0 (1810 + 2 * x) U) 2 0 0 (1414 + 12 * i) 1) (zf_269 (zu (zu (zu Y 2 0 0 (1413 + 12 * i) P) 2 0 0 (1810 + 2 * x) U) 2 0 0 (1414 + 12 * i) 1) i D d x)) := by
      refine ⟨_, _, rfl, rfl, ?_⟩
      rw [zl_281_1, if_neg (show ¬ x = -1 by omega)]
      simp only [zlet]
      have d1 : ∀ P U : Int, zu (zu Y 2 0 0 (1413 + 12 * i) P) 2 0 0 (1810 + 2 * x) U 2 0 0 (1811 + 2 * x) = d := fun P U => by
        rw [zun (by omega), zun (by omega)]
        exact Classical.not_not.mp c2
      have d2 : ∀ P U : Int, zu (zu (zu Y 2 0 0 (1413 + 12 * i) P) 2 0 0 (1810 + 2 * x) U) 2 0 0 (1414 + 12 * i) 1 2 0 0 (1811 + 2 * x) = d := fun P U => by
        rw [zun (by omega)]
        exact d1 P U
      by_cases g : Y 2 0 0 (1810 + 2 * x) ≤ Y 2 0 0 (1413 + 12 * i)
      · rw [if_pos g, show min (Y 2 0 0 (1810 + 2 * x)) (Y 2 0 0 (1413 + 12 * i)) = Y 2 0 0 (1810 + 2 * x) by omega, zun (a' := 1810 + 2 * x) (a := 1413 + 12 * i) (by omega), zua, zu_id rfl]
        rw [d1, d2]
      · rw [if_neg g, show min (Y 2 0 0 (1810 + 2 * x)) (Y 2 0 0 (1413 + 12 * i)) = Y 2 0 0 (1413 + 12 * i) by omega, zun (a' := 1810 + 2 * x) (a := 1413 + 12 * i) (by omega), zua, zu_id rfl, Int.sub_self, show w3 0 = 0 from rfl]
        rw [d1, d2]
    rw [er]
    have z1 : ∀ V : Int, zu Z 47 b x 19 V 45 b i 4 = Z 45 b i 4 := fun V => zu_ne rfl (fun q => absurd q.1 (by decide))
    have z2 : ∀ V W : Int, zu (zu Z 47 b x 19 V) 45 b i 4 W 45 b i 3 = Y 2 0 0 (1413 + 12 * i) := fun V W => by
      rw [zu_ne rfl (fun q => absurd q.2.2.2 (by decide)), zu_ne rfl (fun q => absurd q.1 (by decide)), zRl_45_3 (x := i) (a := 1413 + 12 * i) hRa i0 i1 rfl]
    have z3 : ∀ V W P : Int, zu (zu (zu Z 47 b x 19 V) 45 b i 4 W) 45 b i 3 P 47 b x 19 = V := fun V W P => by
      rw [zu_ne rfl (fun q => absurd q.1 (by decide)), zu_ne rfl (fun q => absurd q.1 (by decide)), zu_at rfl]
    rw [z1, z2, z3, hP, hU]
    have cm : ∀ P U : Int, zu (zu Y 2 0 0 (1413 + 12 * i) P) 2 0 0 (1810 + 2 * x) U = zu (zu Y 2 0 0 (1810 + 2 * x) U) 2 0 0 (1413 + 12 * i) P := fun P U => by
      funext kk bb ii jj
      rw [zuq, zuq, zuq, zuq]
      by_cases e1 : kk = 2 ∧ bb = 0 ∧ ii = 0 ∧ jj = 1810 + 2 * x
      · rw [if_pos e1, if_neg (fun q => by have := e1.2.2.2; have := q.2.2.2; omega), if_pos e1]
      · rw [if_neg e1, if_neg e1]
    rw [cm]
    have w1 : zW [] [4719] [4719] b Z Y _ _ := zW_n (v' := U) (v := U) (zW_0 (zRx_0 hRa) hV) (ac_47_19 x0 x60 rfl) (zvn_47_19 x0 x60 rfl) rfl rfl rfl rfl
    have w2 := zW_n (v' := P) (v := P) (zW_c (L := [4503, 4504, 4507, 4719]) (K := [4503, 4507, 4719]) (i := i) (v := w3 (Z 45 b i 4 - min (Y 2 0 0 (1810 + 2 * x)) (Y 2 0 0 (1413 + 12 * i)))) ⟨w1.1, w1.2.1, zFc_w w1.2.2.1 (by decide), yFr_w w1.2.2.2 (by decide)⟩ adn_45_4 rfl rfl) (ac_45_3 i0 i1 rfl) (zvn_45_3 i0 i1 rfl) rfl rfl rfl rfl
    generalize zu (zu (zu Z 47 b x 19 U) 45 b i 4 (w3 (Z 45 b i 4 - min (Y 2 0 0 (1810 + 2 * x)) (Y 2 0 0 (1413 + 12 * i))))) 45 b i 3 P = Zp at w2 ⊢
    have n60 : zu (zu Y 2 0 0 (1810 + 2 * x) U) 2 0 0 (1413 + 12 * i) P 2 0 0 2000 = Y 2 0 0 2000 := by rw [zun (by omega), zun (by omega)]
    generalize zu (zu Y 2 0 0 (1810 + 2 * x) U) 2 0 0 (1413 + 12 * i) P = Yp at w2 n60 ⊢
    by_cases u : U ≤ 0
    · rw [if_pos u, if_pos u]
      obtain ⟨k', Y', cur', a1, a2, a3, a4, a5, a6, a7⟩ := rl_30 i0 i1 hd m k1 (x := x + 1) (zRx_1 w2.1) w2.2.1 (by omega) (by omega) (by omega) (by omega) (z269 (bq := x) (bd := d) (i := i) (D := D) (by omega))
      exact ⟨k', Y', cur', a1, a2, by omega, a4, a5, zFc_t w2.2.2.1 a6 (by decide), yFr_t w2.2.2.2 a7 (by decide)⟩
    · rw [if_neg u, if_neg u]
      have w3_ := zW_i (v' := 1) (v := 1) w2 (ac_45_7 i0 i1 rfl) (zvi_45_7 i0 i1 rfl) (by omega) rfl rfl rfl rfl
      have n61 : zu Yp 2 0 0 (1414 + 12 * i) 1 2 0 0 2000 = Y 2 0 0 2000 := by rw [zun (by omega)]; exact n60
      obtain ⟨k', Y', cur', a1, a2, a3, a4, a5, a6, a7⟩ := rl_30 i0 i1 hd m k1 (x := x + 1) (zRx_1 w3_.1) w3_.2.1 (by omega) (by omega) (by omega) (by omega) (z269 (bq := x) (bd := d) (i := i) (D := D) (by omega))
      exact ⟨k', Y', cur', a1, a2, by omega, a4, a5, zFc_t w3_.2.2.1 a6 (by decide), yFr_t w3_.2.2.2 a7 (by decide)⟩
/-- all paydays of a buyer -/
theorem rl_17d {b i D : Int} (i0 : 0 ≤ i) (i1 : i < 8) : ∀ (m k : Nat) {Z Y : qz_Z} {d cur : Int}, zR b Z Y → zV Y → 0 ≤ d → d ≤ 28 → D ≤ 27 → 28 - d ≤ (m : Int) → D - d < (m : Int) → 60 * (28 - d) < (k : Int) → zFst Y i D d 0 cur → zR b (zl_17_1 b D i m Z d).1 (zl_281_1 i D k Y cur).1 ∧ zV (zl_281_1 i D k Y cur).1 ∧ zFc [4503, 4504, 4507, 4719] b Z (zl_17_1 b D i m Z d).1 ∧ yFr [4503, 4507, 4719] Y (zl_281_1 i D k Y cur).1
  | m, k, Z, Y, d, cur, hRa, hV, d0, d1, hD, h1, h2, h3, hf => by
    have fin : D < d → ∀ k : Nat, 0 < k → zl_281_1 i D k Y cur = (Y, -1) := fun q k hk => by
      rw [zFst_end hf q]
      cases k with
      | zero => omega
      | succ k => rw [zl_281_1, if_pos rfl]
    cases m with
    | zero =>
      rw [fin (by omega) k (by omega)]
      exact ⟨hRa, hV, zFc_r, yFr_r⟩
    | succ m =>
      unfold zl_17_1
      by_cases c : D < d
      · rw [if_pos c, fin c k (by omega)]
        exact ⟨hRa, hV, zFc_r, yFr_r⟩
      rw [if_neg c]
      simp only [zlet]
      have e30 : zf_30 Z b i d = (zl_30_1 b i i d 61 Z 0).1 := rfl
      rw [e30]
      obtain ⟨k', Y', cur', a1, a2, a3, a4, a5, a6, a7⟩ := rl_30 i0 i1 (by omega) 61 k (x := 0) hRa hV (by omega) (by omega) (by omega) (by omega) hf
      rw [a1]
      have ih := rl_17d i0 i1 m k' (d := d + 1) a4 a5 (by omega) (by omega) hD (by omega) (by omega) (by omega) a2
      exact ⟨ih.1, ih.2.1, zFc_t a6 ih.2.2.1 (by decide), yFr_t a7 ih.2.2.2 (by decide)⟩
  termination_by m => m
theorem rl_17b {b D : Int} (hD : D ≤ 27) : ∀ (m n : Nat) {Z Y : qz_Z} {x : Int}, zR b Z Y → zV Y → (∀ q : Int, 0 ≤ q → q < 60 → 0 ≤ Y 2 0 0 (1811 + 2 * q)) → 0 ≤ x → x ≤ 8 → 8 - x < (m : Int) → 8 - x < (n : Int) → zR b (zl_17_3 b D m Z x).1 (zl_265_1 D n Y x).1 ∧ zV (zl_265_1 D n Y x).1 ∧ zFc [4503, 4504, 4507, 4719] b Z (zl_17_3 b D m Z x).1 ∧ yFr [4503, 4507, 4719] Y (zl_265_1 D n Y x).1
  | 0, _, _, _, _, _, _, _, _, _, _, _ => by omega
  | m + 1, 0, _, _, _, _, _, _, _, _, _, _ => by omega
  | m + 1, n + 1, Z, Y, x, hRa, hV, hp, x0, x1, h1, h2 => by
    unfold zl_17_3 zl_265_1
    have v4 := zVr_11_4 (a := 1400) hV rfl
    rw [zRl_11_4 (a := 1400) hRa rfl]
    by_cases c : Y 2 0 0 1400 ≤ x
    · rw [if_pos c, if_pos c]
      exact ⟨hRa, hV, zFc_r, yFr_r⟩
    have x8 : x < 8 := by omega
    rw [if_neg c, if_neg c]
    unfold zf_281
    simp only [zlet, zlet2]
    have w1 : zW [] [4507] [4507] b Z Y _ _ := zW_i (v' := 0) (v := 0) (zW_0 (zRx_0 hRa) hV) (ac_45_7 x0 x8 rfl) (zvi_45_7 x0 x8 rfl) (by omega) rfl rfl rfl rfl
    have hp1 : ∀ q : Int, 0 ≤ q → q < 60 → 0 ≤ zu Y 2 0 0 (1414 + 12 * x) 0 2 0 0 (1811 + 2 * q) := fun q q0 q1 => by
      rw [zun (by omega)]
      exact hp q q0 q1
    generalize zu Z 45 b x 7 0 = Z1 at w1 ⊢
    generalize zu Y 2 0 0 (1414 + 12 * x) 0 = Y1 at w1 hp1 ⊢
    have v6 := zVr_11_6 (a := 2000) w1.2.1 rfl
    have f0 : zFst Y1 x D 0 0 (zf_269 Y1 x D (-1) (-1)) := by
      have f := z269 (Y := Y1) (i := x) (D := D) (bd := -1) (bq := -1) v6.2
      have e : ∀ q, zEb Y1 x D (-1) (-1 + 1) q ↔ zEb Y1 x D 0 0 q := fun q => by
        constructor
        · rintro ⟨a1, a2, a3, a4, a5, a6⟩
          have := hp1 q a1 (by omega)
          exact ⟨a1, a2, a3, a4, a5, by omega⟩
        · rintro ⟨a1, a2, a3, a4, a5, a6⟩
          exact ⟨a1, a2, a3, a4, a5, by omega⟩
      unfold zFst at f ⊢
      simp only [e] at f
      exact f
    obtain ⟨g1, g2, g3, g4⟩ := rl_17d x0 x8 28 2601 (d := 0) (zRx_1 w1.1) w1.2.1 (by omega) (by omega) hD (by omega) (by omega) (by omega) f0
    have hp2 : ∀ q : Int, 0 ≤ q → q < 60 → 0 ≤ (zl_281_1 x D 2601 Y1 (zf_269 Y1 x D (-1) (-1))).1 2 0 0 (1811 + 2 * q) := fun q q0 q1 => by
      rw [yFr_at 4720 g4.1 rfl (zcm_s (ac_47_20 q0 q1 rfl))]
      exact hp1 q q0 q1
    have ih := rl_17b hD m n (x := x + 1) g1 g2 hp2 (by omega) (by omega) (by omega) (by omega)
    exact ⟨ih.1, ih.2.1, zFc_t (zFc_t (zFc_w w1.2.2.1 (by decide)) g3 (by decide)) ih.2.2.1 (by decide), yFr_t (yFr_t (yFr_w w1.2.2.2 (by decide)) g4 (by decide)) ih.2.2.2 (by decide)⟩
theorem rl_17o {b : Int} : ∀ (m n : Nat) {Z Y : qz_Z} {x : Int}, zR b Z Y → zV Y → 0 ≤ x → x ≤ 24 → 24 - x < (m : Int) → 24 - x < (n : Int) → zR b (zl_17_4 b m Z x).1 (zl_265_2 n Y x).1 ∧ zV (zl_265_2 n Y x).1 ∧ zFc [4606] b Z (zl_17_4 b m Z x).1 ∧ yFr [4606] Y (zl_265_2 n Y x).1
  | 0, _, _, _, _, _, _, _, _, _, _ => by omega
  | m + 1, 0, _, _, _, _, _, _, _, _, _ => by omega
  | m + 1, n + 1, Z, Y, x, hRa, hV, x0, x1, h1, h2 => by
    unfold zl_17_4 zl_265_2
    have v4 := zVr_11_5 (a := 1401) hV rfl
    rw [zRl_11_5 (a := 1401) hRa rfl]
    by_cases c : Y 2 0 0 1401 ≤ x
    · rw [if_pos c, if_pos c]
      exact ⟨hRa, hV, zFc_r, yFr_r⟩
    have x8 : x < 24 := by omega
    have ih := rl_17o m n (x := x + 1) hRa hV (by omega) (by omega) (by omega) (by omega)
    rw [if_neg c, if_neg c, zRl_46_7 (x := x) (a := 1517 + 12 * x) hRa x0 x8 rfl, zRl_46_5 (x := x) (a := 1515 + 12 * x) hRa x0 x8 rfl, zRl_46_3 (x := x) (a := 1513 + 12 * x) hRa x0 x8 rfl, zRl_11_13 (a := 0) hRa rfl]
    by_cases d : Y 2 0 0 (1517 + 12 * x) ≠ 0
    · rw [if_pos d, if_pos d]
      exact ih
    rw [if_neg d, if_neg d]
    by_cases e : z2 (fun x y => x &&& y) (z2 (fun x y => x >>> (y &&& 31)) (Y 2 0 0 (1515 + 12 * x)) (Y 2 0 0 0 / 24 % 7)) 1 ≠ 1
    · rw [if_pos e, if_pos e]
      exact ih
    rw [if_neg e, if_neg e]
    simp only [zlet]
    have w1 : zW [] [4606] [4606] b Z Y _ _ := zW_n (v' := Y 2 0 0 (1513 + 12 * x)) (v := Y 2 0 0 (1513 + 12 * x)) (zW_0 (zRx_0 hRa) hV) (ac_46_6 x0 x8 rfl) (zvn_46_6 x0 x8 rfl) rfl rfl rfl rfl
    have ih2 := rl_17o m n (x := x + 1) (zRx_1 w1.1) w1.2.1 (by omega) (by omega) (by omega) (by omega)
    exact ⟨ih2.1, ih2.2.1, zFc_t w1.2.2.1 ih2.2.2.1 (by decide), yFr_t w1.2.2.2 ih2.2.2.2 (by decide)⟩
/-- the day of the bills is closed -/
theorem rr_17 {b : Int} {Z Y : qz_Z} (hRa : zR b Z Y) (hV : zV Y) (hp : ∀ q : Int, 0 ≤ q → q < 60 → 0 ≤ Y 2 0 0 (1811 + 2 * q)) : zR b (zf_17 Z b) (zf_265 Y (Y 2 0 0 0 / 24 - 1)) ∧ zV (zf_265 Y (Y 2 0 0 0 / 24 - 1)) ∧ zFc [4503, 4504, 4507, 4606, 4719] b Z (zf_17 Z b) ∧ yFr [4503, 4507, 4606, 4719] Y (zf_265 Y (Y 2 0 0 0 / 24 - 1)) := by
  unfold zf_17 zf_265
  simp only [zlet2]
  have v13 := zVr_11_13 (a := 0) hV rfl
  rw [zRl_11_13 (a := 0) hRa rfl]
  obtain ⟨g1, g2, g3, g4⟩ := rl_17b (D := Y 2 0 0 0 / 24 - 1) (by omega) 9 9 (x := 0) hRa hV hp (by omega) (by omega) (by omega) (by omega)
  obtain ⟨k1, k2, k3, k4⟩ := rl_17o 25 25 (x := 0) g1 g2 (by omega) (by omega) (by omega) (by omega)
  exact ⟨k1, k2, zFc_t (zFc_w g3 (by decide)) k3 (by decide), yFr_t (yFr_w g4 (by decide)) k4 (by decide)⟩
