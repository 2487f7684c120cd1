/-! what a predicate on memories must bear to be kept by what the class does -/
/-- columns of no matter to sums, purses, history -/
def zbn (k : Nat) (j : Int) : Bool := [14, 49, 52, 53].contains k || (Nat.beq k 11 && (decide (j = 11) || decide (j = 12))) || (Nat.beq k 43 && (decide (j = 7) || decide (j = 10))) || (Nat.beq k 48 && decide (j = 5)) || Nat.beq k 50
theorem zbn_K {k : Nat} {j : Int} (h : zbn k j = true) : zKbc k j = false ∧ zDbc k j = false ∧ zPbc k j = false := by
  unfold zbn at h
  simp only [Bool.or_eq_true, Bool.and_eq_true, Nat.beq_eq, decide_eq_true_eq, List.contains_iff_mem, List.mem_cons, List.not_mem_nil, or_false] at h
  rcases h with (((h | ⟨rfl, rfl | rfl⟩) | ⟨rfl, rfl | rfl⟩) | ⟨rfl, rfl⟩) | rfl
  · rcases h with rfl | rfl | rfl | rfl <;> exact ⟨rfl, rfl, rfl⟩
  all_goals exact ⟨rfl, rfl, rfl⟩
section PP
variable {P : qz_Z → Prop} {b : Int}
theorem z69_P (hu : ∀ Z k i j v, zbn k j = true → P Z → P (zu Z k b i j v)) {c t : Int} : ∀ {Z : qz_Z}, P Z → P (zf_69 Z b c t) := by
  have h1 : ∀ (m : Nat) (Z : qz_Z) (x5 x1 x3 x4 : Int), P Z → P (zl_69_1 b x1 x3 x4 m Z x5).1 := fun m => by
    induction m with
    | zero => exact fun _ _ _ _ _ h => h
    | succ m ih =>
      intro Z x5 x1 x3 x4 h
      unfold zl_69_1
      split
      · exact h
      · simp only [zlet]
        exact ih _ _ _ _ _ (hu _ 49 _ _ _ rfl h)
  have h3 : ∀ (m : Nat) (Z : qz_Z) (x x1 x2 : Int), P Z → P (zl_69_3 b x1 x2 m Z x).1 := fun m => by
    induction m with
    | zero => exact fun _ _ _ _ h => h
    | succ m ih =>
      intro Z x x1 x2 h
      unfold zl_69_3
      split
      · exact h
      · simp only [zlet, zlet2]
        exact ih _ _ _ _ (h1 _ _ _ _ _ _ h)
  intro Z h
  unfold zf_69
  simp only [zlet, zlet2]
  exact hu _ 48 _ 5 _ rfl (h3 _ _ _ _ _ h)
theorem z76_P (hu : ∀ Z k i j v, zbn k j = true → P Z → P (zu Z k b i j v)) {p : Int} (h10 : ∀ Z v, P Z → P (zu Z 44 b p 10 v)) : ∀ {Z : qz_Z}, P Z → P (zf_76 Z b p).1 := by
  have h1 : ∀ (m : Nat) (Z : qz_Z) (x c : Int), P Z → (∀ r, zl_76_1 b p c m Z x = .inl r → P r.1) ∧ (∀ r, zl_76_1 b p c m Z x = .inr r → P r.1) := fun m => by
    induction m with
    | zero =>
      intro Z x c h
      refine ⟨fun r e => ?_, fun r e => ?_⟩
      · unfold zl_76_1 at e
        cases e
        exact h
      · unfold zl_76_1 at e
        cases e
    | succ m ih =>
      intro Z x c h
      unfold zl_76_1
      by_cases q1 : Z 48 b c 5 ≤ x
      · rw [if_pos q1]
        refine ⟨fun r e => ?_, fun r e => ?_⟩
        · cases e
          exact h
        · cases e
      rw [if_neg q1]
      by_cases q2 : Z 49 b (12 * c + x) 0 ≠ p
      · rw [if_pos q2]
        exact ih Z (x + 1) c h
      · rw [if_neg q2]
        refine ⟨fun r e => ?_, fun r e => ?_⟩
        · cases e
        · cases e
          exact z69_P hu (h10 _ _ h)
  have h3 : ∀ (m : Nat) (Z : qz_Z) (x : Int), P Z → (∀ r, zl_76_3 b p m Z x = .inl r → P r.1) ∧ (∀ r, zl_76_3 b p m Z x = .inr r → P r.1) := fun m => by
    induction m with
    | zero =>
      intro Z x h
      refine ⟨fun r e => ?_, fun r e => ?_⟩
      · unfold zl_76_3 at e
        cases e
        exact h
      · unfold zl_76_3 at e
        cases e
    | succ m ih =>
      intro Z x h
      unfold zl_76_3
      by_cases q1 : Z 11 b 0 7 ≤ x
      · rw [if_pos q1]
        refine ⟨fun r e => ?_, fun r e => ?_⟩
        · cases e
          exact h
        · cases e
      rw [if_neg q1]
      obtain ⟨g1, g2⟩ := h1 13 Z 0 x h
      cases q : zl_76_1 b p x 13 Z 0 with
      | inl r => exact ih _ _ (g1 r q)
      | inr r =>
        refine ⟨fun r' e => ?_, fun r' e => ?_⟩
        · cases e
        · cases e
          exact g2 r q
  intro Z h
  unfold zf_76
  obtain ⟨g1, g2⟩ := h3 3 Z 0 h
  cases q : zl_76_3 b p 3 Z 0 with
  | inl r => exact g1 r q
  | inr r => exact g2 r q
theorem z175_P (hu : ∀ Z k i j v, zbn k j = true → P Z → P (zu Z k b i j v)) {p w : Int} (h12 : ∀ Z v, P Z → P (zu Z 44 b p 12 v)) {Z : qz_Z} (h : P Z) : P (zf_175 Z b b p w) := by
  unfold zf_175
  simp only [zlet]
  repeat' split
  all_goals first
    | exact h12 _ _ (hu _ 43 _ 7 _ rfl (hu _ 43 _ 7 _ rfl h))
    | exact h12 _ _ (hu _ 43 _ 7 _ rfl h)
    | exact h12 _ _ h
/-- what happens to a pallet that goes, or whose grade is changed -/
def zj44 (j v : Int) : Prop := j = 6 ∨ j = 10 ∨ j = 12 ∨ ((j = 4 ∨ j = 5) ∧ v = 0) ∨ (j = 9 ∧ -1 ≤ v ∧ v ≤ 3)
theorem z105_P (hu : ∀ Z k i j v, zbn k j = true → P Z → P (zu Z k b i j v)) {p st : Int} (h44 : ∀ Z j v, zj44 j v → P Z → P (zu Z 44 b p j v)) (hl : ∀ m v Z x, 0 ≤ x → P Z → P (zl_105_1 b p p v m Z x).1) {Z : qz_Z} (h : P Z) : P (zf_105 Z b p st).1 := by
  unfold zf_105
  simp only [zlet, zlet2]
  have g : ∀ {Y : qz_Z} (u v : Int), P Y → P (zl_105_1 b p p v 61 (zf_175 (zu (zu (zu (zu Y 44 b p 6 u) 44 b p 4 0) 44 b p 5 0) 44 b p 10 st) b b p (-1)) 0).1 := fun u v hy => hl _ _ _ _ (Int.le_refl 0) (z175_P hu (fun Z v' => h44 Z 12 v' (.inr (.inr (.inl rfl)))) (h44 _ 10 _ (.inr (.inl rfl)) (h44 _ 5 _ (.inr (.inr (.inr (.inl ⟨.inr rfl, rfl⟩)))) (h44 _ 4 _ (.inr (.inr (.inr (.inl ⟨.inl rfl, rfl⟩)))) (h44 _ 6 _ (.inl rfl) hy)))))
  split
  · exact g _ _ h
  · exact g _ _ (z76_P hu (fun Z v => h44 Z 10 v (.inr (.inl rfl))) h)
theorem z9005_P (hu : ∀ Z k i j v, zbn k j = true → P Z → P (zu Z k b i j v)) {f t c p : Int} {Z : qz_Z} (h : P Z) : P (zf_9005 Z b f t c p) := by
  unfold zf_9005
  simp only [zlet]
  split
  · exact hu _ 11 _ 12 _ rfl (hu _ 53 _ _ _ rfl (hu _ 53 _ _ _ rfl (hu _ 53 _ _ _ rfl (hu _ 53 _ _ _ rfl (hu _ 53 _ _ _ rfl (hu _ 14 _ _ _ rfl (hu _ 14 _ _ _ rfl h)))))))
  · exact h
theorem z100_r {Z : qz_Z} {p : Int} : 0 ≤ zf_100 Z b b p ∧ zf_100 Z b b p ≤ 3 := by
  unfold zf_100
  repeat' split
  all_goals omega
theorem z9137_P (hu : ∀ Z k i j v, zbn k j = true → P Z → P (zu Z k b i j v)) {p k fig w : Int} (h44 : ∀ Z j v, zj44 j v → P Z → P (zu Z 44 b p j v)) (h51 : ∀ Z j v, P Z → P (zu Z 51 b k j v)) (hl : ∀ m v Z x, 0 ≤ x → P Z → P (zl_105_1 b p p v m Z x).1) {Z : qz_Z} (h : P Z) : P (zf_9137 Z b k fig p w) := by
  have h8 : P (zf_9138 Z b k fig p w) := by
    unfold zf_9138
    simp only [zlet]
    exact hu _ 11 _ 11 _ rfl (hu _ 52 _ _ _ rfl (hu _ 52 _ _ _ rfl (hu _ 52 _ _ _ rfl (hu _ 52 _ _ _ rfl (hu _ 52 _ _ _ rfl (hu _ 52 _ _ _ rfl h))))))
  unfold zf_9137
  simp only [zlet]
  refine z9005_P hu ?_
  unfold zf_9139
  split
  · split
    · have r := z100_r (b := b) (Z := zf_9138 Z b k fig p w) (p := p)
      exact h44 _ 9 _ (.inr (.inr (.inr (.inr ⟨rfl, by omega, r.2⟩)))) h8
    · exact h44 _ 9 _ (.inr (.inr (.inr (.inr ⟨rfl, by omega, by omega⟩)))) h8
  · exact h51 _ _ _ (z105_P hu h44 hl h8)
theorem z136_P (hu : ∀ Z k i j v, zbn k j = true → P Z → P (zu Z k b i j v)) {Q : Int → Prop} (hQ : ∀ Z p, 0 ≤ p → P Z → p < Z 11 b 0 3 → Q p) {k fig : Int} (h44 : ∀ Z p j v, Q p → zj44 j v → P Z → P (zu Z 44 b p j v)) (h51 : ∀ Z j v, P Z → P (zu Z 51 b k j v)) (hl : ∀ p m v Z x, 0 ≤ x → P Z → P (zl_105_1 b p p v m Z x).1) {Z : qz_Z} (h : P Z) : P (zf_136 Z b k fig).1 := by
  have lp : ∀ (m : Nat) (Z : qz_Z) (x4 x5 x6 : Int), 0 ≤ x6 → P Z → P (zl_136_1 b k k fig x4 m Z x5 x6).1 := fun m => by
    induction m with
    | zero => exact fun _ _ _ _ _ h => h
    | succ m ih =>
      intro Z x4 x5 x6 h0 h
      rw [zl_136s]
      split
      · exact h
      rename_i g1
      split
      · exact ih _ _ _ _ (by omega) h
      split
      · exact ih _ _ _ _ (by omega) h
      · exact ih _ _ _ _ (by omega) (z9137_P hu (fun Z' j v => h44 Z' x6 j v (hQ Z x6 h0 h (by omega))) h51 (hl x6) h)
  have e3 : ∀ {α : Type} (q : qz_Z × Int × Int) (kk : qz_Z → Int → Int → α), zlet3 q kk = kk q.1 q.2.1 q.2.2 := fun _ _ => rfl
  unfold zf_136
  simp only [zlet, e3]
  repeat' split
  all_goals first
    | exact hu _ 43 _ 10 _ rfl (h51 _ _ _ (h51 _ _ _ (h51 _ _ _ (lp _ _ _ _ _ (Int.le_refl 0) h))))
    | exact h51 _ _ _ (h51 _ _ _ (h51 _ _ _ (lp _ _ _ _ _ (Int.le_refl 0) h)))
/-- the loop over parcels, for what doesn't look at buyers, orders and parcels -/
theorem zl105_P (hu : ∀ Z k i j v, zbn k j = true → P Z → P (zu Z k b i j v)) (h4 : ∀ Z k i j v, (k = 45 ∨ k = 46 ∨ k = 47) → P Z → P (zu Z k b i j v)) {p v : Int} : ∀ (m : Nat) (Z : qz_Z) (x : Int), P Z → P (zl_105_1 b p p v m Z x).1
  | 0, Z, x, h => h
  | m + 1, Z, x, h => by
    have a7 : ∀ {Z i j v}, P Z → P (zu Z 47 b i j v) := fun h => h4 _ 47 _ _ _ (.inr (.inr rfl)) h
    have a6 : ∀ {Z i j v}, P Z → P (zu Z 46 b i j v) := fun h => h4 _ 46 _ _ _ (.inr (.inl rfl)) h
    have a5 : ∀ {Z i j v}, P Z → P (zu Z 45 b i j v) := fun h => h4 _ 45 _ _ _ (.inl rfl) h
    unfold zl_105_1
    split
    · exact h
    split
    · exact zl105_P hu h4 m Z _ h
    split
    · exact zl105_P hu h4 m Z _ h
    simp only [zlet]
    have g : ∀ {Y : qz_Z}, P Y → P (zf_20 Y b b x) := fun hy => by
      unfold zf_20
      simp only [zlet]
      split
      · exact a5 (a7 (a5 (a5 hy)))
      · exact a6 (a5 (a7 (a5 (a5 hy))))
    have g2 := g (a7 (a7 (a7 (a7 h) : P (zu (zu Z 47 b x 9 3) 47 b x 11 (zu Z 47 b x 9 3 44 b p 7))) : P (zu (zu (zu Z 47 b x 9 3) 47 b x 11 (zu Z 47 b x 9 3 44 b p 7)) 47 b x 12 (zu (zu Z 47 b x 9 3) 47 b x 11 (zu Z 47 b x 9 3 44 b p 7) 44 b p 8))) : P (zu (zu (zu (zu Z 47 b x 9 3) 47 b x 11 (zu Z 47 b x 9 3 44 b p 7)) 47 b x 12 (zu (zu Z 47 b x 9 3) 47 b x 11 (zu Z 47 b x 9 3 44 b p 7) 44 b p 8)) 47 b x 17 (zu (zu (zu Z 47 b x 9 3) 47 b x 11 (zu Z 47 b x 9 3 44 b p 7)) 47 b x 12 (zu (zu Z 47 b x 9 3) 47 b x 11 (zu Z 47 b x 9 3 44 b p 7) 44 b p 8) 11 b 0 13)))
    split
    · exact zl105_P hu h4 m _ _ (hu _ 11 _ 12 _ rfl (hu _ 53 _ _ _ rfl (hu _ 53 _ _ _ rfl (hu _ 53 _ _ _ rfl (hu _ 53 _ _ _ rfl (hu _ 53 _ _ _ rfl (hu _ 14 _ _ _ rfl (hu _ 14 _ _ _ rfl g2))))))))
    · exact zl105_P hu h4 m _ _ g2
/-- trucks come home -/
theorem z39_P (hu : ∀ Z k i j v, zbn k j = true → P Z → P (zu Z k b i j v)) (h41 : ∀ Z t w, 0 ≤ t → P Z → P (zf_41 Z b t w)) {Z : qz_Z} (h : P Z) : P (zf_39 Z b) := by
  have l1 : ∀ (m : Nat) (Z : qz_Z) (t x : Int), 0 ≤ t → P Z → P (zl_39_1 b t t m Z x).1 := fun m => by
    induction m with
    | zero => exact fun _ _ _ _ h => h
    | succ m ih =>
      intro Z t x t0 h
      unfold zl_39_1
      split
      · exact h
      split
      · exact ih _ _ _ t0 h
      · simp only [zlet]
        exact ih _ _ _ t0 (h41 _ _ _ t0 h)
  have l4 : ∀ (m : Nat) (Z : qz_Z) (x : Int), 0 ≤ x → P Z → P (zl_39_4 b m Z x).1 := fun m => by
    induction m with
    | zero => exact fun _ _ _ h => h
    | succ m ih =>
      intro Z x x0 h
      unfold zl_39_4
      split
      · exact h
      split
      · exact ih _ _ (by omega) h
      · simp only [zlet, zlet2]
        have g := l1 6 Z x 0 x0 h
        split
        · exact ih _ _ (by omega) g
        have g3 := hu _ 50 x 10 (w3 (zu (zu (zl_39_1 b x x 6 Z 0).1 50 b x 2 0) 50 b x 8 (-1) 50 b x 10 + zu (zu (zl_39_1 b x x 6 Z 0).1 50 b x 2 0) 50 b x 8 (-1) 50 b x 6)) rfl (hu _ 50 x 8 (-1) rfl (hu _ 50 x 2 0 rfl g))
        split
        · exact ih _ _ (by omega) (hu _ 11 _ 12 _ rfl (hu _ 53 _ _ _ rfl (hu _ 53 _ _ _ rfl (hu _ 53 _ _ _ rfl (hu _ 53 _ _ _ rfl (hu _ 53 _ _ _ rfl (hu _ 14 _ _ _ rfl (hu _ 14 _ _ _ rfl g3))))))))
        · exact ih _ _ (by omega) g3
  unfold zf_39
  simp only [zlet2]
  exact l4 _ _ _ (Int.le_refl 0) h
end PP
/-! what the class adds up, purses, history: side by side -/
def zK4 (b : Int) (Z : qz_Z) : Prop := zDb b Z ∧ zPb b Z ∧ zKb (-1) b Z
theorem zK4_u {b : Int} {Z : qz_Z} {k : Nat} {i j v : Int} (e : zbn k j = true) (h : zK4 b Z) : zK4 b (zu Z k b i j v) := ⟨zDb_u h.1 (zbn_K e).2.1, zPb_u h.2.1 (zbn_K e).2.2, zKb_u h.2.2 (zbn_K e).1⟩
theorem zK4_44 {b p : Int} {Z : qz_Z} {j v : Int} (e : zj44 j v) (h : zK4 b Z) : zK4 b (zu Z 44 b p j v) := by
  refine ⟨zDb_u h.1 rfl, zPb_u h.2.1 rfl, ?_⟩
  rcases e with rfl | rfl | rfl | ⟨rfl | rfl, rfl⟩ | ⟨rfl, e⟩
  · exact zKb_u h.2.2 rfl
  · exact zKb_u h.2.2 rfl
  · exact zKb_u h.2.2 rfl
  · exact zKb_p h.2.2 (by omega)
  · exact zKb_p h.2.2 (by omega)
  · exact zKb_p h.2.2 (by omega)
theorem zK4_105 {b p : Int} (m : Nat) (v : Int) (Z : qz_Z) (x : Int) (x0 : 0 ≤ x) (h : zK4 b Z) : zK4 b (zl_105_1 b p p v m Z x).1 := ⟨zDb_105 m Z x x0 h.1, zPb_105 m Z x x0 h.2.1, zKb_105 m Z x x0 h.2.2⟩
theorem zK4_105f {b p st : Int} {Z : qz_Z} (h : zK4 b Z) : zK4 b (zf_105 Z b p st).1 := z105_P (fun _ _ _ _ _ e h => zK4_u e h) (fun _ _ _ e h => zK4_44 e h) (fun m v Z x x0 h => zK4_105 m v Z x x0 h) h
theorem zK4_136 {b k fig : Int} {Z : qz_Z} (h : zK4 b Z) : zK4 b (zf_136 Z b k fig).1 := z136_P (Q := fun _ => True) (fun _ _ _ _ _ e h => zK4_u e h) (fun _ _ _ _ _ => trivial) (fun _ _ _ _ _ e h => zK4_44 e h) (fun Z j v h => ⟨zDb_u h.1 rfl, zPb_u h.2.1 rfl, zKb_u h.2.2 rfl⟩) (fun p m v Z x x0 h => zK4_105 m v Z x x0 h) h
theorem zK4_41 {b t w : Int} {Z : qz_Z} (t0 : 0 ≤ t) (h : zK4 b Z) : zK4 b (zf_41 Z b t w) := by
  have hs : ∀ q, 0 ≤ q → q < Z 11 b 0 6 → Z 47 b q 10 = t → Z 47 b q 9 = 1 := fun q q0 q1 e => by
    by_cases g : Z 47 b q 9 = 1
    · exact g
    · have := (h.2.2.1 q q0 q1 (by omega)).1.2.2.2.2.2.2.2 g
      omega
  unfold zf_41
  simp only [zlet2]
  exact ⟨zDb_41 t0 61 Z 0 (Int.le_refl 0) hs h.1, zPb_41 t0 61 Z 0 (Int.le_refl 0) hs h.2.1, zKb_41 t0 61 Z 0 (Int.le_refl 0) h.2.2⟩
theorem zK4_39 {b : Int} {Z : qz_Z} (h : zK4 b Z) : zK4 b (zf_39 Z b) := z39_P (fun _ _ _ _ _ e h => zK4_u e h) (fun _ _ _ t0 h => zK4_41 t0 h) h
/-- pallets beyond the count, inspectors but one: as they were -/
theorem z44_136 {b k fig : Int} {Z : qz_Z} {p j : Int} (hp : Z 11 b 0 3 ≤ p) : (zf_136 Z b k fig).1 44 b p j = Z 44 b p j := by
  have g := z136_P (P := fun C => C 11 b 0 3 = Z 11 b 0 3 ∧ C 44 b p j = Z 44 b p j) (Q := fun r => r < Z 11 b 0 3) (b := b) (k := k) (fig := fig) (Z := Z) (fun C kk i jj v e h => ⟨(zu_ne rfl (fun q => by rw [← q.1, ← q.2.2.2] at e; cases e)).trans h.1, (zu_ne rfl (fun q => by rw [← q.1] at e; cases e)).trans h.2⟩) (fun C r r0 h q => by rw [h.1] at q; exact q) (fun C r jj v hr e h => ⟨(zu_ne rfl (fun q => absurd q.1 (by decide))).trans h.1, (zu_ne rfl (fun q => by have := q.2.2.1; omega)).trans h.2⟩) (fun C jj v h => ⟨(zu_ne rfl (fun q => absurd q.1 (by decide))).trans h.1, (zu_ne rfl (fun q => absurd q.1 (by decide))).trans h.2⟩) (fun r m v C x x0 h => zl105_P (P := fun C => C 11 b 0 3 = Z 11 b 0 3 ∧ C 44 b p j = Z 44 b p j) (fun C kk i jj v e h => ⟨(zu_ne rfl (fun q => by rw [← q.1, ← q.2.2.2] at e; cases e)).trans h.1, (zu_ne rfl (fun q => by rw [← q.1] at e; cases e)).trans h.2⟩) (fun C kk i jj v e h => ⟨(zu_ne rfl (fun q => by have := q.1; omega)).trans h.1, (zu_ne rfl (fun q => by have := q.1; omega)).trans h.2⟩) m C x h) ⟨rfl, rfl⟩
  exact g.2
theorem z51_136 {b k fig : Int} {Z : qz_Z} {i j : Int} (hi : i ≠ k) : (zf_136 Z b k fig).1 51 b i j = Z 51 b i j := by
  exact z136_P (P := fun C => C 51 b i j = Z 51 b i j) (Q := fun _ => True) (b := b) (k := k) (fig := fig) (Z := Z) (fun C kk ii jj v e h => (zu_ne rfl (fun q => by rw [← q.1] at e; cases e)).trans h) (fun _ _ _ _ _ => trivial) (fun C r jj v hr e h => (zu_ne rfl (fun q => absurd q.1 (by decide))).trans h) (fun C jj v h => (zu_ne rfl (fun q => hi q.2.2.1)).trans h) (fun r m v C x x0 h => zl105_P (P := fun C => C 51 b i j = Z 51 b i j) (fun C kk ii jj v e h => (zu_ne rfl (fun q => by rw [← q.1] at e; cases e)).trans h) (fun C kk ii jj v e h => (zu_ne rfl (fun q => by have := q.1; omega)).trans h) m C x h) rfl
