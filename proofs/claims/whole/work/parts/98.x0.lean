/-! What parcels, pallets and quarrels are like, told of the class alone; parcel x may be in the making. -/
abbrev zKa (b : Int) (Z : qz_Z) (q : Int) : Prop := (0 ≤ Z 47 b q 0 ∧ Z 47 b q 0 < Z 11 b 0 3) ∧ (1 ≤ Z 47 b q 3 ∧ Z 47 b q 3 ≤ 40) ∧ (0 ≤ Z 47 b q 4 ∧ Z 47 b q 4 ≤ 40) ∧ (0 ≤ Z 47 b q 5 ∧ Z 47 b q 5 ≤ 9999) ∧ (0 ≤ Z 47 b q 7 ∧ Z 47 b q 7 ≤ 3) ∧ 0 ≤ Z 47 b q 8 ∧ 0 ≤ Z 47 b q 6 ∧ (Z 47 b q 9 ≠ 1 → Z 47 b q 10 = -1)
abbrev zKw (b : Int) (Z : qz_Z) (q : Int) : Prop := Z 47 b q 8 ≤ Z 44 b (Z 47 b q 0) 7 ∧ Z 47 b q 6 ≤ Z 11 b 0 13
abbrev zKl (b : Int) (Z : qz_Z) (q : Int) : Prop := (Z 47 b q 8 ≤ Z 47 b q 15 ∧ Z 47 b q 15 ≤ Z 47 b q 11 ∧ Z 47 b q 11 ≤ 2000) ∧ (0 ≤ Z 47 b q 16 ∧ Z 47 b q 16 ≤ Z 47 b q 12 ∧ Z 47 b q 12 ≤ 999) ∧ (Z 47 b q 6 ≤ Z 47 b q 14 ∧ Z 47 b q 14 ≤ Z 11 b 0 13)
abbrev zKc (b : Int) (Z : qz_Z) (q : Int) : Prop := (Z 47 b q 8 ≤ Z 47 b q 15 ∧ Z 47 b q 15 ≤ Z 47 b q 11 ∧ Z 47 b q 11 ≤ 2000) ∧ (0 ≤ Z 47 b q 16 ∧ Z 47 b q 16 ≤ Z 47 b q 12 ∧ Z 47 b q 12 ≤ 999) ∧ (Z 47 b q 6 ≤ Z 47 b q 14 ∧ Z 47 b q 14 ≤ Z 47 b q 17 ∧ Z 47 b q 17 ≤ Z 11 b 0 13)
abbrev zKo (b : Int) (Z : qz_Z) (q : Int) : Prop := zKa b Z q ∧ (Z 47 b q 9 = 0 → zKw b Z q) ∧ (Z 47 b q 9 = 1 → zKl b Z q) ∧ (Z 47 b q 9 = 2 → zKc b Z q)
/-- pallets and sorts -/
abbrev zKr (b : Int) (Z : qz_Z) : Prop := (∀ p : Int, 0 ≤ p → p < 48 → (0 ≤ Z 44 b p 1 ∧ Z 44 b p 1 ≤ 4) ∧ (0 ≤ Z 44 b p 4 ∧ Z 44 b p 4 ≤ 40) ∧ (0 ≤ Z 44 b p 5 ∧ Z 44 b p 5 ≤ 40) ∧ (0 ≤ Z 44 b p 7 ∧ Z 44 b p 7 ≤ 2000) ∧ (0 ≤ Z 44 b p 8 ∧ Z 44 b p 8 ≤ 999) ∧ (-1 ≤ Z 44 b p 9 ∧ Z 44 b p 9 ≤ 3)) ∧ (∀ s : Int, 0 ≤ s → s < 5 → 0 ≤ Z 41 b s 0 ∧ 0 ≤ Z 41 b s 3) ∧ 0 ≤ Z 11 b 0 13 ∧ (0 ≤ Z 11 b 0 3 ∧ Z 11 b 0 3 ≤ 48) ∧ 0 ≤ Z 11 b 0 6
def zKb (x b : Int) (Z : qz_Z) : Prop := (∀ q : Int, 0 ≤ q → q < Z 11 b 0 6 → q ≠ x → zKo b Z q) ∧ zKr b Z ∧ (∀ i : Int, 0 ≤ i → i < Z 11 b 0 10 → (0 ≤ Z 54 b i 1 ∧ Z 54 b i 1 ≤ 3) ∧ (0 ≤ Z 54 b i 0 ∧ Z 54 b i 0 < Z 11 b 0 6) ∧ Z 54 b i 0 ≠ x ∧ Z 47 b (Z 54 b i 0) 9 = 2)
/-- the columns it speaks of -/
def zKbc (k : Nat) (j : Int) : Bool := (Nat.beq k 11 && [3, 6, 10, 13].contains j) || (Nat.beq k 41 && (decide (j = 0) || decide (j = 3))) || (Nat.beq k 44 && [1, 4, 5, 7, 8, 9].contains j) || (Nat.beq k 47 && [0, 3, 4, 5, 6, 7, 8, 9, 10, 11, 12, 14, 15, 16, 17].contains j) || (Nat.beq k 54 && (decide (j = 0) || decide (j = 1)))
theorem zKb_e {x b : Int} {Z C : qz_Z} (h : zKb x b Z) (f : ∀ k i j, zKbc k j = true → C k b i j = Z k b i j) : zKb x b C := by
  unfold zKb zKr zKo zKa zKw zKl zKc
  simp only [f 11 _ 3 rfl, f 11 _ 6 rfl, f 11 _ 10 rfl, f 11 _ 13 rfl, f 41 _ 0 rfl, f 41 _ 3 rfl, f 44 _ 1 rfl, f 44 _ 4 rfl, f 44 _ 5 rfl, f 44 _ 7 rfl, f 44 _ 8 rfl, f 44 _ 9 rfl, f 47 _ 0 rfl, f 47 _ 3 rfl, f 47 _ 4 rfl, f 47 _ 5 rfl, f 47 _ 6 rfl, f 47 _ 7 rfl, f 47 _ 8 rfl, f 47 _ 9 rfl, f 47 _ 10 rfl, f 47 _ 11 rfl, f 47 _ 12 rfl, f 47 _ 14 rfl, f 47 _ 15 rfl, f 47 _ 16 rfl, f 47 _ 17 rfl, f 54 _ 0 rfl, f 54 _ 1 rfl]
  exact h
theorem zKb_u {x b c i v : Int} {Z : qz_Z} {k : Nat} {j : Int} (h : zKb x b Z) (e : zKbc k j = false) : zKb x b (zu Z k c i j v) := zKb_e h (fun k' i' j' e' => zu_ne rfl (fun q => by rw [q.1, q.2.2.2, e] at e'; cases e'))
theorem zKb_f {x b : Int} {Z C : qz_Z} {L : List Nat} (h : zKb x b Z) (f : zFa L b Z C) (e : L.all (fun n => !([1103, 1106, 1110, 1113, 4100, 4103, 4401, 4404, 4405, 4407, 4408, 4409, 4700, 4703, 4704, 4705, 4706, 4707, 4708, 4709, 4710, 4711, 4712, 4714, 4715, 4716, 4717, 5400, 5401].contains n)) = true) : zKb x b C := zKb_e h (fun k i j hk => by
  have hn := fun n hc => z_all e n hc
  unfold zKbc at hk
  simp only [Bool.or_eq_true, Bool.and_eq_true, Nat.beq_eq, decide_eq_true_eq, List.contains_iff_mem, List.mem_cons, List.not_mem_nil, or_false] at hk
  rcases hk with (((⟨rfl, rfl | rfl | rfl | rfl⟩ | ⟨rfl, rfl | rfl⟩) | ⟨rfl, rfl | rfl | rfl | rfl | rfl | rfl⟩) | ⟨rfl, rfl | rfl | rfl | rfl | rfl | rfl | rfl | rfl | rfl | rfl | rfl | rfl | rfl | rfl | rfl⟩) | ⟨rfl, rfl | rfl⟩ <;> exact f _ _ _ rfl (hn _ rfl))
/-- parcel x is in the making -/
theorem zKb_open {x b : Int} {Z : qz_Z} (h : zKb (-1) b Z) (hs : Z 47 b x 9 ≠ 2) : zKb x b Z := ⟨fun q h0 h1 _ => h.1 q h0 h1 (by omega), h.2.1, fun i i0 i1 => by
  obtain ⟨a1, a2, a3, a4⟩ := h.2.2 i i0 i1
  refine ⟨a1, a2, fun e => ?_, a4⟩
  rw [e] at a4
  exact hs a4⟩
theorem zKb_close {x b : Int} {Z : qz_Z} (h : zKb x b Z) (g : 0 ≤ x → x < Z 11 b 0 6 → zKo b Z x) : zKb (-1) b Z := ⟨fun q h0 h1 _ => by
  by_cases e : q = x
  · rw [e] at h0 h1 ⊢
    exact g h0 h1
  · exact h.1 q h0 h1 e, h.2.1, fun i i0 i1 => by
  obtain ⟨a1, a2, a3, a4⟩ := h.2.2 i i0 i1
  exact ⟨a1, a2, by omega, a4⟩⟩
theorem zKb_x {x b j v : Int} {Z : qz_Z} (h : zKb x b Z) : zKb x b (zu Z 47 b x j v) := by
  have e : ∀ k i j', k ≠ 47 → zu Z 47 b x j v k b i j' = Z k b i j' := fun k i j' n => zu_ne rfl (fun q => n q.1)
  have e47 : ∀ q j', q ≠ x → zu Z 47 b x j v 47 b q j' = Z 47 b q j' := fun q j' n => zu_ne rfl (fun g => n g.2.2.1)
  obtain ⟨h1, h2, h3⟩ := h
  refine ⟨fun q q0 q1 q2 => ?_, ?_, fun i i0 i1 => ?_⟩
  · rw [e 11 _ _ (by decide)] at q1
    simp only [zKo, zKa, zKw, zKl, zKc, zKr, e47 q _ q2, e 11 _ _ (show (11 : Nat) ≠ 47 by decide), e 44 _ _ (show (44 : Nat) ≠ 47 by decide)]
    exact h1 q q0 q1 q2
  · simp only [zKo, zKa, zKw, zKl, zKc, zKr, e 11 _ _ (show (11 : Nat) ≠ 47 by decide), e 44 _ _ (show (44 : Nat) ≠ 47 by decide), e 41 _ _ (show (41 : Nat) ≠ 47 by decide)]
    exact h2
  · rw [e 11 _ _ (by decide)] at i1
    obtain ⟨a1, a2, a3, a4⟩ := h3 i i0 i1
    simp only [e 11 _ _ (show (11 : Nat) ≠ 47 by decide), e 54 _ _ (show (54 : Nat) ≠ 47 by decide)]
    rw [e47 _ _ a3]
    exact ⟨a1, a2, a3, a4⟩
/-- a number of a pallet -/
theorem zKb_p {x b p j v : Int} {Z : qz_Z} (h : zKb x b Z) (hv : (j = 4 ∧ 0 ≤ v ∧ v ≤ 40) ∨ (j = 5 ∧ 0 ≤ v ∧ v ≤ 40) ∨ (j = 7 ∧ Z 44 b p 7 ≤ v ∧ 0 ≤ v ∧ v ≤ 2000) ∨ (j = 8 ∧ 0 ≤ v ∧ v ≤ 999) ∨ (j = 9 ∧ -1 ≤ v ∧ v ≤ 3)) : zKb x b (zu Z 44 b p j v) := by
  have e : ∀ k i j', k ≠ 44 → zu Z 44 b p j v k b i j' = Z k b i j' := fun k i j' n => zu_ne rfl (fun q => n q.1)
  have ej : ∀ i j', j' ≠ j → zu Z 44 b p j v 44 b i j' = Z 44 b i j' := fun i j' n => zu_ne rfl (fun q => n q.2.2.2)
  have ep : ∀ i j', i ≠ p → zu Z 44 b p j v 44 b i j' = Z 44 b i j' := fun i j' n => zu_ne rfl (fun q => n q.2.2.1)
  have e7 : ∀ i, Z 44 b i 7 ≤ zu Z 44 b p j v 44 b i 7 := fun i => by
    by_cases q : i = p ∧ j = 7
    · rw [q.1, q.2, zu_at rfl]
      omega
    · by_cases q1 : i = p
      · rw [ej _ _ (fun z => q ⟨q1, z.symm⟩)]
        exact Int.le_refl _
      · rw [ep _ _ q1]
        exact Int.le_refl _
  obtain ⟨h1, h2, h3⟩ := h
  refine ⟨fun q q0 q1 q2 => ?_, ⟨fun r r0 r1 => ?_, ?_, ?_, ?_, ?_⟩, fun i i0 i1 => ?_⟩
  · rw [e 11 _ _ (by decide)] at q1
    obtain ⟨a1, a2, a3, a4⟩ := h1 q q0 q1 q2
    simp only [zKo, zKa, zKw, zKl, zKc, zKr, e 11 _ _ (show (11 : Nat) ≠ 44 by decide), e 47 _ _ (show (47 : Nat) ≠ 44 by decide)]
    refine ⟨a1, fun s => ?_, a3, a4⟩
    have w := a2 s
    have g := e7 (Z 47 b q 0)
    exact ⟨Int.le_trans w.1 g, w.2⟩
  · have g := h2.1 r r0 r1
    by_cases n : r = p
    · rw [n] at g ⊢
      rcases hv with ⟨rfl, hv⟩ | ⟨rfl, hv⟩ | ⟨rfl, hv⟩ | ⟨rfl, hv⟩ | ⟨rfl, hv⟩
      · rw [zu_at rfl, ej p 1 (by decide), ej p 5 (by decide), ej p 7 (by decide), ej p 8 (by decide), ej p 9 (by decide)]
        omega
      · rw [zu_at rfl, ej p 1 (by decide), ej p 4 (by decide), ej p 7 (by decide), ej p 8 (by decide), ej p 9 (by decide)]
        omega
      · rw [zu_at rfl, ej p 1 (by decide), ej p 4 (by decide), ej p 5 (by decide), ej p 8 (by decide), ej p 9 (by decide)]
        omega
      · rw [zu_at rfl, ej p 1 (by decide), ej p 4 (by decide), ej p 5 (by decide), ej p 7 (by decide), ej p 9 (by decide)]
        omega
      · rw [zu_at rfl, ej p 1 (by decide), ej p 4 (by decide), ej p 5 (by decide), ej p 7 (by decide), ej p 8 (by decide)]
        omega
    · simp only [ep r _ n]
      exact g
  · intro s s0 s1
    rw [e 41 _ _ (by decide), e 41 _ _ (by decide)]
    exact h2.2.1 s s0 s1
  · rw [e 11 _ _ (by decide)]
    exact h2.2.2.1
  · rw [e 11 _ _ (by decide)]
    exact h2.2.2.2.1
  · rw [e 11 _ _ (by decide)]
    exact h2.2.2.2.2
  · rw [e 11 _ _ (by decide)] at i1
    simp only [e 11 _ _ (show (11 : Nat) ≠ 44 by decide), e 47 _ _ (show (47 : Nat) ≠ 44 by decide), e 54 _ _ (show (54 : Nat) ≠ 44 by decide)]
    exact h3 i i0 i1
/-- a parcel more -/
theorem zKb_n {b : Int} {Z : qz_Z} (h : zKb (-1) b Z) : zKb (Z 11 b 0 6) b (zu Z 11 b 0 6 (Z 11 b 0 6 + 1)) := by
  have e : ∀ k i j', k ≠ 11 → zu Z 11 b 0 6 (Z 11 b 0 6 + 1) k b i j' = Z k b i j' := fun k i j' n => zu_ne rfl (fun q => n q.1)
  have ej : ∀ j', j' ≠ 6 → zu Z 11 b 0 6 (Z 11 b 0 6 + 1) 11 b 0 j' = Z 11 b 0 j' := fun j' n => zu_ne rfl (fun q => n q.2.2.2)
  obtain ⟨h1, h2, h3⟩ := h
  have c6 := h2.2.2.2.2
  refine ⟨fun q q0 q1 q2 => ?_, ?_, fun i i0 i1 => ?_⟩
  · rw [zu_at rfl] at q1
    have g := h1 q q0 (by omega) (by omega)
    simp only [zKo, zKa, zKw, zKl, zKc, zKr, e 47 _ _ (show (47 : Nat) ≠ 11 by decide), e 44 _ _ (show (44 : Nat) ≠ 11 by decide), ej 3 (by decide), ej 13 (by decide)]
    exact g
  · simp only [zKo, zKa, zKw, zKl, zKc, zKr, e 41 _ _ (show (41 : Nat) ≠ 11 by decide), e 44 _ _ (show (44 : Nat) ≠ 11 by decide), ej 3 (by decide), ej 13 (by decide)]
    rw [zu_at rfl]
    exact ⟨h2.1, h2.2.1, h2.2.2.1, h2.2.2.2.1, by omega⟩
  · rw [ej 10 (by decide)] at i1
    obtain ⟨a1, a2, a3, a4⟩ := h3 i i0 i1
    rw [zu_at rfl]
    simp only [e 47 _ _ (show (47 : Nat) ≠ 11 by decide), e 54 _ _ (show (54 : Nat) ≠ 11 by decide)]
    exact ⟨a1, by omega, by omega, a4⟩
/-- an hour -/
theorem zKb_t {b : Int} {Z : qz_Z} (h : zKb (-1) b Z) : zKb (-1) b (zu Z 11 b 0 13 (Z 11 b 0 13 + 1)) := by
  have e : ∀ k i j', k ≠ 11 → zu Z 11 b 0 13 (Z 11 b 0 13 + 1) k b i j' = Z k b i j' := fun k i j' n => zu_ne rfl (fun q => n q.1)
  have ej : ∀ j', j' ≠ 13 → zu Z 11 b 0 13 (Z 11 b 0 13 + 1) 11 b 0 j' = Z 11 b 0 j' := fun j' n => zu_ne rfl (fun q => n q.2.2.2)
  obtain ⟨h1, h2, h3⟩ := h
  refine ⟨fun q q0 q1 q2 => ?_, ?_, fun i i0 i1 => ?_⟩
  · rw [ej 6 (by decide)] at q1
    obtain ⟨a1, a2, a3, a4⟩ := h1 q q0 q1 q2
    unfold zKo zKa zKw zKl zKc
    rw [zu_at rfl]
    simp only [e 47 _ _ (show (47 : Nat) ≠ 11 by decide), e 44 _ _ (show (44 : Nat) ≠ 11 by decide), ej 3 (by decide)]
    exact ⟨a1, fun s => ⟨(a2 s).1, by have := (a2 s).2; omega⟩, fun s => ⟨(a3 s).1, (a3 s).2.1, (a3 s).2.2.1, by have := (a3 s).2.2.2; omega⟩, fun s => ⟨(a4 s).1, (a4 s).2.1, (a4 s).2.2.1, (a4 s).2.2.2.1, by have := (a4 s).2.2.2.2; omega⟩⟩
  · unfold zKr
    rw [zu_at rfl]
    simp only [e 41 _ _ (show (41 : Nat) ≠ 11 by decide), e 44 _ _ (show (44 : Nat) ≠ 11 by decide), ej 3 (by decide), ej 6 (by decide)]
    exact ⟨h2.1, h2.2.1, by have := h2.2.2.1; omega, h2.2.2.2⟩
  · rw [ej 10 (by decide)] at i1
    simp only [e 47 _ _ (show (47 : Nat) ≠ 11 by decide), e 54 _ _ (show (54 : Nat) ≠ 11 by decide), ej 6 (by decide)]
    exact h3 i i0 i1
/-- an entry -/
theorem zKb_9005 {x b f t c p : Int} {Z : qz_Z} (h : zKb x b Z) : zKb x b (zf_9005 Z b f t c p) := by
  unfold zf_9005
  simp only [zlet]
  split
  · exact zKb_u (zKb_u (zKb_u (zKb_u (zKb_u (zKb_u (zKb_u (zKb_u h rfl) rfl) rfl) rfl) rfl) rfl) rfl) rfl
  · exact h
theorem zDb_9005 {b f t c p : Int} {Z : qz_Z} (h : zDb b Z) : zDb b (zf_9005 Z b f t c p) := by
  unfold zf_9005
  simp only [zlet]
  split
  · exact zDb_u (zDb_u (zDb_u (zDb_u (zDb_u (zDb_u (zDb_u (zDb_u h rfl) rfl) rfl) rfl) rfl) rfl) rfl) rfl
  · exact h
theorem zPb_9005 {b f t c p : Int} {Z : qz_Z} (h : zPb b Z) : zPb b (zf_9005 Z b f t c p) := by
  unfold zf_9005
  simp only [zlet]
  split
  · exact zPb_u (zPb_u (zPb_u (zPb_u (zPb_u (zPb_u (zPb_u (zPb_u h rfl) rfl) rfl) rfl) rfl) rfl) rfl) rfl
  · exact h
/-- what is lost -/
theorem zKb_20 {b q r s t : Int} {Z : qz_Z} (h : zKb (-1) b Z) (q0 : 0 ≤ q) (q1 : q < Z 11 b 0 6) (st : Z 47 b q 9 = 0) : zKb (-1) b (zf_20 (zu (zu (zu (zu Z 47 b q 9 3) 47 b q 11 r) 47 b q 12 s) 47 b q 17 t) b b q) := by
  have o := zKb_open (x := q) h (by omega)
  have g := (h.1 q q0 q1 (by omega)).1
  have tr := g.2.2.2.2.2.2.2 (by omega)
  obtain ⟨⟨a1, a2⟩, ⟨a3, a4⟩, ⟨a5, a6⟩, ⟨a7, a8⟩, ⟨a9, b1⟩, b2, b3, b4⟩ := g
  unfold zf_20
  simp only [zlet]
  split
  · refine zKb_close (zKb_u (zKb_x (zKb_u (zKb_u (zKb_x (zKb_x (zKb_x (zKb_x o)))) rfl) rfl)) rfl) (fun _ _ => ⟨?_, ?_, ?_, ?_⟩)
    all_goals simp [zKa, zKw, zKl, zKc, zuq]
    all_goals omega
  · refine zKb_close (zKb_u (zKb_u (zKb_x (zKb_u (zKb_u (zKb_x (zKb_x (zKb_x (zKb_x o)))) rfl) rfl)) rfl) rfl) (fun _ _ => ⟨?_, ?_, ?_, ?_⟩)
    all_goals simp [zKa, zKw, zKl, zKc, zuq]
    all_goals omega
theorem zKb_105 {b p v : Int} : ∀ (m : Nat) (Z : qz_Z) (x : Int), 0 ≤ x → zKb (-1) b Z → zKb (-1) b (zl_105_1 b p p v m Z x).1
  | 0, Z, x, h0, h => h
  | m + 1, Z, x, h0, h => by
    unfold zl_105_1
    split
    · exact h
    split
    · exact zKb_105 m Z _ (by omega) h
    split
    · exact zKb_105 m Z _ (by omega) h
    simp only [zlet]
    rename_i g1 g2 g3
    have g := zKb_20 (q := x) (r := zu Z 47 b x 9 3 44 b p 7) (s := zu (zu Z 47 b x 9 3) 47 b x 11 (zu Z 47 b x 9 3 44 b p 7) 44 b p 8) (t := zu (zu (zu Z 47 b x 9 3) 47 b x 11 (zu Z 47 b x 9 3 44 b p 7)) 47 b x 12 (zu (zu Z 47 b x 9 3) 47 b x 11 (zu Z 47 b x 9 3 44 b p 7) 44 b p 8) 11 b 0 13) h h0 (by omega) (by omega)
    split
    · refine zKb_105 m _ _ (by omega) ?_
      exact zKb_u (zKb_u (zKb_u (zKb_u (zKb_u (zKb_u (zKb_u (zKb_u g rfl) rfl) rfl) rfl) rfl) rfl) rfl) rfl
    · exact zKb_105 m _ _ (by omega) g
/-- what comes -/
theorem zKb_41 {b t w : Int} (t0 : 0 ≤ t) : ∀ (m : Nat) (Z : qz_Z) (x : Int), 0 ≤ x → zKb (-1) b Z → zKb (-1) b (zl_41_1 b t w m Z x).1
  | 0, Z, x, h0, h => h
  | m + 1, Z, x, h0, h => by
    unfold zl_41_1
    split
    · exact h
    split
    · exact zKb_41 t0 m Z _ (by omega) h
    split
    · exact zKb_41 t0 m Z _ (by omega) h
    simp only [zlet]
    rename_i g1 g2 g3
    obtain ⟨g, _, gl, _⟩ := h.1 x h0 (by omega) (by omega)
    have st : Z 47 b x 9 = 1 := by
      by_cases e : Z 47 b x 9 = 1
      · exact e
      · have := g.2.2.2.2.2.2.2 e
        omega
    obtain ⟨⟨l1, l2, l3⟩, ⟨l4, l5, l6⟩, l7, l8⟩ := gl st
    obtain ⟨⟨a1, a2⟩, ⟨a3, a4⟩, ⟨a5, a6⟩, ⟨a7, a8⟩, ⟨a9, b1⟩, b2, b3, b4⟩ := g
    have o := zKb_open (x := x) h (by omega)
    refine zKb_41 t0 m _ _ (by omega) ?_
    refine zKb_close (zKb_u (zKb_x (zKb_x (zKb_x o))) rfl) (fun _ _ => ⟨?_, ?_, ?_, ?_⟩)
    all_goals simp [zKa, zKw, zKl, zKc, zuq]
    all_goals omega
