/-! Faces: the whole relation is kept. What a face touches beyond its frames. -/
theorem zDd_fr {L K : List Nat} {Z Y C M : qz_Z} {dm : qz_Z → Int → Int → Int → Int → Int → Int → Int → qz_Z} (d : zDd L K Z Y dm C M) (hI : zI none Z) (hd : zDf dm) (e : K.contains 99999 = true) : zFa (1115 :: 1116 :: L) 0 Z C ∧ yFa K Y M := by
  obtain ⟨Zd, Yd, h, f, g⟩ := d
  have hz : zFa [1115, 1116] 0 Z Zd ∧ yFa [99999] Y Yd := by
    rcases h with ⟨h1, h2⟩ | ⟨c, a1, a2, a3, a4, a5, a6, d, Y1, h1, h2, h3, _⟩
    · rw [h1]
      exact ⟨fun _ _ _ _ _ => rfl, h2.1⟩
    · refine ⟨zFa_dd hI h1, fun a ha => ?_⟩
      exact (yFa_dm hd h3 a rfl).trans (h2.1 a ha)
  refine ⟨fun k i j hk hL => ?_, fun a ha => ?_⟩
  · have n2 : L.contains (zcc k j) = false := by
      cases q : L.contains (zcc k j) with
      | false => rfl
      | true =>
        have := List.contains_iff_mem.mp q
        have z : (1115 :: 1116 :: L).contains (zcc k j) = true := List.contains_iff_mem.mpr (List.mem_cons_of_mem _ (List.mem_cons_of_mem _ this))
        rw [hL] at z
        cases z
    have n1 : [1115, 1116].contains (zcc k j) = false := by
      cases q : [1115, 1116].contains (zcc k j) with
      | false => rfl
      | true =>
        have m := List.contains_iff_mem.mp q
        have z : (1115 :: 1116 :: L).contains (zcc k j) = true := List.contains_iff_mem.mpr (by
          rcases List.mem_cons.mp m with m | m
          · exact List.mem_cons.mpr (.inl m)
          · rcases List.mem_cons.mp m with m | m
            · exact List.mem_cons_of_mem _ (List.mem_cons.mpr (.inl m))
            · cases m)
        rw [hL] at z
        cases z
    rw [f.1 k i j hk n2]
    exact hz.1 k i j hk n1
  · have n1 : [99999].contains (zcm a) = false := by
      cases q : [99999].contains (zcm a) with
      | false => rfl
      | true =>
        have m := List.contains_iff_mem.mp q
        rcases List.mem_cons.mp m with m | m
        · rw [m, e] at ha
          cases ha
        · cases m
    rw [g.1 a ha]
    exact hz.2 a n1
section DDK
variable {Z : qz_Z} {a1 a2 a3 a4 a5 a6 a7 : Int}
theorem zKb_dd (h : zKb (-1) 0 Z) (hI : zI none Z) : zKb (-1) 0 (zdd Z a1 a2 a3 a4 a5 a6 a7) := zKb_f h (zFa_dd hI rfl) (by decide)
theorem zDb_dd (h : zDb 0 Z) (hI : zI none Z) : zDb 0 (zdd Z a1 a2 a3 a4 a5 a6 a7) := zDb_f h (zFa_dd hI rfl) (by decide)
theorem zPb_dd (h : zPb 0 Z) (hI : zI none Z) : zPb 0 (zdd Z a1 a2 a3 a4 a5 a6 a7) := zPb_f h (zFa_dd hI rfl) (by decide)
theorem zK4_dd (h : zK4 0 Z) (hI : zI none Z) : zK4 0 (zdd Z a1 a2 a3 a4 a5 a6 a7) := ⟨zDb_dd h.1 hI, zPb_dd h.2.1 hI, zKb_dd h.2.2 hI⟩
/-- a cell of the hall that no deed touches -/
theorem zdd_k (hI : zI none Z) {k : Nat} {i j : Int} (hk : zhall k = true) (e : [1115, 1116].contains (zcc k j) = false) : zdd Z a1 a2 a3 a4 a5 a6 a7 k 0 i j = Z k 0 i j := zFa_dd hI rfl k i j hk e
theorem zdd_g (hI : zI none Z) {k : Nat} {i j : Int} (hk : zhall k = true) (h12 : 12 ≤ k) : zdd Z a1 a2 a3 a4 a5 a6 a7 k 0 i j = Z k 0 i j := zFa_dd hI rfl k i j hk (by
  have n : 1200 ≤ zcc k j := by
    unfold zcc
    split <;> omega
  cases q : [1115, 1116].contains (zcc k j) with
  | false => rfl
  | true =>
    have m := List.contains_iff_mem.mp q
    rcases List.mem_cons.mp m with m | m
    · omega
    · rcases List.mem_cons.mp m with m | m
      · omega
      · cases m)
end DDK
/-- sorts -/
theorem zKb_s {x b k j v : Int} {Z : qz_Z} (h : zKb x b Z) (hv : j = 0 ∨ j = 3 → 0 ≤ v) : zKb x b (zu Z 41 b k j v) := by
  have e : ∀ k' i j', k' ≠ 41 → zu Z 41 b k j v k' b i j' = Z k' b i j' := fun k' i j' n => zu_ne rfl (fun q => n q.1)
  obtain ⟨h1, h2, h3⟩ := h
  refine ⟨fun q q0 q1 q2 => ?_, ⟨?_, fun s s0 s1 => ?_, ?_⟩, fun i i0 i1 => ?_⟩
  · rw [e 11 _ _ (by decide)] at q1
    have g := h1 q q0 q1 q2
    simp only [zKo, zKa, zKw, zKl, zKc, e 11 _ _ (show (11 : Nat) ≠ 41 by decide), e 44 _ _ (show (44 : Nat) ≠ 41 by decide), e 47 _ _ (show (47 : Nat) ≠ 41 by decide)]
    exact g
  · simp only [e 44 _ _ (show (44 : Nat) ≠ 41 by decide)]
    exact h2.1
  · have g := h2.2.1 s s0 s1
    have c : ∀ j' : Int, (j' = 0 ∨ j' = 3) → 0 ≤ Z 41 b s j' → 0 ≤ zu Z 41 b k j v 41 b s j' := fun j' hj hg => by
      rw [zuq]
      split
      · rename_i q
        exact hv (by rw [← q.2.2.2]; exact hj)
      · exact hg
    exact ⟨c 0 (.inl rfl) g.1, c 3 (.inr rfl) g.2⟩
  · rw [e 11 _ _ (by decide), e 11 _ _ (by decide), e 11 _ _ (by decide)]
    exact h2.2.2
  · rw [e 11 _ _ (by decide)] at i1
    simp only [e 11 _ _ (show (11 : Nat) ≠ 41 by decide), e 47 _ _ (show (47 : Nat) ≠ 41 by decide), e 54 _ _ (show (54 : Nat) ≠ 41 by decide)]
    exact h3 i i0 i1
theorem kb_sort {Z : qz_Z} {a1 a2 a3 a4 a5 : Int} (h : zKb (-1) 0 Z) (hI : zI none Z) : zKb (-1) 0 (zx_243 Z a1 a2 a3 a4 a5).1 := by
  unfold zx_243
  repeat' split
  all_goals first
    | exact h
    | (simp only [zlet]
       exact zKb_u (zKb_u (zKb_s (zKb_u (zKb_u (zKb_s (zKb_dd h hI) (fun _ => by omega)) rfl) rfl) (fun _ => by omega)) rfl) rfl)
/-- a pallet's sort -/
theorem zKb_p1 {x b p v : Int} {Z : qz_Z} (h : zKb x b Z) (hv : 0 ≤ v ∧ v ≤ 4) : zKb x b (zu Z 44 b p 1 v) := by
  have e : ∀ k i j', (k ≠ 44 ∨ j' ≠ 1) → zu Z 44 b p 1 v k b i j' = Z k b i j' := fun k i j' n => zu_ne rfl (fun q => by
    rcases n with n | n
    · exact n q.1
    · exact n q.2.2.2)
  obtain ⟨h1, h2, h3⟩ := h
  refine ⟨fun q q0 q1 q2 => ?_, ⟨fun r r0 r1 => ?_, ?_⟩, fun i i0 i1 => ?_⟩
  · rw [e 11 _ _ (.inl (by decide))] at q1
    have g := h1 q q0 q1 q2
    simp only [zKo, zKa, zKw, zKl, zKc, e 11 _ _ (.inl (show (11 : Nat) ≠ 44 by decide)), e 44 _ 7 (.inr (by decide)), e 47 _ _ (.inl (show (47 : Nat) ≠ 44 by decide))]
    exact g
  · have g := h2.1 r r0 r1
    simp only [e 44 _ 4 (.inr (by decide)), e 44 _ 5 (.inr (by decide)), e 44 _ 7 (.inr (by decide)), e 44 _ 8 (.inr (by decide)), e 44 _ 9 (.inr (by decide))]
    refine ⟨?_, g.2⟩
    rw [zuq]
    split
    · exact hv
    · exact g.1
  · simp only [e 11 _ _ (.inl (show (11 : Nat) ≠ 44 by decide)), e 41 _ _ (.inl (show (41 : Nat) ≠ 44 by decide))]
    exact h2.2
  · rw [e 11 _ _ (.inl (by decide))] at i1
    simp only [e 11 _ _ (.inl (show (11 : Nat) ≠ 44 by decide)), e 47 _ _ (.inl (show (47 : Nat) ≠ 44 by decide)), e 54 _ _ (.inl (show (54 : Nat) ≠ 44 by decide))]
    exact h3 i i0 i1
/-- a pallet more -/
theorem zKb_c3 {x b : Int} {Z : qz_Z} (h : zKb x b Z) (hc : Z 11 b 0 3 < 48) : zKb x b (zu Z 11 b 0 3 (Z 11 b 0 3 + 1)) := by
  have e : ∀ k i j', (k ≠ 11 ∨ j' ≠ 3) → zu Z 11 b 0 3 (Z 11 b 0 3 + 1) k b i j' = Z k b i j' := fun k i j' n => zu_ne rfl (fun q => by
    rcases n with n | n
    · exact n q.1
    · exact n q.2.2.2)
  obtain ⟨h1, h2, h3⟩ := h
  refine ⟨fun q q0 q1 q2 => ?_, ⟨?_, ?_, ?_, ?_, ?_⟩, fun i i0 i1 => ?_⟩
  · rw [e 11 _ _ (.inr (by decide))] at q1
    obtain ⟨⟨⟨a1, a2⟩, a3⟩, g⟩ := h1 q q0 q1 q2
    simp only [zKo, zKa, zKw, zKl, zKc, e 11 _ 13 (.inr (by decide)), e 44 _ _ (.inl (show (44 : Nat) ≠ 11 by decide)), e 47 _ _ (.inl (show (47 : Nat) ≠ 11 by decide))]
    rw [zu_at rfl]
    exact ⟨⟨⟨a1, by omega⟩, a3⟩, g⟩
  · simp only [e 44 _ _ (.inl (show (44 : Nat) ≠ 11 by decide))]
    exact h2.1
  · simp only [e 41 _ _ (.inl (show (41 : Nat) ≠ 11 by decide))]
    exact h2.2.1
  · rw [e 11 _ 13 (.inr (by decide))]
    exact h2.2.2.1
  · rw [zu_at rfl]
    have := h2.2.2.2.1
    omega
  · rw [e 11 _ 6 (.inr (by decide))]
    exact h2.2.2.2.2
  · rw [e 11 _ 10 (.inr (by decide))] at i1
    simp only [e 11 _ 6 (.inr (by decide)), e 47 _ _ (.inl (show (47 : Nat) ≠ 11 by decide)), e 54 _ _ (.inl (show (54 : Nat) ≠ 11 by decide))]
    exact h3 i i0 i1
theorem kb_deliver {Z : qz_Z} {a1 a2 a3 a4 a5 : Int} (h : zKb (-1) 0 Z) (hI : zI none Z) (h5 : Z 11 0 0 0 ≤ 5) (hz : Z 11 0 0 3 < 48 → Z 44 0 (Z 11 0 0 3) 7 = 0) : zKb (-1) 0 (zx_195 Z a1 a2 a3 a4 a5).1 := by
  have c0 : zdd Z 2 a1 a2 a3 a4 a5 0 11 0 0 3 = Z 11 0 0 3 := zdd_k hI rfl rfl
  have hd : zKb (-1) 0 (zdd Z 2 a1 a2 a3 a4 a5 0) := zKb_dd h hI
  have c7 : ∀ p, zdd Z 2 a1 a2 a3 a4 a5 0 44 0 p 7 = Z 44 0 p 7 := fun p => zdd_k hI rfl rfl
  unfold zx_195
  simp only [zlet]
  generalize zdd Z 2 a1 a2 a3 a4 a5 0 = Zd at c0 hd c7 ⊢
  rw [c0]
  repeat' split
  all_goals first
    | exact h
    | (refine zKb_c3 (zKb_u (zKb_u (zKb_u (zKb_p (zKb_p (zKb_p (zKb_p (zKb_u (zKb_u (zKb_p1 (zKb_u hd rfl) (by omega)) rfl) rfl) (.inl ⟨rfl, by omega, by omega⟩)) (.inr (.inl ⟨rfl, by omega, by omega⟩))) (.inr (.inr (.inl ⟨rfl, ?_, by omega, by omega⟩)))) (.inr (.inr (.inr (.inr ⟨rfl, by omega, by omega⟩))))) rfl) rfl) rfl) ?_
       · simp [zuq, c7]
         rw [hz (by omega)]
         omega
       · simp [zuq, c0]
         omega)
/-- a grading -/
theorem z95_P {P : qz_Z → Prop} {b : Int} (hu : ∀ Z k i j v, zbn k j = true → P Z → P (zu Z k b i j v)) {p s1 s2 s3 : Int} (h44 : ∀ Z j v, (j = 14 ∨ j = 15 ∨ j = 9 ∧ -1 ≤ v ∧ v ≤ 3) → P Z → P (zu Z 44 b p j v)) {Z : qz_Z} (h : P Z) : P (zf_95 Z b p s1 s2 s3).1 := by
  have e5 : ∀ {α : Type} (q : Int × Int × Int × Int × Int) (kk : Int → Int → Int → Int → Int → α), zlet5 q kk = kk q.1 q.2.1 q.2.2.1 q.2.2.2.1 q.2.2.2.2 := fun _ _ => rfl
  have r := z100_r (b := b) (Z := Z) (p := p)
  unfold zf_95
  simp only [zlet, e5]
  repeat' split
  all_goals first
    | exact hu _ 11 _ 12 _ rfl (hu _ 53 _ _ _ rfl (hu _ 53 _ _ _ rfl (hu _ 53 _ _ _ rfl (hu _ 53 _ _ _ rfl (hu _ 53 _ _ _ rfl (hu _ 14 _ _ _ rfl (hu _ 14 _ _ _ rfl (h44 _ 15 _ (.inr (.inl rfl)) (h44 _ 14 _ (.inl rfl) (h44 _ 9 _ (.inr (.inr ⟨rfl, by omega, by omega⟩)) h))))))))))
    | exact h44 _ 15 _ (.inr (.inl rfl)) (h44 _ 14 _ (.inl rfl) (h44 _ 9 _ (.inr (.inr ⟨rfl, by omega, by omega⟩)) h))
theorem kb_grade {Z : qz_Z} {a1 a2 a3 a4 : Int} (h : zKb (-1) 0 Z) (hI : zI none Z) : zKb (-1) 0 (zx_203 Z a1 a2 a3 a4).1 := by
  have g : zKb (-1) 0 (zf_95 (zdd Z 3 a1 a2 a3 a4 0 0) 0 a1 a2 a3 a4).1 := z95_P (fun _ _ _ _ _ e h => zKb_u h (zbn_K e).1) (fun Z j v hj h => by
    rcases hj with rfl | rfl | ⟨rfl, hv⟩
    · exact zKb_u h rfl
    · exact zKb_u h rfl
    · exact zKb_p h (.inr (.inr (.inr (.inr ⟨rfl, hv⟩))))) (zKb_dd h hI)
  unfold zx_203
  repeat' split
  all_goals first
    | exact h
    | exact g
/-- rows of pallets beyond the count -/
def zP44 (b N : Int) (Z0 Z : qz_Z) : Prop := Z 11 b 0 3 = N ∧ ∀ p j, N ≤ p → Z 44 b p j = Z0 44 b p j
theorem zP44_u {b N : Int} {Z0 Z : qz_Z} {k : Nat} {i j v : Int} (e : zbn k j = true) (h : zP44 b N Z0 Z) : zP44 b N Z0 (zu Z k b i j v) := ⟨(zu_ne rfl (fun q => by rw [← q.1, ← q.2.2.2] at e; cases e)).trans h.1, fun p jj hp => (zu_ne rfl (fun q => by rw [← q.1] at e; cases e)).trans (h.2 p jj hp)⟩
theorem zP44_o {b N : Int} {Z0 Z : qz_Z} {k : Nat} {i j v : Int} (e : k ≠ 11 ∧ k ≠ 44) (h : zP44 b N Z0 Z) : zP44 b N Z0 (zu Z k b i j v) := ⟨(zu_ne rfl (fun q => e.1 q.1.symm)).trans h.1, fun p jj hp => (zu_ne rfl (fun q => e.2 q.1.symm)).trans (h.2 p jj hp)⟩
theorem zP44_p {b N : Int} {Z0 Z : qz_Z} {i j v : Int} (e : i < N) (h : zP44 b N Z0 Z) : zP44 b N Z0 (zu Z 44 b i j v) := ⟨(zu_ne rfl (fun q => absurd q.1 (by decide))).trans h.1, fun p jj hp => (zu_ne rfl (fun q => by have := q.2.2.1; omega)).trans (h.2 p jj hp)⟩
theorem zP44_dd {Z : qz_Z} {a1 a2 a3 a4 a5 a6 a7 : Int} (hI : zI none Z) : zP44 0 (Z 11 0 0 3) Z (zdd Z a1 a2 a3 a4 a5 a6 a7) := ⟨zdd_k hI rfl rfl, fun p j _ => zdd_g hI rfl (by decide)⟩
theorem z44_grade {Z : qz_Z} {a1 a2 a3 a4 p j : Int} (hI : zI none Z) (hp : Z 11 0 0 3 ≤ p) : (zx_203 Z a1 a2 a3 a4).1 44 0 p j = Z 44 0 p j := by
  unfold zx_203
  simp only [zlet, zlet2]
  repeat' split
  all_goals first
    | rfl
    | exact (z95_P (P := zP44 0 (Z 11 0 0 3) Z) (fun _ _ _ _ _ e h => zP44_u e h) (fun _ _ _ _ h => zP44_p (by omega) h) (zP44_dd hI)).2 p j hp
theorem z44_dump {Z : qz_Z} {a1 p j : Int} (hI : zI none Z) (hp : Z 11 0 0 3 ≤ p) : (zx_198 Z a1).1 44 0 p j = Z 44 0 p j := by
  unfold zx_198
  simp only [zlet, zlet2]
  repeat' split
  all_goals first
    | rfl
    | exact (z105_P (P := zP44 0 (Z 11 0 0 3) Z) (fun _ _ _ _ _ e h => zP44_u e h) (fun _ _ _ _ h => zP44_p (by omega) h) (fun m v C x x0 h => zl105_P (P := zP44 0 (Z 11 0 0 3) Z) (fun _ _ _ _ _ e h => zP44_u e h) (fun _ kk _ _ _ e h => zP44_o (by omega) h) m C x h) (zP44_dd hI)).2 p j hp
theorem kb_dump {Z : qz_Z} {a1 : Int} (h : zK4 0 Z) (hI : zI none Z) : zK4 0 (zx_198 Z a1).1 := by
  unfold zx_198
  simp only [zlet, zlet2]
  repeat' split
  all_goals first
    | exact h
    | exact zK4_105f (zK4_dd h hI)
theorem z44_withdraw {Z : qz_Z} {a1 p j : Int} (hI : zI none Z) (hp : Z 11 0 0 3 ≤ p) : (zx_254 Z a1).1 44 0 p j = Z 44 0 p j := by
  unfold zx_254
  simp only [zlet, zlet2]
  repeat' split
  all_goals first
    | rfl
    | exact (z76_P (P := zP44 0 (Z 11 0 0 3) Z) (fun _ _ _ _ _ e h => zP44_u e h) (fun _ _ h => zP44_p (by omega) h) (zP44_dd hI)).2 p j hp
theorem z233_P {Z : qz_Z} {a1 a2 a3 a4 : Int} (P : qz_Z → Prop) (h0 : P Z) (h1 : 0 ≤ a2 → a2 < Z 11 0 0 3 → Z 44 0 a2 10 = 0 → ∀ i x y z w v, P (zu (zu (zu (zu (zu (zdd Z 15 a1 a2 a3 a4 0 0) 44 0 a2 10 1) 49 0 i 0 x) 49 0 i 1 y) 49 0 i 2 z) 48 0 w 5 v)) : P (zx_233 Z a1 a2 a3 a4).1 := by
  unfold zx_233
  simp only [zlet]
  by_cases c0 : a1 < 0
  · rw [if_pos c0]
    exact h0
  rw [if_neg c0]
  by_cases c1 : Z 11 0 0 7 ≤ a1
  · rw [if_pos c1]
    exact h0
  rw [if_neg c1]
  by_cases c2 : a2 < 0
  · rw [if_pos c2]
    exact h0
  rw [if_neg c2]
  by_cases c3 : ¬ a2 < Z 11 0 0 3
  · rw [if_neg c3]
    exact h0
  rw [if_pos (Classical.not_not.mp c3)]
  by_cases c4 : a3 < 1
  · rw [if_pos c4]
    exact h0
  rw [if_neg c4]
  by_cases c5 : 9999 < a3
  · rw [if_pos c5]
    exact h0
  rw [if_neg c5]
  by_cases c6 : a4 < 1
  · rw [if_pos c6]
    exact h0
  rw [if_neg c6]
  by_cases c7 : a3 < a4
  · rw [if_pos c7]
    exact h0
  rw [if_neg c7]
  by_cases c8 : ¬ a3 ≤ (a4 + (200 * (Z 48 0 a1 3)))
  · rw [if_neg c8]
    exact h0
  rw [if_pos (Classical.not_not.mp c8)]
  by_cases c9 : Z 44 0 a2 10 ≠ 0
  · rw [if_pos c9]
    exact h0
  rw [if_neg c9]
  by_cases c10 : Z 44 0 a2 4 ≤ 0
  · rw [if_pos c10]
    exact h0
  rw [if_neg c10]
  have h2 := h1 (by omega) (by omega) (by omega)
  repeat' split
  all_goals first
    | exact h0
    | exact h2 _ _ _ _ _ _
theorem z44_queue {Z : qz_Z} {a1 a2 a3 a4 p j : Int} (hI : zI none Z) (hp : Z 11 0 0 3 ≤ p) : (zx_233 Z a1 a2 a3 a4).1 44 0 p j = Z 44 0 p j :=
  z233_P (fun C => C 44 0 p j = Z 44 0 p j) rfl (fun _ g _ i x y z w v => by
    have n : p ≠ a2 := by omega
    have c : zdd Z 15 a1 a2 a3 a4 0 0 44 0 p j = Z 44 0 p j := zdd_g hI rfl (by decide)
    simp [zuq, n, c])
theorem z44_put {Z : qz_Z} {a1 a2 p j : Int} (hI : zI none Z) (hp : Z 11 0 0 3 ≤ p) : (zx_9230 Z a1 a2).1 44 0 p j = Z 44 0 p j := by
  unfold zx_9230
  simp only [zlet, zlet2]
  repeat' split
  all_goals first
    | rfl
    | exact (z175_P (P := zP44 0 (Z 11 0 0 3) Z) (fun _ _ _ _ _ e h => zP44_u e h) (fun _ _ h => zP44_p (by omega) h) (zP44_dd hI)).2 p j hp
theorem z9092_P {P : qz_Z → Prop} {b : Int} (hu : ∀ Z k i j v, zbn k j = true → P Z → P (zu Z k b i j v)) {p : Int} (h44 : ∀ Z j v, (j = 10 ∨ j = 12) → P Z → P (zu Z 44 b p j v)) {Z : qz_Z} (h : P Z) : P (zf_9092 Z b p) := by
  unfold zf_9092
  simp only [zlet]
  repeat' split
  all_goals first
    | exact h
    | exact z175_P hu (fun Z v h => h44 Z 12 v (.inr rfl) h) (h44 _ 10 _ (.inl rfl) h)
theorem z44_load {Z : qz_Z} {a1 a2 p j : Int} (hI : zI none Z) (h : zKb (-1) 0 Z) (hp : Z 11 0 0 3 ≤ p) : (zx_9215 Z a1 a2).1 44 0 p j = Z 44 0 p j := by
  unfold zx_9215
  by_cases c1 : a1 < 0
  · rw [if_pos c1]
  rw [if_neg c1]
  by_cases c2 : Z 11 0 0 6 ≤ a1
  · rw [if_pos c2]
  rw [if_neg c2]
  have a := (h.1 a1 (by omega) (by omega) (by omega)).1.1
  have e0 : zdd Z 20 a1 a2 0 0 0 0 47 0 a1 0 = Z 47 0 a1 0 := zdd_k hI rfl rfl
  repeat' split
  all_goals first
    | rfl
    | (simp only [zlet]
       split
       · rfl
       · unfold zf_9050
         simp only [zlet, zlet2]
         refine (z9092_P (P := zP44 0 (Z 11 0 0 3) Z) (fun _ _ _ _ _ e h => zP44_u e h) (fun _ _ _ _ h => zP44_p ?_ h) (zP44_o (by decide) (zP44_o (by decide) (zP44_o (by decide) (zP44_o (by decide) (zP44_o (by decide) (zP44_o (by decide) (zP44_o (by decide) (zP44_dd hI))))))))).2 p j hp
         simp [zuq]
         rw [e0]
         exact a.2)
theorem kb_load {Z : qz_Z} {a1 a2 : Int} (h : zK4 0 Z) (hI : zI none Z) : zK4 0 (zx_9215 Z a1 a2).1 := by
  unfold zx_9215
  by_cases c1 : a1 < 0
  · rw [if_pos c1]
    exact h
  rw [if_neg c1]
  by_cases c2 : Z 11 0 0 6 ≤ a1
  · rw [if_pos c2]
    exact h
  rw [if_neg c2]
  repeat' split
  · exact h
  · exact h
  simp only [zlet]
  split
  · exact h
  rename_i c5
  have s0 : Z 47 0 a1 9 = 0 := by
    by_cases s : Z 47 0 a1 9 = 0
    · exact s
    · exfalso
      apply c5
      unfold zf_9049
      rw [if_pos s]
  have hd := zK4_dd (a1 := 20) (a2 := a1) (a3 := a2) (a4 := 0) (a5 := 0) (a6 := 0) (a7 := 0) h hI
  have d6 : zdd Z 20 a1 a2 0 0 0 0 11 0 0 6 = Z 11 0 0 6 := zdd_k hI rfl rfl
  have d9 : zdd Z 20 a1 a2 0 0 0 0 47 0 a1 9 = Z 47 0 a1 9 := zdd_k hI rfl rfl
  generalize zdd Z 20 a1 a2 0 0 0 0 = Zd at hd d6 d9 ⊢
  rw [s0] at d9
  have g0 : 0 ≤ a1 := by omega
  have g1 : a1 < Zd 11 0 0 6 := by omega
  obtain ⟨⟨⟨p1, p2⟩, ⟨p3, p4⟩, ⟨p5, p6⟩, ⟨p7, p8⟩, ⟨p9, q1⟩, q2, q3, q4⟩, gw, _, _⟩ := hd.2.2.1 a1 g0 g1 (by omega)
  obtain ⟨w1, w2⟩ := gw d9
  have k3 := hd.2.2.2.1.2.2.2.1
  obtain ⟨_, _, _, r7, r8, _⟩ := hd.2.2.2.1.1 (Zd 47 0 a1 0) p1 (by omega)
  have u := hd.2.1.2.2.1 a1 g0 g1
  unfold zf_9050
  simp only [zlet, zlet2]
  refine z9092_P (P := zK4 0) (fun _ _ _ _ _ e h => zK4_u e h) (fun _ j v hj h => zK4_44 (by rcases hj with rfl | rfl; exact .inr (.inl rfl); exact .inr (.inr (.inl rfl))) h) ⟨?_, ?_, ?_⟩
  · refine zDb_1 (q := a1) hd.1 g0 g1 ?_ ?_ (fun r => ⟨?_, ?_⟩) (fun r => ⟨?_, ?_, ?_⟩) (fun r n => ⟨?_, ?_⟩) (fun i => ⟨?_, ?_⟩) (fun i n => ⟨?_, ?_, ?_⟩) ?_ ?_ ?_
    all_goals simp [zuq, d9, *]
  · refine zPb_1 (q := a1) (B := -1) hd.2.1 g0 g1 ?_ ?_ (fun r => ?_) (fun r n => ⟨?_, ?_, ?_⟩) ⟨?_, ?_, ?_⟩ (fun i n => ?_) ?_ (fun g0 g1 => absurd g0 (by decide))
    all_goals simp [zuq, d9, *]
  · have o := zKb_open (x := a1) hd.2.2 (by omega)
    refine zKb_close (zKb_x (zKb_x (zKb_x (zKb_x (zKb_x (zKb_x (zKb_x o))))))) (fun _ _ => ⟨?_, ?_, ?_, ?_⟩)
    all_goals simp [zKa, zKw, zKl, zKc, zuq]
    all_goals omega
/-- an order more -/
theorem zDb_o {b B : Int} {Z C : qz_Z} (h : zDb b Z) (o0 : 0 ≤ Z 11 b 0 5) (c5 : C 11 b 0 5 = Z 11 b 0 5 + 1) (c6 : C 11 b 0 6 = Z 11 b 0 6) (on : ∀ r, r ≠ Z 11 b 0 5 → C 46 b r 0 = Z 46 b r 0) (oq : C 46 b (Z 11 b 0 5) 0 = B) (o8 : ∀ r, C 46 b r 8 = Z 46 b r 8) (r47 : ∀ q j, C 47 b q j = Z 47 b q j) (bo : ∀ i, C 45 b i 4 = Z 45 b i 4 ∧ C 45 b i 9 = Z 45 b i 9 ∧ C 45 b i 10 = Z 45 b i 10 ∧ C 45 b i 11 = Z 45 b i 11) (bn : ∀ i, i ≠ B → C 45 b i 14 = Z 45 b i 14) (bq : C 45 b B 14 = w3 (Z 45 b B 14 + 1)) : zDb b C := by
  refine ⟨fun i i0 i1 => ?_, fun x x0 x1 => ?_⟩
  · obtain ⟨g1, g2, g3, g4, g5⟩ := h.1 i i0 i1
    rw [c5, c6, (bo i).1, (bo i).2.1, (bo i).2.2.1, (bo i).2.2.2]
    simp only [r47]
    refine ⟨g1, g2, g3, g4, ?_⟩
    rw [zSi_s o0, zSi_e (g := fun o => if C 46 b o 0 = i then 1 else 0) (f := fun o => if Z 46 b o 0 = i then 1 else 0) (fun j j0 j1 => by simp only [on j (by omega)])]
    simp only [oq]
    by_cases e : i = B
    · rw [e] at g5 ⊢
      rw [bq, g5, w3_add]
      simp
    · rw [bn i e, g5]
      have e' : ¬ B = i := fun x => e x.symm
      simp [e']
  · rw [o8, c6]
    simp only [r47]
    exact h.2 x x0 x1
theorem db_order {Z : qz_Z} {a1 a2 a3 a4 a5 a6 : Int} (h : zDb 0 Z) (hI : zI none Z) (o0 : 0 ≤ Z 11 0 0 5) : zDb 0 (zx_220 Z a1 a2 a3 a4 a5 a6).1 := by
  have hd := zDb_dd (a1 := 11) (a2 := a1) (a3 := a2) (a4 := a3) (a5 := a4) (a6 := a5) (a7 := a6) h hI
  have c5 : zdd Z 11 a1 a2 a3 a4 a5 a6 11 0 0 5 = Z 11 0 0 5 := zdd_k hI rfl rfl
  unfold zx_220
  simp only [zlet]
  generalize zdd Z 11 a1 a2 a3 a4 a5 a6 = Zd at hd c5 ⊢
  repeat' split
  all_goals first
    | exact h
    | (refine zDb_o (B := a1) hd (by omega) ?_ ?_ (fun r n => ?_) ?_ (fun r => ?_) (fun q j => ?_) (fun i => ⟨?_, ?_, ?_, ?_⟩) (fun i n => ?_) ?_
       all_goals simp [zuq, *]
       all_goals exact fun e => absurd (e.trans c5.symm) n)
/-- a quarrel more -/
theorem zf_3_z {b a : Int} {Z : qz_Z} : ∀ (m : Nat) (x : Int), (zl_3_1 b a m Z 0 x).1 = 0
  | 0, _ => rfl
  | m + 1, x => by
    unfold zl_3_1
    have e0 : z2 (fun x y => x &&& y) 0 0 = 0 := z2and (.inl rfl) (.inl rfl)
    have e1 : z2 (fun x y => x &&& y) 0 1 = 0 := z2and (.inl rfl) (.inr rfl)
    split
    · rfl
    split
    · rw [e0]
      exact zf_3_z m _
    · rw [e1]
      exact zf_3_z m _
theorem zf_3_p {b a : Int} {Z : qz_Z} (h : zf_3 Z b a ≠ 0) : Z 47 b a 9 = 2 ∧ Z 11 b 0 10 < 12 := by
  unfold zf_3 at h
  by_cases c : Z 47 b a 9 ≠ 2
  · rw [if_pos c] at h
    exact absurd (zf_3_z 13 0) h
  rw [if_neg c] at h
  by_cases c2 : 48 < Z 11 b 0 13 - Z 47 b a 17
  · rw [if_pos c2] at h
    exact absurd (zf_3_z 13 0) h
  rw [if_neg c2] at h
  by_cases c3 : 12 ≤ Z 11 b 0 10
  · rw [if_pos c3] at h
    exact absurd (zf_3_z 13 0) h
  · exact ⟨Classical.not_not.mp c, by omega⟩
theorem zPb_qn {b : Int} {Z C : qz_Z} (h : zPb b Z) (hq : Z 11 b 0 10 < 12) (c10 : C 11 b 0 10 = Z 11 b 0 10 + 1) (c6 : C 11 b 0 6 = Z 11 b 0 6) (k : ∀ r, r ≠ Z 11 b 0 10 → C 54 b r 2 = Z 54 b r 2) (kq : C 54 b (Z 11 b 0 10) 2 = 0) (r : ∀ q j, C 47 b q j = Z 47 b q j) (b3 : ∀ i, C 45 b i 3 = Z 45 b i 3) : zPb b C := by
  have q0 := h.2.1.1
  have e : zPs b C = zPs b Z := by
    unfold zPs
    rw [c6, c10, zSi_s q0, zSi_e (g := fun k => if C 54 b k 2 = 0 then 0 else 1) (f := fun k => if Z 54 b k 2 = 0 then 0 else 1) (fun j _ j1 => by simp only [k j (by omega)])]
    simp only [r, kq]
    simp
  refine ⟨by rw [c6]; exact h.1, by rw [c10]; omega, fun q r0 r1 => ?_, fun i i0 i1 => ?_⟩
  · simp only [r]
    exact h.2.2.1 q r0 (by omega)
  · rw [e, b3]
    exact h.2.2.2 i i0 i1
theorem zKb_qn {b : Int} {Z C : qz_Z} (h : zKb (-1) b Z) (c : ∀ j, j ≠ 10 → C 11 b 0 j = Z 11 b 0 j) (c10 : C 11 b 0 10 = Z 11 b 0 10 + 1) (e : ∀ (k : Nat) i j, k = 41 ∨ k = 44 ∨ k = 47 → C k b i j = Z k b i j) (o : ∀ r, r ≠ Z 11 b 0 10 → C 54 b r 0 = Z 54 b r 0 ∧ C 54 b r 1 = Z 54 b r 1) (q : (0 ≤ C 54 b (Z 11 b 0 10) 1 ∧ C 54 b (Z 11 b 0 10) 1 ≤ 3) ∧ (0 ≤ C 54 b (Z 11 b 0 10) 0 ∧ C 54 b (Z 11 b 0 10) 0 < Z 11 b 0 6) ∧ Z 47 b (C 54 b (Z 11 b 0 10) 0) 9 = 2) : zKb (-1) b C := by
  obtain ⟨k1, k2, k3⟩ := h
  have e1 := fun i j => e 41 i j (.inl rfl)
  have e4 := fun i j => e 44 i j (.inr (.inl rfl))
  have e7 := fun i j => e 47 i j (.inr (.inr rfl))
  refine ⟨fun r r0 r1 r2 => ?_, ?_, fun i i0 i1 => ?_⟩
  · rw [c 6 (by decide)] at r1
    have g := k1 r r0 r1 r2
    simp only [zKo, zKa, zKw, zKl, zKc, e1, e4, e7, c 3 (by decide), c 13 (by decide)]
    exact g
  · simp only [zKr, e1, e4, e7, c 3 (by decide), c 13 (by decide), c 6 (by decide)]
    exact k2
  · rw [c10] at i1
    simp only [e7, c 6 (by decide)]
    by_cases x : i = Z 11 b 0 10
    · subst x
      exact ⟨q.1, q.2.1, by omega, q.2.2⟩
    · rw [(o i x).1, (o i x).2]
      exact k3 i i0 (by omega)
theorem kb_quarrel {Z : qz_Z} {a1 a2 : Int} (h : zK4 0 Z) (hI : zI none Z) : zK4 0 (zx_231 Z a1 a2).1 := by
  have hd := zK4_dd (a1 := 25) (a2 := a1) (a3 := a2) (a4 := 0) (a5 := 0) (a6 := 0) (a7 := 0) h hI
  have d10 : zdd Z 25 a1 a2 0 0 0 0 11 0 0 10 = Z 11 0 0 10 := zdd_k hI rfl rfl
  have d6 : zdd Z 25 a1 a2 0 0 0 0 11 0 0 6 = Z 11 0 0 6 := zdd_k hI rfl rfl
  have d9 : zdd Z 25 a1 a2 0 0 0 0 47 0 a1 9 = Z 47 0 a1 9 := zdd_k hI rfl rfl
  unfold zx_231
  simp only [zlet]
  generalize zdd Z 25 a1 a2 0 0 0 0 = Zd at hd d10 d6 d9 ⊢
  split
  · rename_i g1
    split
    · rename_i g2
      split
      · rename_i g3
        obtain ⟨s2, q12⟩ := zf_3_p g3
        rw [s2] at d9
        obtain ⟨hD, hP, hK⟩ := hd
        refine ⟨zDb_u (zDb_u (zDb_u (zDb_u (zDb_u hD rfl) rfl) rfl) rfl) rfl, ?_, ?_⟩
        · refine zPb_qn hP (by omega) ?_ ?_ (fun r n => ?_) ?_ (fun q j => ?_) (fun i => ?_)
          all_goals simp [zuq, *]
          all_goals exact fun e => absurd (e.trans d10.symm) n
        · refine zKb_qn hK (fun j n => ?_) ?_ (fun k i j e => ?_) (fun r n => ⟨?_, ?_⟩) ?_
          · simp [zuq, n]
          · simp [zuq]
          · rcases e with rfl | rfl | rfl
            all_goals simp [zuq]
          · simp [zuq, n]
          · simp [zuq, n]
          · simp [zuq, d9]
            omega
      · exact h
    · exact h
  · exact h
theorem pb_pay {Z : qz_Z} {a1 a2 : Int} (h : zPb 0 Z) (hI : zI none Z) (h4 : Z 11 0 0 4 ≤ 8) : zPb 0 (zx_228 Z a1 a2).1 := by
  have hd := zPb_dd (a1 := 13) (a2 := a1) (a3 := a2) (a4 := 0) (a5 := 0) (a6 := 0) (a7 := 0) h hI
  have d3 : zdd Z 13 a1 a2 0 0 0 0 45 0 a1 3 = Z 45 0 a1 3 := zdd_k hI rfl rfl
  unfold zx_228
  simp only [zlet, zlet2]
  generalize zdd Z 13 a1 a2 0 0 0 0 = Zd at hd d3 ⊢
  repeat' split
  all_goals first
    | exact h
    | exact zPb_pay hd (by omega) (by omega) (by omega) (by omega) (by omega)
theorem z43_set {Z : qz_Z} {a1 a2 r j : Int} (hI : zI none Z) (hr : Z 11 0 0 2 ≤ r) : (zx_240 Z a1 a2).1 43 0 r j = Z 43 0 r j := by
  have e : ∀ a b c d e f g, zdd Z a b c d e f g 43 0 r j = Z 43 0 r j := fun a b c d e f g => zdd_g hI rfl (by decide)
  unfold zx_240
  simp only [zlet]
  repeat' split
  all_goals first
    | rfl
    | exact (zu_ne rfl (fun q => by have := q.2.2.1; omega)).trans (e _ _ _ _ _ _ _)
theorem z43_gas {Z : qz_Z} {a1 a2 r j : Int} (hI : zI none Z) (hr : Z 11 0 0 2 ≤ r) : (zx_202 Z a1 a2).1 43 0 r j = Z 43 0 r j := by
  have e : ∀ a b c d e f g, zdd Z a b c d e f g 43 0 r j = Z 43 0 r j := fun a b c d e f g => zdd_g hI rfl (by decide)
  unfold zx_202
  simp only [zlet]
  repeat' split
  all_goals first
    | rfl
    | exact (zu_ne rfl (fun q => by have := q.2.2.1; omega)).trans (e _ _ _ _ _ _ _)
theorem z51_round {Z : qz_Z} {a1 a2 a3 r j : Int} (hI : zI none Z) (hr : Z 11 0 0 9 ≤ r) : (zx_237 Z a1 a2 a3).1 51 0 r j = Z 51 0 r j := by
  have e : ∀ a b c d e f g, zdd Z a b c d e f g 51 0 r j = Z 51 0 r j := fun a b c d e f g => zdd_g hI rfl (by decide)
  unfold zx_237
  simp only [zlet]
  repeat' split
  all_goals first
    | rfl
    | exact (zu_ne rfl (fun q => by have := q.2.2.1; omega)).trans ((zu_ne rfl (fun q => by have := q.2.2.1; omega)).trans (e _ _ _ _ _ _ _))
theorem z50_truck {Z : qz_Z} {a1 a2 : Int} (hI : zI none Z) : ((∀ t, (zx_251 Z a1 a2).1 50 0 t 8 = Z 50 0 t 8) ∧ (zx_251 Z a1 a2).1 11 0 0 8 = Z 11 0 0 8) ∨ ((zx_251 Z a1 a2).1 11 0 0 8 = Z 11 0 0 8 + 1 ∧ (zx_251 Z a1 a2).1 50 0 (Z 11 0 0 8) 8 = -1 ∧ ∀ t, t ≠ Z 11 0 0 8 → (zx_251 Z a1 a2).1 50 0 t 8 = Z 50 0 t 8) := by
  have e : ∀ t, zdd Z 19 a1 a2 0 0 0 0 50 0 t 8 = Z 50 0 t 8 := fun t => zdd_g hI rfl (by decide)
  have c : zdd Z 19 a1 a2 0 0 0 0 11 0 0 8 = Z 11 0 0 8 := zdd_k hI rfl rfl
  unfold zx_251
  simp only [zlet]
  generalize zdd Z 19 a1 a2 0 0 0 0 = Zd at e c ⊢
  repeat' split
  all_goals first
    | exact .inl ⟨fun _ => rfl, rfl⟩
    | (right
       refine ⟨?_, ?_, fun t n => ?_⟩
       all_goals simp [zuq, *])
theorem z11_clock {Z : qz_Z} {a1 a2 a3 a4 a5 : Int} (hI : zI none Z) : (zx_193 Z a1 a2 a3 a4 a5).1 11 0 0 7 = Z 11 0 0 7 ∨ (zx_193 Z a1 a2 a3 a4 a5).1 11 0 0 7 = Z 11 0 0 7 + 1 := by
  have c : zdd Z 14 a1 a2 a3 a4 a5 0 11 0 0 7 = Z 11 0 0 7 := zdd_k hI rfl rfl
  unfold zx_193
  simp only [zlet]
  generalize zdd Z 14 a1 a2 a3 a4 a5 0 = Zd at c ⊢
  repeat' split
  all_goals first
    | exact .inl rfl
    | (right
       simp [zuq, *])
theorem z11_room {Z : qz_Z} {a1 a2 a3 : Int} (hI : zI none Z) : (zx_236 Z a1 a2 a3).1 11 0 0 2 = Z 11 0 0 2 ∨ (zx_236 Z a1 a2 a3).1 11 0 0 2 = Z 11 0 0 2 + 1 := by
  have c : zdd Z 4 a1 a2 a3 0 0 0 11 0 0 2 = Z 11 0 0 2 := zdd_k hI rfl rfl
  unfold zx_236
  simp only [zlet]
  generalize zdd Z 4 a1 a2 a3 0 0 0 = Zd at c ⊢
  repeat' split
  all_goals first
    | exact .inl rfl
    | (right
       simp [zuq, *])
theorem z11_deliver {Z : qz_Z} {a1 a2 a3 a4 a5 : Int} (hI : zI none Z) : (zx_195 Z a1 a2 a3 a4 a5).1 11 0 0 3 = Z 11 0 0 3 ∨ (zx_195 Z a1 a2 a3 a4 a5).1 11 0 0 3 = Z 11 0 0 3 + 1 := by
  have c : zdd Z 2 a1 a2 a3 a4 a5 0 11 0 0 3 = Z 11 0 0 3 := zdd_k hI rfl rfl
  unfold zx_195
  simp only [zlet]
  generalize zdd Z 2 a1 a2 a3 a4 a5 0 = Zd at c ⊢
  repeat' split
  all_goals first
    | exact .inl rfl
    | (right
       simp [zuq, *])
/-- what a pallet is, where it comes into a row or goes out of it -/
theorem z4410_queue {Z : qz_Z} {a1 a2 a3 a4 p : Int} (hI : zI none Z) : (zx_233 Z a1 a2 a3 a4).1 44 0 p 10 = Z 44 0 p 10 ∨ ((zx_233 Z a1 a2 a3 a4).1 44 0 p 10 ≤ 1 ∧ Z 44 0 p 10 ≤ 1) := by
  have c : ∀ a b c d e f g, zdd Z a b c d e f g 44 0 p 10 = Z 44 0 p 10 := fun a b c d e f g => zdd_g hI rfl (by decide)
  refine z233_P (fun C => C 44 0 p 10 = Z 44 0 p 10 ∨ (C 44 0 p 10 ≤ 1 ∧ Z 44 0 p 10 ≤ 1)) (.inl rfl) (fun _ _ z i x y z w v => ?_)
  by_cases q : p = a2
  · right
    subst q
    simp [zuq]
    omega
  · left
    simp [zuq, q, c]
/-- a lot goes: the pallet is queued no more -/
theorem z76_O {P : qz_Z → Prop} {b : Int} (hu : ∀ Z k i j v, zbn k j = true → P Z → P (zu Z k b i j v)) {p : Int} (h10 : ∀ Z, P Z → P (zu Z 44 b p 10 0)) : ∀ {Z : qz_Z}, P Z → P (zf_76 Z b p).1 := by
  have h1 : ∀ (m : Nat) (Z : qz_Z) (x c : Int), P Z → (∀ r, zl_76_1 b p c m Z x = .inl r → P r.1) ∧ (∀ r, zl_76_1 b p c m Z x = .inr r → P r.1) := fun m => by
    induction m with
    | zero =>
      intro Z x c h
      refine ⟨fun r e => ?_, fun r e => ?_⟩
      · unfold zl_76_1 at e
        cases e
        exact h
      · unfold zl_76_1 at e
        cases e
    | succ m ih =>
      intro Z x c h
      unfold zl_76_1
      by_cases q1 : Z 48 b c 5 ≤ x
      · rw [if_pos q1]
        refine ⟨fun r e => ?_, fun r e => ?_⟩
        · cases e
          exact h
        · cases e
      rw [if_neg q1]
      by_cases q2 : Z 49 b (12 * c + x) 0 ≠ p
      · rw [if_pos q2]
        exact ih Z (x + 1) c h
      · rw [if_neg q2]
        refine ⟨fun r e => ?_, fun r e => ?_⟩
        · cases e
        · cases e
          exact z69_P hu (h10 _ h)
  have h3 : ∀ (m : Nat) (Z : qz_Z) (x : Int), P Z → (∀ r, zl_76_3 b p m Z x = .inl r → P r.1) ∧ (∀ r, zl_76_3 b p m Z x = .inr r → P r.1) := fun m => by
    induction m with
    | zero =>
      intro Z x h
      refine ⟨fun r e => ?_, fun r e => ?_⟩
      · unfold zl_76_3 at e
        cases e
        exact h
      · unfold zl_76_3 at e
        cases e
    | succ m ih =>
      intro Z x h
      unfold zl_76_3
      by_cases q1 : Z 11 b 0 7 ≤ x
      · rw [if_pos q1]
        refine ⟨fun r e => ?_, fun r e => ?_⟩
        · cases e
          exact h
        · cases e
      rw [if_neg q1]
      obtain ⟨g1, g2⟩ := h1 13 Z 0 x h
      cases q : zl_76_1 b p x 13 Z 0 with
      | inl r => exact ih _ _ (g1 r q)
      | inr r =>
        refine ⟨fun r' e => ?_, fun r' e => ?_⟩
        · cases e
        · cases e
          exact g2 r q
  intro Z h
  unfold zf_76
  obtain ⟨g1, g2⟩ := h3 3 Z 0 h
  cases q : zl_76_3 b p 3 Z 0 with
  | inl r => exact g1 r q
  | inr r => exact g2 r q
theorem z4410_withdraw {Z : qz_Z} {a1 p : Int} (hI : zI none Z) : (zx_254 Z a1).1 44 0 p 10 = Z 44 0 p 10 ∨ ((zx_254 Z a1).1 44 0 p 10 ≤ 1 ∧ Z 44 0 p 10 ≤ 1) := by
  have c : ∀ a b c d e f g, zdd Z a b c d e f g 44 0 p 10 = Z 44 0 p 10 := fun a b c d e f g => zdd_g hI rfl (by decide)
  unfold zx_254
  simp only [zlet, zlet2]
  repeat' split
  all_goals first
    | exact .inl rfl
    | (by_cases q : p = a1
       · right
         subst q
         rename_i g1 g2 g3
         have g4 : Z 44 0 p 10 = 1 := Classical.not_not.mp g3
         refine ⟨?_, by omega⟩
         refine z76_O (P := fun C => C 44 0 p 10 ≤ 1) (fun C kk ii jj v e h => ?_) (fun C h => ?_) ?_
         · rw [zu_ne rfl (fun q => by rw [← q.1] at e; cases e)]
           exact h
         · rw [zu_at rfl]
           decide
         · rw [c]
           omega
       · left
         refine (z76_P (P := fun C => C 44 0 p 10 = Z 44 0 p 10) (fun C kk ii jj v e h => (zu_ne rfl (fun q => by rw [← q.1] at e; cases e)).trans h) (fun C v h => (zu_ne rfl (fun x => q x.2.2.1)).trans h) (c _ _ _ _ _ _ _)))
theorem dw_way {Z Y : qz_Z} {dm : qz_Z → Int → Int → Int → Int → Int → Int → Int → qz_Z} {a1 a2 a3 : Int} (h : zDw 0 Z Y) (h5 : Z 40 0 5 5 = 0) (hI : zI none Z) (hd : zDf dm) : zDw 0 (zx_253 Z a1 a2 a3).1 (zy_543 Y dm a1 a2 a3).1 ∧ (zx_253 Z a1 a2 a3).1 40 0 5 5 = 0 := by
  have cz : ∀ a b c d e f g i j, zdd Z a b c d e f g 40 0 i j = Z 40 0 i j := fun a b c d e f g i j => zdd_g hI rfl (by decide)
  have cy : ∀ (X : qz_Z) (a b c d e f g j : Int), dm X a b c d e f g 2 0 0 j = X 2 0 0 j := fun X a b c d e f g j => hd X a b c d e f g 2 0 0 j ⟨by decide, by decide, by decide, fun q => absurd q.1 (by decide)⟩
  by_cases c : (0 ≤ a1 ∧ a1 < 6) ∧ (0 ≤ a2 ∧ a2 < 6) ∧ a1 ≠ a2 ∧ (1 ≤ a3 ∧ a3 ≤ 12)
  · obtain ⟨c1, c2, c3, c4⟩ := c
    unfold zx_253 zy_543
    simp only [zlet]
    rw [if_pos c1, if_pos c2, if_pos c3, if_pos c4, if_neg (by omega), if_neg (by omega), if_neg (by omega), if_neg (by omega), if_neg c3, if_neg (by omega), if_neg (by omega)]
    refine ⟨fun i j i0 i1 j0 j1 ne => ?_, ?_⟩
    · show zu (zu (zdd Z 17 a1 a2 a3 0 0 0) 40 0 a1 a2 a3) 40 0 a2 a1 a3 40 0 i j = zu (zu (dm (zu (zu Y 1 0 0 2 0) 1 0 0 2 0) 18 a1 a2 a3 0 0 0) 2 0 0 (3210 + 6 * a1 + a2) a3) 2 0 0 (3210 + 6 * a2 + a1) a3 2 0 0 (3210 + 6 * i + j)
      by_cases q1 : i = a2 ∧ j = a1
      · rw [q1.1, q1.2, zu_at rfl, zua]
      rw [zu_ne rfl (fun q => q1 ⟨q.2.2.1, q.2.2.2⟩), zun (by omega)]
      by_cases q2 : i = a1 ∧ j = a2
      · rw [q2.1, q2.2, zu_at rfl, zua]
      rw [zu_ne rfl (fun q => q2 ⟨q.2.2.1, q.2.2.2⟩), zun (by omega), cz, cy, zu_ne rfl (fun q => absurd q.1 (by decide)), zu_ne rfl (fun q => absurd q.1 (by decide))]
      exact h i j i0 i1 j0 j1 ne
    · show zu (zu (zdd Z 17 a1 a2 a3 0 0 0) 40 0 a1 a2 a3) 40 0 a2 a1 a3 40 0 5 5 = 0
      rw [zu_ne rfl (fun q => by have := q.2.2; omega), zu_ne rfl (fun q => by have := q.2.2; omega), cz]
      exact h5
  · have e1 : (zx_253 Z a1 a2 a3).1 = Z := by
      unfold zx_253
      simp only [zlet]
      repeat' split
      all_goals first
        | rfl
        | (exfalso
           omega)
    have e2 : ∀ j, (zy_543 Y dm a1 a2 a3).1 2 0 0 j = Y 2 0 0 j := fun j => by
      unfold zy_543
      simp only [zlet]
      repeat' split
      all_goals first
        | exact zu_ne rfl (fun q => absurd q.1 (by decide))
        | (dsimp only
           rw [zu_ne rfl (fun q => absurd q.1 (by decide)), zu_ne rfl (fun q => absurd q.1 (by decide))])
        | (exfalso
           omega)
    rw [e1]
    exact ⟨fun i j i0 i1 j0 j1 ne => by rw [e2]; exact h i j i0 i1 j0 j1 ne, h5⟩

theorem zN1_10 {K : List Nat} {Z Y C M : qz_Z} (h : zN1 Y) (hRa : zR 0 Z Y) (hRc : zR 0 C M) (g : yFa K Y M) (e : K.contains 4412 = false ∧ K.contains 4404 = false ∧ K.contains 1103 = false) (hz : ∀ p, C 44 0 p 10 = Z 44 0 p 10 ∨ (C 44 0 p 10 ≤ 1 ∧ Z 44 0 p 10 ≤ 1)) : zN1 M := fun p p0 p1 => by
  have hp := hz p
  rw [zRl_44_10 (x := p) (a := 210 + 20 * p) hRc p0 p1 rfl, zRl_44_10 (x := p) (a := 210 + 20 * p) hRa p0 p1 rfl] at hp
  rw [yFr_at 4412 g e.1 (zcm_s (ac_44_12 p0 p1 rfl)), yFr_at 4404 g e.2.1 (zcm_s (ac_44_4 p0 p1 rfl)), yFr_at 1103 g e.2.2 (zcm_s (ac_11_3 rfl))]
  obtain ⟨h1, h2⟩ := h p p0 p1
  exact ⟨fun q => h1 (by omega), fun q1 q2 => h2 q1 (by omega)⟩
theorem zN8_2 {K : List Nat} {Z Y C M : qz_Z} (h : zN8 Y) (hRa : zR 0 Z Y) (hRc : zR 0 C M) (g : yFa K Y M) (e : K.contains 4412 = false ∧ K.contains 1103 = false) (hz : C 11 0 0 2 = Z 11 0 0 2 ∨ C 11 0 0 2 = Z 11 0 0 2 + 1) : zN8 M := fun p p0 p1 p2 => by
  rw [zRl_11_2 (a := 1200) hRc rfl, zRl_11_2 (a := 1200) hRa rfl] at hz
  rw [yFr_at 1103 g e.2 (zcm_s (ac_11_3 rfl))] at p2
  rw [yFr_at 4412 g e.1 (zcm_s (ac_44_12 p0 p1 rfl))]
  have := h p p0 p1 p2
  omega
theorem zN9_3 {K : List Nat} {Z Y C M : qz_Z} (h : zN9 Y) (hRa : zR 0 Z Y) (hRc : zR 0 C M) (g : yFa K Y M) (e : K.contains 4700 = false ∧ K.contains 1106 = false) (hz : C 11 0 0 3 = Z 11 0 0 3 ∨ C 11 0 0 3 = Z 11 0 0 3 + 1) : zN9 M := fun q q0 q1 q2 => by
  rw [zRl_11_3 (a := 102) hRc rfl, zRl_11_3 (a := 102) hRa rfl] at hz
  rw [yFr_at 1106 g e.2 (zcm_s (ac_11_6 rfl))] at q2
  rw [yFr_at 4700 g e.1 (zcm_s (ac_47_0 q0 q1 rfl))]
  have := h q q0 q1 q2
  omega
/-- a clock more has no lots -/
theorem zNL_7 {K : List Nat} {s : zSM} {Z Y C M : qz_Z} (h : zNL Y) (hZ : zM s Y) (hV : zV Y) (hRa : zR 0 Z Y) (hRc : zR 0 C M) (g : yFa K Y M) (e : K.contains 4410 = false ∧ K.contains 4404 = false ∧ K.contains 4805 = false ∧ K.contains 10050 = false) (hz : C 11 0 0 7 = Z 11 0 0 7 ∨ C 11 0 0 7 = Z 11 0 0 7 + 1) : zNL M := by
  rw [zRl_11_7 (a := 3000) hRc rfl, zRl_11_7 (a := 3000) hRa rfl] at hz
  have a3 : ∀ c t : Int, 0 ≤ c → c < 2 → 0 ≤ t → t < Y 2 0 0 (3015 + 60 * c) → c < M 2 0 0 3000 → c < Y 2 0 0 3000 := fun c t h0 h1 t0 h2 h3 => by
    by_cases q : c < Y 2 0 0 3000
    · exact q
    · have := zM_nl hZ c h0 (by omega) (by omega)
      omega
  have al : ∀ c : Int, 0 ≤ c → c < 2 → M 2 0 0 (3015 + 60 * c) = Y 2 0 0 (3015 + 60 * c) := fun c h0 h1 => yFr_at 4805 g e.2.2.1 (zcm_s (ac_48_5 h0 h1 rfl))
  have at' : ∀ c p : Int, 0 ≤ c → c < 2 → 0 ≤ p → p < 12 → M 2 0 0 (3022 + 60 * c + 3 * p) = Y 2 0 0 (3022 + 60 * c + 3 * p) := fun c p h0 h1 h2 h3 => yFr_at 10050 g e.2.2.2 (zcm_lot0 h0 h1 h2 h3 rfl)
  have as : ∀ q : Int, 0 ≤ q → q < 48 → M 2 0 0 (210 + 20 * q) = Y 2 0 0 (210 + 20 * q) := fun q h0 h1 => yFr_at 4410 g e.1 (zcm_s (ac_44_10 h0 h1 rfl))
  have ac : ∀ q : Int, 0 ≤ q → q < 48 → M 2 0 0 (204 + 20 * q) = Y 2 0 0 (204 + 20 * q) := fun q h0 h1 => yFr_at 4404 g e.2.1 (zcm_s (ac_44_4 h0 h1 rfl))
  have rl : ∀ c p : Int, 0 ≤ c → c < 2 → 0 ≤ p → p < 12 → 0 ≤ Y 2 0 0 (3022 + 60 * c + 3 * p) ∧ Y 2 0 0 (3022 + 60 * c + 3 * p) ≤ 47 := fun c p h0 h1 h2 h3 => zVr_lot hV h0 h1 h2 h3 rfl
  refine ⟨fun c p c' p' h0 h1 g0 g1 h2 h3 g2 g3 h4 g4 h5 g5 h6 => ?_, fun c p h0 h1 h2 h3 h4 h5 => ?_, fun q h0 h1 h2 => ?_⟩
  · rw [al _ h0 h1] at h5
    rw [al _ g0 g1] at g5
    rw [at' c p h0 h1 h2 h3, at' c' p' g0 g1 g2 g3] at h6
    exact h.1 c p c' p' h0 h1 g0 g1 h2 h3 g2 g3 (a3 c p h0 h1 h2 h5 h4) (a3 c' p' g0 g1 g2 g5 g4) h5 g5 h6
  · rw [al _ h0 h1] at h5
    have r := rl c p h0 h1 h2 h3
    rw [at' c p h0 h1 h2 h3, as _ r.1 (by omega), ac _ r.1 (by omega)]
    exact h.2.1 c p h0 h1 h2 h3 (a3 c p h0 h1 h2 h5 h4) h5
  · rw [as q h0 h1] at h2
    obtain ⟨c, t, i0, i1, i2, i3, i4, i5, i6⟩ := h.2.2 q h0 h1 h2
    exact ⟨c, t, i0, i1, by omega, i3, i4, by rw [al _ i0 i1]; exact i5, by rw [at' c t i0 i1 i3 i4]; exact i6⟩
/-- a truck more is not out -/
theorem zDt_8 {Z Y C M : qz_Z} (h : zDt 0 Z Y) (hN : zNt Y) (hRa : zR 0 Z Y) (hRc : zR 0 C M) (f : zFa [1115, 1116, 1108, 5000, 5001, 5003, 5007, 5008] 0 Z C) (g : yFa [1108, 5000, 5001, 5003, 5007, 99999] Y M) (hz : ((∀ t, C 50 0 t 8 = Z 50 0 t 8) ∧ C 11 0 0 8 = Z 11 0 0 8) ∨ (C 11 0 0 8 = Z 11 0 0 8 + 1 ∧ C 50 0 (Z 11 0 0 8) 8 = -1 ∧ ∀ t, t ≠ Z 11 0 0 8 → C 50 0 t 8 = Z 50 0 t 8)) : zDt 0 C M := by
  intro t t0 t1 t2
  rw [zRl_11_8 (a := 3200) hRc rfl, zRl_11_8 (a := 3200) hRa rfl] at hz
  rw [yFr_at 5002 g rfl (zcm_s (ac_50_2 t0 t1 rfl)), yFr_at 10014 g rfl (zcm_home t0 t1 rfl), yFr_at 10003 g rfl (zcm_towns t0 t1 rfl)]
  by_cases c : t < Y 2 0 0 3200
  · have e8 : C 50 0 t 8 = Z 50 0 t 8 := by
      rcases hz with hz | hz
      · exact hz.1 t
      · exact hz.2.2 t (by omega)
    rw [e8]
    obtain ⟨h1, h2⟩ := h t t0 t1 c
    refine ⟨fun o => ?_, h2⟩
    obtain ⟨a1, a2, a3⟩ := h1 o
    refine ⟨a1, a2, fun k k0 k1 => ?_⟩
    have ck : k = 0 ∨ k = 1 ∨ k = 2 ∨ k = 3 ∨ k = 4 := by omega
    have a := a3 k k0 k1
    rcases ck with rfl | rfl | rfl | rfl | rfl
    · rw [zFc_at (j := 12 + 0) 5012 f rfl rfl rfl, zFc_at (j := 17 + 0) 5017 f rfl rfl rfl, yFr_at 10004 g rfl (zcm_town0 t0 t1 (by omega)), yFr_at 10009 g rfl (zcm_due0 t0 t1 (by omega))]
      exact a
    · rw [zFc_at (j := 12 + 1) 5013 f rfl rfl rfl, zFc_at (j := 17 + 1) 5018 f rfl rfl rfl, yFr_at 10005 g rfl (zcm_town1 t0 t1 (by omega)), yFr_at 10010 g rfl (zcm_due1 t0 t1 (by omega))]
      exact a
    · rw [zFc_at (j := 12 + 2) 5014 f rfl rfl rfl, zFc_at (j := 17 + 2) 5019 f rfl rfl rfl, yFr_at 10006 g rfl (zcm_town2 t0 t1 (by omega)), yFr_at 10011 g rfl (zcm_due2 t0 t1 (by omega))]
      exact a
    · rw [zFc_at (j := 12 + 3) 5015 f rfl rfl rfl, zFc_at (j := 17 + 3) 5020 f rfl rfl rfl, yFr_at 10007 g rfl (zcm_town3 t0 t1 (by omega)), yFr_at 10012 g rfl (zcm_due3 t0 t1 (by omega))]
      exact a
    · rw [zFc_at (j := 12 + 4) 5016 f rfl rfl rfl, zFc_at (j := 17 + 4) 5021 f rfl rfl rfl, yFr_at 10008 g rfl (zcm_town4 t0 t1 (by omega)), yFr_at 10013 g rfl (zcm_due4 t0 t1 (by omega))]
      exact a
  · have n := hN t (by omega) t1
    refine ⟨fun o => absurd o (by rw [n]; decide), fun _ => ?_⟩
    rcases hz with hz | hz
    · exact absurd t2 (by omega)
    · rw [show t = Y 2 0 0 3200 by omega]
      exact hz.2.1
theorem zNt_8 {K : List Nat} {Z Y C M : qz_Z} (hN : zNt Y) (hRa : zR 0 Z Y) (hRc : zR 0 C M) (g : yFa K Y M) (hV : zV Y) (e : K.contains 5002 = false) (hz : C 11 0 0 8 = Z 11 0 0 8 ∨ C 11 0 0 8 = Z 11 0 0 8 + 1) : zNt M := fun t h0 h1 => by
  rw [zRl_11_8 (a := 3200) hRc rfl, zRl_11_8 (a := 3200) hRa rfl] at hz
  have v := zVr_11_8 (a := 3200) hV rfl
  rw [yFr_at 5002 g e (zcm_s (ac_50_2 (by omega) h1 rfl))]
  exact hN t (by omega) h1
/-! the faces -/
theorem rg_sort {s : zSM} {Z Y : qz_Z} {dm : qz_Z → Int → Int → Int → Int → Int → Int → Int → qz_Z} {a1 a2 a3 a4 a5 : Int}  (h : zAl 0 Z Y) (hZ : zM s Y) (hI : zI none Z) (hd : zDf dm) {C : qz_Z × Int × Int} {M : qz_Z × Int} (hC : zE C (zx_243 Z a1 a2 a3 a4 a5)) (hM : zE M (zy_503 Y dm a1 a2 a3 a4 a5)) : zAl 0 C.1 M.1 ∧ zDd [1100, 4100, 4101, 4102, 4103, 4104] [1100, 4100, 4101, 4102, 4103, 4104, 99999] Z Y dm C.1 M.1 ∧ zThr [(13, 1), (15, 2)] C.2 (M.1 1 0 0 2) M.2 := by
  obtain ⟨r1, r2, d, t⟩ := rf_sort (dm := dm) (zS_R h) (zS_V h) hI hd hC hM
  have fg := zDd_fr d hI hd rfl
  have f : zFa (1115 :: 1116 :: [1100, 4100, 4101, 4102, 4103, 4104]) 0 Z C.1 ∧ True := ⟨fg.1, trivial⟩
  have g : yFa [1100, 4100, 4101, 4102, 4103, 4104, 99999] Y M.1 ∧ True := ⟨fg.2, trivial⟩
  have eC : C = zx_243 Z a1 a2 a3 a4 a5 := hC
  have eM : M = zy_503 Y dm a1 a2 a3 a4 a5 := hM
  subst eC eM
  exact ⟨⟨r1, r2, zD1_f (zS_D1 h) f.1 g.1 ⟨rfl, rfl, rfl⟩, zD4_f (zS_D4 h) f.1 g.1 ⟨⟨rfl, rfl⟩, rfl, rfl, rfl⟩, zN1_f (zS_N1 h) g.1 ⟨rfl, rfl, rfl, rfl⟩, zN4_f (zS_N4 h) g.1 ⟨rfl, rfl, rfl⟩, zN8_f (zS_N8 h) g.1 ⟨rfl, rfl, rfl⟩, zN9_f (zS_N9 h) g.1 ⟨rfl, rfl, rfl⟩, zNL_f (zS_NL h) (zS_V h) g.1 ⟨rfl, rfl, rfl, rfl, rfl⟩, zDl_f (zS_Dl h) f.1 g.1 ⟨rfl, rfl, rfl, rfl, rfl⟩, zDs_f (zS_Ds h) f.1 g.1 ⟨rfl, rfl⟩, zDw_f (zS_Dw h) f.1 g.1 ⟨rfl, rfl⟩, (zFc_at 4000 f.1 rfl rfl rfl).trans (zS_Dg h), zDt_f (zS_Dt h) f.1 g.1 rfl rfl, zFn_f (zS_Fn h) f.1 g.1 ⟨rfl, rfl, rfl, rfl⟩, zNp_f (zS_Np h) (zS_V h) g.1 ⟨rfl, rfl⟩, zNr_f (zS_Nr h) (zS_V h) g.1 ⟨rfl, rfl, rfl⟩, zNi_f (zS_Ni h) (zS_V h) g.1 ⟨rfl, rfl⟩, zNq_f (zS_Nq h) (zS_V h) g.1 ⟨rfl, rfl⟩, zNk_f (zS_Nk h) g.1 rfl, zNt_f (zS_Nt h) (zS_V h) g.1 ⟨rfl, rfl⟩, zDb_f (zS_Db h) f.1 (by decide), zPb_f (zS_Pb h) f.1 (by decide), kb_sort (zS_Kb h) hI⟩, d, t⟩
theorem rg_grower {s : zSM} {Z Y : qz_Z} {dm : qz_Z → Int → Int → Int → Int → Int → Int → Int → qz_Z} {a1 a2 : Int}  (h : zAl 0 Z Y) (hZ : zM s Y) (hI : zI none Z) (hd : zDf dm) {C : qz_Z × Int × Int} {M : qz_Z × Int} (hC : zE C (zx_204 Z a1 a2)) (hM : zE M (zy_347 Y dm a1 a2)) : zAl 0 C.1 M.1 ∧ zDd [1101, 4200, 4201] [1101, 4200, 4201, 99999] Z Y dm C.1 M.1 ∧ zThr [(13, 1), (15, 2)] C.2 (M.1 1 0 0 2) M.2 := by
  obtain ⟨r1, r2, d, t⟩ := rf_grower (dm := dm) (zS_R h) (zS_V h) hI hd hC hM
  have fg := zDd_fr d hI hd rfl
  have f : zFa (1115 :: 1116 :: [1101, 4200, 4201]) 0 Z C.1 ∧ True := ⟨fg.1, trivial⟩
  have g : yFa [1101, 4200, 4201, 99999] Y M.1 ∧ True := ⟨fg.2, trivial⟩
  exact ⟨⟨r1, r2, zD1_f (zS_D1 h) f.1 g.1 ⟨rfl, rfl, rfl⟩, zD4_f (zS_D4 h) f.1 g.1 ⟨⟨rfl, rfl⟩, rfl, rfl, rfl⟩, zN1_f (zS_N1 h) g.1 ⟨rfl, rfl, rfl, rfl⟩, zN4_f (zS_N4 h) g.1 ⟨rfl, rfl, rfl⟩, zN8_f (zS_N8 h) g.1 ⟨rfl, rfl, rfl⟩, zN9_f (zS_N9 h) g.1 ⟨rfl, rfl, rfl⟩, zNL_f (zS_NL h) (zS_V h) g.1 ⟨rfl, rfl, rfl, rfl, rfl⟩, zDl_f (zS_Dl h) f.1 g.1 ⟨rfl, rfl, rfl, rfl, rfl⟩, zDs_f (zS_Ds h) f.1 g.1 ⟨rfl, rfl⟩, zDw_f (zS_Dw h) f.1 g.1 ⟨rfl, rfl⟩, (zFc_at 4000 f.1 rfl rfl rfl).trans (zS_Dg h), zDt_f (zS_Dt h) f.1 g.1 rfl rfl, zFn_f (zS_Fn h) f.1 g.1 ⟨rfl, rfl, rfl, rfl⟩, zNp_f (zS_Np h) (zS_V h) g.1 ⟨rfl, rfl⟩, zNr_f (zS_Nr h) (zS_V h) g.1 ⟨rfl, rfl, rfl⟩, zNi_f (zS_Ni h) (zS_V h) g.1 ⟨rfl, rfl⟩, zNq_f (zS_Nq h) (zS_V h) g.1 ⟨rfl, rfl⟩, zNk_f (zS_Nk h) g.1 rfl, zNt_f (zS_Nt h) (zS_V h) g.1 ⟨rfl, rfl⟩, zDb_f (zS_Db h) f.1 (by decide), zPb_f (zS_Pb h) f.1 (by decide), zKb_f (zS_Kb h) f.1 (by decide)⟩, d, t⟩
theorem rg_buyer {s : zSM} {Z Y : qz_Z} {dm : qz_Z → Int → Int → Int → Int → Int → Int → Int → qz_Z} {a1 a2 a3 : Int}  (h : zAl 0 Z Y) (hZ : zM s Y) (hI : zI none Z) (hd : zDf dm) {C : qz_Z × Int × Int} {M : qz_Z × Int} (hC : zE C (zx_191 Z a1 a2 a3)) (hM : zE M (zy_295 Y dm a1 a2 a3)) : zAl 0 C.1 M.1 ∧ zDd [1104, 4500, 4501, 4502] [1104, 4500, 4501, 4502, 99999] Z Y dm C.1 M.1 ∧ zThr [(24, 1), (13, 2), (15, 3)] C.2 (M.1 1 0 0 2) M.2 := by
  obtain ⟨r1, r2, d, t⟩ := rf_buyer (dm := dm) (zS_R h) (zS_V h) hI hd hC hM
  have fg := zDd_fr d hI hd rfl
  have f : zFa (1115 :: 1116 :: [1104, 4500, 4501, 4502]) 0 Z C.1 ∧ True := ⟨fg.1, trivial⟩
  have g : yFa [1104, 4500, 4501, 4502, 99999] Y M.1 ∧ True := ⟨fg.2, trivial⟩
  exact ⟨⟨r1, r2, zD1_f (zS_D1 h) f.1 g.1 ⟨rfl, rfl, rfl⟩, zD4_f (zS_D4 h) f.1 g.1 ⟨⟨rfl, rfl⟩, rfl, rfl, rfl⟩, zN1_f (zS_N1 h) g.1 ⟨rfl, rfl, rfl, rfl⟩, zN4_f (zS_N4 h) g.1 ⟨rfl, rfl, rfl⟩, zN8_f (zS_N8 h) g.1 ⟨rfl, rfl, rfl⟩, zN9_f (zS_N9 h) g.1 ⟨rfl, rfl, rfl⟩, zNL_f (zS_NL h) (zS_V h) g.1 ⟨rfl, rfl, rfl, rfl, rfl⟩, zDl_f (zS_Dl h) f.1 g.1 ⟨rfl, rfl, rfl, rfl, rfl⟩, zDs_f (zS_Ds h) f.1 g.1 ⟨rfl, rfl⟩, zDw_f (zS_Dw h) f.1 g.1 ⟨rfl, rfl⟩, (zFc_at 4000 f.1 rfl rfl rfl).trans (zS_Dg h), zDt_f (zS_Dt h) f.1 g.1 rfl rfl, zFn_f (zS_Fn h) f.1 g.1 ⟨rfl, rfl, rfl, rfl⟩, zNp_f (zS_Np h) (zS_V h) g.1 ⟨rfl, rfl⟩, zNr_f (zS_Nr h) (zS_V h) g.1 ⟨rfl, rfl, rfl⟩, zNi_f (zS_Ni h) (zS_V h) g.1 ⟨rfl, rfl⟩, zNq_f (zS_Nq h) (zS_V h) g.1 ⟨rfl, rfl⟩, zNk_f (zS_Nk h) g.1 rfl, zNt_f (zS_Nt h) (zS_V h) g.1 ⟨rfl, rfl⟩, zDb_f (zS_Db h) f.1 (by decide), zPb_f (zS_Pb h) f.1 (by decide), zKb_f (zS_Kb h) f.1 (by decide)⟩, d, t⟩
theorem rg_cancel {s : zSM} {Z Y : qz_Z} {dm : qz_Z → Int → Int → Int → Int → Int → Int → Int → qz_Z} {a1 : Int}  (h : zAl 0 Z Y) (hZ : zM s Y) (hI : zI none Z) (hd : zDf dm) {C : qz_Z × Int × Int} {M : qz_Z × Int} (hC : zE C (zx_192 Z a1)) (hM : zE M (zy_315 Y dm a1)) : zAl 0 C.1 M.1 ∧ zDd [4606, 4607] [4606, 4607, 99999] Z Y dm C.1 M.1 ∧ zThr [(24, 1), (15, 2)] C.2 (M.1 1 0 0 2) M.2 := by
  obtain ⟨r1, r2, d, t⟩ := rf_cancel (dm := dm) (zS_R h) (zS_V h) hI hd hC hM
  have fg := zDd_fr d hI hd rfl
  have f : zFa (1115 :: 1116 :: [4606, 4607]) 0 Z C.1 ∧ True := ⟨fg.1, trivial⟩
  have g : yFa [4606, 4607, 99999] Y M.1 ∧ True := ⟨fg.2, trivial⟩
  exact ⟨⟨r1, r2, zD1_f (zS_D1 h) f.1 g.1 ⟨rfl, rfl, rfl⟩, zD4_f (zS_D4 h) f.1 g.1 ⟨⟨rfl, rfl⟩, rfl, rfl, rfl⟩, zN1_f (zS_N1 h) g.1 ⟨rfl, rfl, rfl, rfl⟩, zN4_f (zS_N4 h) g.1 ⟨rfl, rfl, rfl⟩, zN8_f (zS_N8 h) g.1 ⟨rfl, rfl, rfl⟩, zN9_f (zS_N9 h) g.1 ⟨rfl, rfl, rfl⟩, zNL_f (zS_NL h) (zS_V h) g.1 ⟨rfl, rfl, rfl, rfl, rfl⟩, zDl_f (zS_Dl h) f.1 g.1 ⟨rfl, rfl, rfl, rfl, rfl⟩, zDs_f (zS_Ds h) f.1 g.1 ⟨rfl, rfl⟩, zDw_f (zS_Dw h) f.1 g.1 ⟨rfl, rfl⟩, (zFc_at 4000 f.1 rfl rfl rfl).trans (zS_Dg h), zDt_f (zS_Dt h) f.1 g.1 rfl rfl, zFn_f (zS_Fn h) f.1 g.1 ⟨rfl, rfl, rfl, rfl⟩, zNp_f (zS_Np h) (zS_V h) g.1 ⟨rfl, rfl⟩, zNr_f (zS_Nr h) (zS_V h) g.1 ⟨rfl, rfl, rfl⟩, zNi_f (zS_Ni h) (zS_V h) g.1 ⟨rfl, rfl⟩, zNq_f (zS_Nq h) (zS_V h) g.1 ⟨rfl, rfl⟩, zNk_f (zS_Nk h) g.1 rfl, zNt_f (zS_Nt h) (zS_V h) g.1 ⟨rfl, rfl⟩, zDb_f (zS_Db h) f.1 (by decide), zPb_f (zS_Pb h) f.1 (by decide), zKb_f (zS_Kb h) f.1 (by decide)⟩, d, t⟩
theorem rg_truck {s : zSM} {Z Y : qz_Z} {dm : qz_Z → Int → Int → Int → Int → Int → Int → Int → qz_Z} {a1 a2 : Int}  (h : zAl 0 Z Y) (hZ : zM s Y) (hI : zI none Z) (hd : zDf dm) {C : qz_Z × Int × Int} {M : qz_Z × Int} (hC : zE C (zx_251 Z a1 a2)) (hM : zE M (zy_539 Y dm a1 a2)) : zAl 0 C.1 M.1 ∧ zDd [1108, 5000, 5001, 5003, 5007, 5008] [1108, 5000, 5001, 5003, 5007, 99999] Z Y dm C.1 M.1 ∧ zThr [(13, 1), (15, 2)] C.2 (M.1 1 0 0 2) M.2 := by
  obtain ⟨r1, r2, d, t⟩ := rf_truck (dm := dm) (zS_R h) (zS_V h) hI hd hC hM
  have fg := zDd_fr d hI hd rfl
  have f : zFa (1115 :: 1116 :: [1108, 5000, 5001, 5003, 5007, 5008]) 0 Z C.1 ∧ True := ⟨fg.1, trivial⟩
  have g : yFa [1108, 5000, 5001, 5003, 5007, 99999] Y M.1 ∧ True := ⟨fg.2, trivial⟩
  have eC : C = zx_251 Z a1 a2 := hC
  have eM : M = zy_539 Y dm a1 a2 := hM
  subst eC eM
  exact ⟨⟨r1, r2, zD1_f (zS_D1 h) f.1 g.1 ⟨rfl, rfl, rfl⟩, zD4_f (zS_D4 h) f.1 g.1 ⟨⟨rfl, rfl⟩, rfl, rfl, rfl⟩, zN1_f (zS_N1 h) g.1 ⟨rfl, rfl, rfl, rfl⟩, zN4_f (zS_N4 h) g.1 ⟨rfl, rfl, rfl⟩, zN8_f (zS_N8 h) g.1 ⟨rfl, rfl, rfl⟩, zN9_f (zS_N9 h) g.1 ⟨rfl, rfl, rfl⟩, zNL_f (zS_NL h) (zS_V h) g.1 ⟨rfl, rfl, rfl, rfl, rfl⟩, zDl_f (zS_Dl h) f.1 g.1 ⟨rfl, rfl, rfl, rfl, rfl⟩, zDs_f (zS_Ds h) f.1 g.1 ⟨rfl, rfl⟩, zDw_f (zS_Dw h) f.1 g.1 ⟨rfl, rfl⟩, (zFc_at 4000 f.1 rfl rfl rfl).trans (zS_Dg h), zDt_8 (zS_Dt h) (zS_Nt h) (zS_R h) r1 f.1 g.1 (z50_truck hI), zFn_f (zS_Fn h) f.1 g.1 ⟨rfl, rfl, rfl, rfl⟩, zNp_f (zS_Np h) (zS_V h) g.1 ⟨rfl, rfl⟩, zNr_f (zS_Nr h) (zS_V h) g.1 ⟨rfl, rfl, rfl⟩, zNi_f (zS_Ni h) (zS_V h) g.1 ⟨rfl, rfl⟩, zNq_f (zS_Nq h) (zS_V h) g.1 ⟨rfl, rfl⟩, zNk_f (zS_Nk h) g.1 rfl, zNt_8 (zS_Nt h) (zS_R h) r1 g.1 (zS_V h) rfl (by rcases z50_truck (a1 := a1) (a2 := a2) hI with q | q; exact .inl q.2; exact .inr q.1), zDb_f (zS_Db h) f.1 (by decide), zPb_f (zS_Pb h) f.1 (by decide), zKb_f (zS_Kb h) f.1 (by decide)⟩, d, t⟩
theorem rg_tariff {s : zSM} {Z Y : qz_Z} {dm : qz_Z → Int → Int → Int → Int → Int → Int → Int → qz_Z} {a1 a2 : Int}  (h : zAl 0 Z Y) (hZ : zM s Y) (hI : zI none Z) (hd : zDf dm) {C : qz_Z × Int × Int} {M : qz_Z × Int} (hC : zE C (zx_247 Z a1 a2)) (hM : zE M (zy_534 Y dm a1 a2)) : zAl 0 C.1 M.1 ∧ zDd [1300] [1300, 99999] Z Y dm C.1 M.1 ∧ zThr [(13, 1)] C.2 (M.1 1 0 0 2) M.2 := by
  obtain ⟨r1, r2, d, t⟩ := rf_tariff (dm := dm) (zS_R h) (zS_V h) hI hd hC hM
  have fg := zDd_fr d hI hd rfl
  have f : zFa (1115 :: 1116 :: [1300]) 0 Z C.1 ∧ True := ⟨fg.1, trivial⟩
  have g : yFa [1300, 99999] Y M.1 ∧ True := ⟨fg.2, trivial⟩
  exact ⟨⟨r1, r2, zD1_f (zS_D1 h) f.1 g.1 ⟨rfl, rfl, rfl⟩, zD4_f (zS_D4 h) f.1 g.1 ⟨⟨rfl, rfl⟩, rfl, rfl, rfl⟩, zN1_f (zS_N1 h) g.1 ⟨rfl, rfl, rfl, rfl⟩, zN4_f (zS_N4 h) g.1 ⟨rfl, rfl, rfl⟩, zN8_f (zS_N8 h) g.1 ⟨rfl, rfl, rfl⟩, zN9_f (zS_N9 h) g.1 ⟨rfl, rfl, rfl⟩, zNL_f (zS_NL h) (zS_V h) g.1 ⟨rfl, rfl, rfl, rfl, rfl⟩, zDl_f (zS_Dl h) f.1 g.1 ⟨rfl, rfl, rfl, rfl, rfl⟩, zDs_f (zS_Ds h) f.1 g.1 ⟨rfl, rfl⟩, zDw_f (zS_Dw h) f.1 g.1 ⟨rfl, rfl⟩, (zFc_at 4000 f.1 rfl rfl rfl).trans (zS_Dg h), zDt_f (zS_Dt h) f.1 g.1 rfl rfl, zFn_f (zS_Fn h) f.1 g.1 ⟨rfl, rfl, rfl, rfl⟩, zNp_f (zS_Np h) (zS_V h) g.1 ⟨rfl, rfl⟩, zNr_f (zS_Nr h) (zS_V h) g.1 ⟨rfl, rfl, rfl⟩, zNi_f (zS_Ni h) (zS_V h) g.1 ⟨rfl, rfl⟩, zNq_f (zS_Nq h) (zS_V h) g.1 ⟨rfl, rfl⟩, zNk_f (zS_Nk h) g.1 rfl, zNt_f (zS_Nt h) (zS_V h) g.1 ⟨rfl, rfl⟩, zDb_f (zS_Db h) f.1 (by decide), zPb_f (zS_Pb h) f.1 (by decide), zKb_f (zS_Kb h) f.1 (by decide)⟩, d, t⟩
theorem rg_set {s : zSM} {Z Y : qz_Z} {dm : qz_Z → Int → Int → Int → Int → Int → Int → Int → qz_Z} {a1 a2 : Int}  (h : zAl 0 Z Y) (hZ : zM s Y) (hI : zI none Z) (hd : zDf dm) {C : qz_Z × Int × Int} {M : qz_Z × Int} (hC : zE C (zx_240 Z a1 a2)) (hM : zE M (zy_500 Y dm a1 a2)) : zAl 0 C.1 M.1 ∧ zDd [4303] [4303, 99999] Z Y dm C.1 M.1 ∧ zThr [(24, 1), (13, 2)] C.2 (M.1 1 0 0 2) M.2 := by
  obtain ⟨r1, r2, d, t⟩ := rf_set (dm := dm) (zS_R h) (zS_V h) hI hd hC hM
  have fg := zDd_fr d hI hd rfl
  have f : zFa (1115 :: 1116 :: [4303]) 0 Z C.1 ∧ True := ⟨fg.1, trivial⟩
  have g : yFa [4303, 99999] Y M.1 ∧ True := ⟨fg.2, trivial⟩
  have eC : C = zx_240 Z a1 a2 := hC
  have eM : M = zy_500 Y dm a1 a2 := hM
  subst eC eM
  exact ⟨⟨r1, r2, zD1_f (zS_D1 h) f.1 g.1 ⟨rfl, rfl, rfl⟩, zD4_f (zS_D4 h) f.1 g.1 ⟨⟨rfl, rfl⟩, rfl, rfl, rfl⟩, zN1_f (zS_N1 h) g.1 ⟨rfl, rfl, rfl, rfl⟩, zN4_f (zS_N4 h) g.1 ⟨rfl, rfl, rfl⟩, zN8_f (zS_N8 h) g.1 ⟨rfl, rfl, rfl⟩, zN9_f (zS_N9 h) g.1 ⟨rfl, rfl, rfl⟩, zNL_f (zS_NL h) (zS_V h) g.1 ⟨rfl, rfl, rfl, rfl, rfl⟩, zDl_f (zS_Dl h) f.1 g.1 ⟨rfl, rfl, rfl, rfl, rfl⟩, zDs_f (zS_Ds h) f.1 g.1 ⟨rfl, rfl⟩, zDw_f (zS_Dw h) f.1 g.1 ⟨rfl, rfl⟩, (zFc_at 4000 f.1 rfl rfl rfl).trans (zS_Dg h), zDt_f (zS_Dt h) f.1 g.1 rfl rfl, zFn_f (zS_Fn h) f.1 g.1 ⟨rfl, rfl, rfl, rfl⟩, zNp_f (zS_Np h) (zS_V h) g.1 ⟨rfl, rfl⟩, zNr_z (zS_Nr h) (zS_R h) (zS_V h) r1 g.1 ⟨rfl, rfl, rfl⟩ (fun p j hp => z43_set hI hp), zNi_f (zS_Ni h) (zS_V h) g.1 ⟨rfl, rfl⟩, zNq_f (zS_Nq h) (zS_V h) g.1 ⟨rfl, rfl⟩, zNk_f (zS_Nk h) g.1 rfl, zNt_f (zS_Nt h) (zS_V h) g.1 ⟨rfl, rfl⟩, zDb_f (zS_Db h) f.1 (by decide), zPb_f (zS_Pb h) f.1 (by decide), zKb_f (zS_Kb h) f.1 (by decide)⟩, d, t⟩
theorem rg_gas {s : zSM} {Z Y : qz_Z} {dm : qz_Z → Int → Int → Int → Int → Int → Int → Int → qz_Z} {a1 a2 : Int}  (h : zAl 0 Z Y) (hZ : zM s Y) (hI : zI none Z) (hd : zDf dm) {C : qz_Z × Int × Int} {M : qz_Z × Int} (hC : zE C (zx_202 Z a1 a2)) (hM : zE M (zy_344 Y dm a1 a2)) : zAl 0 C.1 M.1 ∧ zDd [4304] [4304, 99999] Z Y dm C.1 M.1 ∧ zThr [(24, 1)] C.2 (M.1 1 0 0 2) M.2 := by
  obtain ⟨r1, r2, d, t⟩ := rf_gas (dm := dm) (zS_R h) (zS_V h) hI hd hC hM
  have fg := zDd_fr d hI hd rfl
  have f : zFa (1115 :: 1116 :: [4304]) 0 Z C.1 ∧ True := ⟨fg.1, trivial⟩
  have g : yFa [4304, 99999] Y M.1 ∧ True := ⟨fg.2, trivial⟩
  have eC : C = zx_202 Z a1 a2 := hC
  have eM : M = zy_344 Y dm a1 a2 := hM
  subst eC eM
  exact ⟨⟨r1, r2, zD1_f (zS_D1 h) f.1 g.1 ⟨rfl, rfl, rfl⟩, zD4_f (zS_D4 h) f.1 g.1 ⟨⟨rfl, rfl⟩, rfl, rfl, rfl⟩, zN1_f (zS_N1 h) g.1 ⟨rfl, rfl, rfl, rfl⟩, zN4_f (zS_N4 h) g.1 ⟨rfl, rfl, rfl⟩, zN8_f (zS_N8 h) g.1 ⟨rfl, rfl, rfl⟩, zN9_f (zS_N9 h) g.1 ⟨rfl, rfl, rfl⟩, zNL_f (zS_NL h) (zS_V h) g.1 ⟨rfl, rfl, rfl, rfl, rfl⟩, zDl_f (zS_Dl h) f.1 g.1 ⟨rfl, rfl, rfl, rfl, rfl⟩, zDs_f (zS_Ds h) f.1 g.1 ⟨rfl, rfl⟩, zDw_f (zS_Dw h) f.1 g.1 ⟨rfl, rfl⟩, (zFc_at 4000 f.1 rfl rfl rfl).trans (zS_Dg h), zDt_f (zS_Dt h) f.1 g.1 rfl rfl, zFn_f (zS_Fn h) f.1 g.1 ⟨rfl, rfl, rfl, rfl⟩, zNp_f (zS_Np h) (zS_V h) g.1 ⟨rfl, rfl⟩, zNr_z (zS_Nr h) (zS_R h) (zS_V h) r1 g.1 ⟨rfl, rfl, rfl⟩ (fun p j hp => z43_gas hI hp), zNi_f (zS_Ni h) (zS_V h) g.1 ⟨rfl, rfl⟩, zNq_f (zS_Nq h) (zS_V h) g.1 ⟨rfl, rfl⟩, zNk_f (zS_Nk h) g.1 rfl, zNt_f (zS_Nt h) (zS_V h) g.1 ⟨rfl, rfl⟩, zDb_f (zS_Db h) f.1 (by decide), zPb_f (zS_Pb h) f.1 (by decide), zKb_f (zS_Kb h) f.1 (by decide)⟩, d, t⟩
theorem rg_account {s : zSM} {Z Y : qz_Z} {dm : qz_Z → Int → Int → Int → Int → Int → Int → Int → qz_Z} {a1 : Int}  (h : zAl 0 Z Y) (hZ : zM s Y) (hI : zI none Z) (hd : zDf dm) {C : qz_Z × Int × Int} {M : qz_Z × Int} (hC : zE C (zx_185 Z a1)) (hM : zE M (zy_256 Y a1)) : zAl 0 C.1 M.1 ∧ zDd [] [99999] Z Y dm C.1 M.1 ∧ zThr [(13, 1)] C.2 (M.1 1 0 0 2) M.2 := by
  obtain ⟨r1, r2, d, t⟩ := rf_account (dm := dm) (zS_R h) (zS_V h) hI hd hC hM
  have fg := zDd_fr d hI hd rfl
  have f : zFa (1115 :: 1116 :: []) 0 Z C.1 ∧ True := ⟨fg.1, trivial⟩
  have g : yFa [99999] Y M.1 ∧ True := ⟨fg.2, trivial⟩
  exact ⟨⟨r1, r2, zD1_f (zS_D1 h) f.1 g.1 ⟨rfl, rfl, rfl⟩, zD4_f (zS_D4 h) f.1 g.1 ⟨⟨rfl, rfl⟩, rfl, rfl, rfl⟩, zN1_f (zS_N1 h) g.1 ⟨rfl, rfl, rfl, rfl⟩, zN4_f (zS_N4 h) g.1 ⟨rfl, rfl, rfl⟩, zN8_f (zS_N8 h) g.1 ⟨rfl, rfl, rfl⟩, zN9_f (zS_N9 h) g.1 ⟨rfl, rfl, rfl⟩, zNL_f (zS_NL h) (zS_V h) g.1 ⟨rfl, rfl, rfl, rfl, rfl⟩, zDl_f (zS_Dl h) f.1 g.1 ⟨rfl, rfl, rfl, rfl, rfl⟩, zDs_f (zS_Ds h) f.1 g.1 ⟨rfl, rfl⟩, zDw_f (zS_Dw h) f.1 g.1 ⟨rfl, rfl⟩, (zFc_at 4000 f.1 rfl rfl rfl).trans (zS_Dg h), zDt_f (zS_Dt h) f.1 g.1 rfl rfl, zFn_f (zS_Fn h) f.1 g.1 ⟨rfl, rfl, rfl, rfl⟩, zNp_f (zS_Np h) (zS_V h) g.1 ⟨rfl, rfl⟩, zNr_f (zS_Nr h) (zS_V h) g.1 ⟨rfl, rfl, rfl⟩, zNi_f (zS_Ni h) (zS_V h) g.1 ⟨rfl, rfl⟩, zNq_f (zS_Nq h) (zS_V h) g.1 ⟨rfl, rfl⟩, zNk_f (zS_Nk h) g.1 rfl, zNt_f (zS_Nt h) (zS_V h) g.1 ⟨rfl, rfl⟩, zDb_f (zS_Db h) f.1 (by decide), zPb_f (zS_Pb h) f.1 (by decide), zKb_f (zS_Kb h) f.1 (by decide)⟩, d, t⟩
theorem rg_way {s : zSM} {Z Y : qz_Z} {dm : qz_Z → Int → Int → Int → Int → Int → Int → Int → qz_Z} {a1 a2 a3 : Int}  (h : zAl 0 Z Y) (hZ : zM s Y) (hI : zI none Z) (hd : zDf dm) {C : qz_Z × Int × Int} {M : qz_Z × Int} (hC : zE C (zx_253 Z a1 a2 a3)) (hM : zE M (zy_543 Y dm a1 a2 a3)) : zAl 0 C.1 M.1 ∧ zDd [4000] [10070, 99999] Z Y dm C.1 M.1 ∧ zThr [(24, 1), (13, 2)] C.2 (M.1 1 0 0 2) M.2 := by
  obtain ⟨r1, r2, d, t⟩ := rf_way (dm := dm) (zS_R h) (zS_V h) hI hd (zS_Dw h) hC hM
  have fg := zDd_fr d hI hd rfl
  have f : zFa (1115 :: 1116 :: [4000]) 0 Z C.1 ∧ True := ⟨fg.1, trivial⟩
  have g : yFa [10070, 99999] Y M.1 ∧ True := ⟨fg.2, trivial⟩
  have eC : C = zx_253 Z a1 a2 a3 := hC
  have eM : M = zy_543 Y dm a1 a2 a3 := hM
  subst eC eM
  exact ⟨⟨r1, r2, zD1_f (zS_D1 h) f.1 g.1 ⟨rfl, rfl, rfl⟩, zD4_f (zS_D4 h) f.1 g.1 ⟨⟨rfl, rfl⟩, rfl, rfl, rfl⟩, zN1_f (zS_N1 h) g.1 ⟨rfl, rfl, rfl, rfl⟩, zN4_f (zS_N4 h) g.1 ⟨rfl, rfl, rfl⟩, zN8_f (zS_N8 h) g.1 ⟨rfl, rfl, rfl⟩, zN9_f (zS_N9 h) g.1 ⟨rfl, rfl, rfl⟩, zNL_f (zS_NL h) (zS_V h) g.1 ⟨rfl, rfl, rfl, rfl, rfl⟩, zDl_f (zS_Dl h) f.1 g.1 ⟨rfl, rfl, rfl, rfl, rfl⟩, zDs_f (zS_Ds h) f.1 g.1 ⟨rfl, rfl⟩, (dw_way (zS_Dw h) (zS_Dg h) hI hd).1, (dw_way (Y := Y) (dm := dm) (zS_Dw h) (zS_Dg h) hI hd).2, zDt_f (zS_Dt h) f.1 g.1 rfl rfl, zFn_f (zS_Fn h) f.1 g.1 ⟨rfl, rfl, rfl, rfl⟩, zNp_f (zS_Np h) (zS_V h) g.1 ⟨rfl, rfl⟩, zNr_f (zS_Nr h) (zS_V h) g.1 ⟨rfl, rfl, rfl⟩, zNi_f (zS_Ni h) (zS_V h) g.1 ⟨rfl, rfl⟩, zNq_f (zS_Nq h) (zS_V h) g.1 ⟨rfl, rfl⟩, zNk_f (zS_Nk h) g.1 rfl, zNt_f (zS_Nt h) (zS_V h) g.1 ⟨rfl, rfl⟩, zDb_f (zS_Db h) f.1 (by decide), zPb_f (zS_Pb h) f.1 (by decide), zKb_f (zS_Kb h) f.1 (by decide)⟩, d, t⟩
theorem rg_outside {s : zSM} {Z Y : qz_Z} {dm : qz_Z → Int → Int → Int → Int → Int → Int → Int → qz_Z} {a1 a2 : Int}  (h : zAl 0 Z Y) (hZ : zM s Y) (hI : zI none Z) (hd : zDf dm) {C : qz_Z × Int × Int} {M : qz_Z × Int} (hC : zE C (zx_222 Z a1 a2)) (hM : zE M (zy_443 Y dm a1 a2)) : zAl 0 C.1 M.1 ∧ zDd [1200] [1200, 99999] Z Y dm C.1 M.1 ∧ zThr [(13, 1), (15, 2)] C.2 (M.1 1 0 0 2) M.2 := by
  obtain ⟨r1, r2, d, t⟩ := rf_outside (dm := dm) (zS_R h) (zS_V h) hI hd (zS_D1 h) (zS_D4 h) (zS_N1 h) (zS_N4 h) (zS_Ds h) (zS_Dw h) (zS_Dl h) hC hM
  have fg := zDd_fr d hI hd rfl
  have f : zFa (1115 :: 1116 :: [1200]) 0 Z C.1 ∧ True := ⟨fg.1, trivial⟩
  have g : yFa [1200, 99999] Y M.1 ∧ True := ⟨fg.2, trivial⟩
  exact ⟨⟨r1, r2, zD1_f (zS_D1 h) f.1 g.1 ⟨rfl, rfl, rfl⟩, zD4_f (zS_D4 h) f.1 g.1 ⟨⟨rfl, rfl⟩, rfl, rfl, rfl⟩, zN1_f (zS_N1 h) g.1 ⟨rfl, rfl, rfl, rfl⟩, zN4_f (zS_N4 h) g.1 ⟨rfl, rfl, rfl⟩, zN8_f (zS_N8 h) g.1 ⟨rfl, rfl, rfl⟩, zN9_f (zS_N9 h) g.1 ⟨rfl, rfl, rfl⟩, zNL_f (zS_NL h) (zS_V h) g.1 ⟨rfl, rfl, rfl, rfl, rfl⟩, zDl_f (zS_Dl h) f.1 g.1 ⟨rfl, rfl, rfl, rfl, rfl⟩, zDs_f (zS_Ds h) f.1 g.1 ⟨rfl, rfl⟩, zDw_f (zS_Dw h) f.1 g.1 ⟨rfl, rfl⟩, (zFc_at 4000 f.1 rfl rfl rfl).trans (zS_Dg h), zDt_f (zS_Dt h) f.1 g.1 rfl rfl, zFn_f (zS_Fn h) f.1 g.1 ⟨rfl, rfl, rfl, rfl⟩, zNp_f (zS_Np h) (zS_V h) g.1 ⟨rfl, rfl⟩, zNr_f (zS_Nr h) (zS_V h) g.1 ⟨rfl, rfl, rfl⟩, zNi_f (zS_Ni h) (zS_V h) g.1 ⟨rfl, rfl⟩, zNq_f (zS_Nq h) (zS_V h) g.1 ⟨rfl, rfl⟩, zNk_f (zS_Nk h) g.1 rfl, zNt_f (zS_Nt h) (zS_V h) g.1 ⟨rfl, rfl⟩, zDb_f (zS_Db h) f.1 (by decide), zPb_f (zS_Pb h) f.1 (by decide), zKb_f (zS_Kb h) f.1 (by decide)⟩, d, t⟩
theorem rg_order {s : zSM} {Z Y : qz_Z} {dm : qz_Z → Int → Int → Int → Int → Int → Int → Int → qz_Z} {a1 a2 a3 a4 a5 a6 : Int}  (h : zAl 0 Z Y) (hZ : zM s Y) (hI : zI none Z) (hd : zDf dm) {C : qz_Z × Int × Int} {M : qz_Z × Int} (hC : zE C (zx_220 Z a1 a2 a3 a4 a5 a6)) (hM : zE M (zy_441 Y dm a1 a2 a3 a4 a5 a6)) : zAl 0 C.1 M.1 ∧ zDd [1105, 4514, 4600, 4601, 4602, 4603, 4604, 4605, 4606] [1105, 4600, 4601, 4602, 4603, 4604, 4605, 4606, 99999] Z Y dm C.1 M.1 ∧ zThr [(24, 1), (13, 2), (15, 3)] C.2 (M.1 1 0 0 2) M.2 := by
  obtain ⟨r1, r2, d, t⟩ := rf_order (dm := dm) (zS_R h) (zS_V h) hI hd (zS_D1 h) (zS_D4 h) (zS_N1 h) (zS_N4 h) (zS_Ds h) (zS_Dw h) (zS_Dl h) hC hM
  have fg := zDd_fr d hI hd rfl
  have f : zFa (1115 :: 1116 :: [1105, 4514, 4600, 4601, 4602, 4603, 4604, 4605, 4606]) 0 Z C.1 ∧ True := ⟨fg.1, trivial⟩
  have g : yFa [1105, 4600, 4601, 4602, 4603, 4604, 4605, 4606, 99999] Y M.1 ∧ True := ⟨fg.2, trivial⟩
  have eC : C = zx_220 Z a1 a2 a3 a4 a5 a6 := hC
  have eM : M = zy_441 Y dm a1 a2 a3 a4 a5 a6 := hM
  subst eC eM
  exact ⟨⟨r1, r2, zD1_f (zS_D1 h) f.1 g.1 ⟨rfl, rfl, rfl⟩, zD4_f (zS_D4 h) f.1 g.1 ⟨⟨rfl, rfl⟩, rfl, rfl, rfl⟩, zN1_f (zS_N1 h) g.1 ⟨rfl, rfl, rfl, rfl⟩, zN4_f (zS_N4 h) g.1 ⟨rfl, rfl, rfl⟩, zN8_f (zS_N8 h) g.1 ⟨rfl, rfl, rfl⟩, zN9_f (zS_N9 h) g.1 ⟨rfl, rfl, rfl⟩, zNL_f (zS_NL h) (zS_V h) g.1 ⟨rfl, rfl, rfl, rfl, rfl⟩, zDl_f (zS_Dl h) f.1 g.1 ⟨rfl, rfl, rfl, rfl, rfl⟩, zDs_f (zS_Ds h) f.1 g.1 ⟨rfl, rfl⟩, zDw_f (zS_Dw h) f.1 g.1 ⟨rfl, rfl⟩, (zFc_at 4000 f.1 rfl rfl rfl).trans (zS_Dg h), zDt_f (zS_Dt h) f.1 g.1 rfl rfl, zFn_f (zS_Fn h) f.1 g.1 ⟨rfl, rfl, rfl, rfl⟩, zNp_f (zS_Np h) (zS_V h) g.1 ⟨rfl, rfl⟩, zNr_f (zS_Nr h) (zS_V h) g.1 ⟨rfl, rfl, rfl⟩, zNi_f (zS_Ni h) (zS_V h) g.1 ⟨rfl, rfl⟩, zNq_f (zS_Nq h) (zS_V h) g.1 ⟨rfl, rfl⟩, zNk_f (zS_Nk h) g.1 rfl, zNt_f (zS_Nt h) (zS_V h) g.1 ⟨rfl, rfl⟩, db_order (zS_Db h) hI (by rw [zRl_11_5 (a := 1401) (zS_R h) rfl]; exact (zVr_11_5 (a := 1401) (zS_V h) rfl).1), zPb_f (zS_Pb h) f.1 (by decide), zKb_f (zS_Kb h) f.1 (by decide)⟩, d, t⟩
theorem rg_clock {s : zSM} {Z Y : qz_Z} {dm : qz_Z → Int → Int → Int → Int → Int → Int → Int → qz_Z} {a1 a2 a3 a4 a5 : Int}  (h : zAl 0 Z Y) (hZ : zM s Y) (hI : zI none Z) (hd : zDf dm) {C : qz_Z × Int × Int} {M : qz_Z × Int} (hC : zE C (zx_193 Z a1 a2 a3 a4 a5)) (hM : zE M (zy_316 Y dm a1 a2 a3 a4 a5)) : zAl 0 C.1 M.1 ∧ zDd [1107, 4800, 4801, 4802, 4803, 4804, 4806, 4807] [1107, 4800, 4801, 4802, 4803, 4804, 4806, 4807, 99999] Z Y dm C.1 M.1 ∧ zThr [(13, 1), (15, 2)] C.2 (M.1 1 0 0 2) M.2 := by
  obtain ⟨r1, r2, d, t⟩ := rf_clock (dm := dm) (zS_R h) (zS_V h) hI hd (zS_D1 h) (zS_D4 h) (zS_N1 h) (zS_N4 h) (zS_Ds h) (zS_Dw h) (zS_Dl h) hC hM
  have fg := zDd_fr d hI hd rfl
  have f : zFa (1115 :: 1116 :: [1107, 4800, 4801, 4802, 4803, 4804, 4806, 4807]) 0 Z C.1 ∧ True := ⟨fg.1, trivial⟩
  have g : yFa [1107, 4800, 4801, 4802, 4803, 4804, 4806, 4807, 99999] Y M.1 ∧ True := ⟨fg.2, trivial⟩
  have eC : C = zx_193 Z a1 a2 a3 a4 a5 := hC
  have eM : M = zy_316 Y dm a1 a2 a3 a4 a5 := hM
  subst eC eM
  exact ⟨⟨r1, r2, zD1_f (zS_D1 h) f.1 g.1 ⟨rfl, rfl, rfl⟩, zD4_f (zS_D4 h) f.1 g.1 ⟨⟨rfl, rfl⟩, rfl, rfl, rfl⟩, zN1_f (zS_N1 h) g.1 ⟨rfl, rfl, rfl, rfl⟩, zN4_f (zS_N4 h) g.1 ⟨rfl, rfl, rfl⟩, zN8_f (zS_N8 h) g.1 ⟨rfl, rfl, rfl⟩, zN9_f (zS_N9 h) g.1 ⟨rfl, rfl, rfl⟩, zNL_7 (zS_NL h) hZ (zS_V h) (zS_R h) r1 g.1 ⟨rfl, rfl, rfl, rfl⟩ (z11_clock hI), zDl_f (zS_Dl h) f.1 g.1 ⟨rfl, rfl, rfl, rfl, rfl⟩, zDs_f (zS_Ds h) f.1 g.1 ⟨rfl, rfl⟩, zDw_f (zS_Dw h) f.1 g.1 ⟨rfl, rfl⟩, (zFc_at 4000 f.1 rfl rfl rfl).trans (zS_Dg h), zDt_f (zS_Dt h) f.1 g.1 rfl rfl, zFn_f (zS_Fn h) f.1 g.1 ⟨rfl, rfl, rfl, rfl⟩, zNp_f (zS_Np h) (zS_V h) g.1 ⟨rfl, rfl⟩, zNr_f (zS_Nr h) (zS_V h) g.1 ⟨rfl, rfl, rfl⟩, zNi_f (zS_Ni h) (zS_V h) g.1 ⟨rfl, rfl⟩, zNq_f (zS_Nq h) (zS_V h) g.1 ⟨rfl, rfl⟩, zNk_f (zS_Nk h) g.1 rfl, zNt_f (zS_Nt h) (zS_V h) g.1 ⟨rfl, rfl⟩, zDb_f (zS_Db h) f.1 (by decide), zPb_f (zS_Pb h) f.1 (by decide), zKb_f (zS_Kb h) f.1 (by decide)⟩, d, t⟩
theorem rg_docks {s : zSM} {Z Y : qz_Z} {dm : qz_Z → Int → Int → Int → Int → Int → Int → Int → qz_Z} {a1 : Int}  (h : zAl 0 Z Y) (hZ : zM s Y) (hI : zI none Z) (hd : zDf dm) {C : qz_Z × Int × Int} {M : qz_Z × Int} (hC : zE C (zx_197 Z a1)) (hM : zE M (zy_336 Y dm a1)) : zAl 0 C.1 M.1 ∧ zDd [1114] [1114, 99999] Z Y dm C.1 M.1 ∧ zThr [(13, 1), (15, 2)] C.2 (M.1 1 0 0 2) M.2 := by
  obtain ⟨r1, r2, d, t⟩ := rf_docks (dm := dm) (zS_R h) (zS_V h) hI hd (zS_D1 h) (zS_D4 h) (zS_N1 h) (zS_N4 h) (zS_Ds h) (zS_Dw h) (zS_Dl h) hC hM
  have fg := zDd_fr d hI hd rfl
  have f : zFa (1115 :: 1116 :: [1114]) 0 Z C.1 ∧ True := ⟨fg.1, trivial⟩
  have g : yFa [1114, 99999] Y M.1 ∧ True := ⟨fg.2, trivial⟩
  exact ⟨⟨r1, r2, zD1_f (zS_D1 h) f.1 g.1 ⟨rfl, rfl, rfl⟩, zD4_f (zS_D4 h) f.1 g.1 ⟨⟨rfl, rfl⟩, rfl, rfl, rfl⟩, zN1_f (zS_N1 h) g.1 ⟨rfl, rfl, rfl, rfl⟩, zN4_f (zS_N4 h) g.1 ⟨rfl, rfl, rfl⟩, zN8_f (zS_N8 h) g.1 ⟨rfl, rfl, rfl⟩, zN9_f (zS_N9 h) g.1 ⟨rfl, rfl, rfl⟩, zNL_f (zS_NL h) (zS_V h) g.1 ⟨rfl, rfl, rfl, rfl, rfl⟩, zDl_f (zS_Dl h) f.1 g.1 ⟨rfl, rfl, rfl, rfl, rfl⟩, zDs_f (zS_Ds h) f.1 g.1 ⟨rfl, rfl⟩, zDw_f (zS_Dw h) f.1 g.1 ⟨rfl, rfl⟩, (zFc_at 4000 f.1 rfl rfl rfl).trans (zS_Dg h), zDt_f (zS_Dt h) f.1 g.1 rfl rfl, zFn_f (zS_Fn h) f.1 g.1 ⟨rfl, rfl, rfl, rfl⟩, zNp_f (zS_Np h) (zS_V h) g.1 ⟨rfl, rfl⟩, zNr_f (zS_Nr h) (zS_V h) g.1 ⟨rfl, rfl, rfl⟩, zNi_f (zS_Ni h) (zS_V h) g.1 ⟨rfl, rfl⟩, zNq_f (zS_Nq h) (zS_V h) g.1 ⟨rfl, rfl⟩, zNk_f (zS_Nk h) g.1 rfl, zNt_f (zS_Nt h) (zS_V h) g.1 ⟨rfl, rfl⟩, zDb_f (zS_Db h) f.1 (by decide), zPb_f (zS_Pb h) f.1 (by decide), zKb_f (zS_Kb h) f.1 (by decide)⟩, d, t⟩
theorem rg_send {s : zSM} {Z Y : qz_Z} {dm : qz_Z → Int → Int → Int → Int → Int → Int → Int → qz_Z} {a1 a2 : Int}  (h : zAl 0 Z Y) (hZ : zM s Y) (hI : zI none Z) (hd : zDf dm) {C : qz_Z × Int × Int} {M : qz_Z × Int} (hC : zE C (zx_239 Z a1 a2)) (hM : zE M (zy_499 Y dm a1 a2)) : zAl 0 C.1 M.1 ∧ zDd [5003] [5003, 99999] Z Y dm C.1 M.1 ∧ zThr [(24, 1), (13, 2), (15, 3)] C.2 (M.1 1 0 0 2) M.2 := by
  obtain ⟨r1, r2, d, t⟩ := rf_send (dm := dm) (zS_R h) (zS_V h) hI hd (zS_D1 h) (zS_D4 h) (zS_N1 h) (zS_N4 h) (zS_Ds h) (zS_Dw h) (zS_Dl h) hC hM
  have fg := zDd_fr d hI hd rfl
  have f : zFa (1115 :: 1116 :: [5003]) 0 Z C.1 ∧ True := ⟨fg.1, trivial⟩
  have g : yFa [5003, 99999] Y M.1 ∧ True := ⟨fg.2, trivial⟩
  exact ⟨⟨r1, r2, zD1_f (zS_D1 h) f.1 g.1 ⟨rfl, rfl, rfl⟩, zD4_f (zS_D4 h) f.1 g.1 ⟨⟨rfl, rfl⟩, rfl, rfl, rfl⟩, zN1_f (zS_N1 h) g.1 ⟨rfl, rfl, rfl, rfl⟩, zN4_f (zS_N4 h) g.1 ⟨rfl, rfl, rfl⟩, zN8_f (zS_N8 h) g.1 ⟨rfl, rfl, rfl⟩, zN9_f (zS_N9 h) g.1 ⟨rfl, rfl, rfl⟩, zNL_f (zS_NL h) (zS_V h) g.1 ⟨rfl, rfl, rfl, rfl, rfl⟩, zDl_f (zS_Dl h) f.1 g.1 ⟨rfl, rfl, rfl, rfl, rfl⟩, zDs_f (zS_Ds h) f.1 g.1 ⟨rfl, rfl⟩, zDw_f (zS_Dw h) f.1 g.1 ⟨rfl, rfl⟩, (zFc_at 4000 f.1 rfl rfl rfl).trans (zS_Dg h), zDt_f (zS_Dt h) f.1 g.1 rfl rfl, zFn_f (zS_Fn h) f.1 g.1 ⟨rfl, rfl, rfl, rfl⟩, zNp_f (zS_Np h) (zS_V h) g.1 ⟨rfl, rfl⟩, zNr_f (zS_Nr h) (zS_V h) g.1 ⟨rfl, rfl, rfl⟩, zNi_f (zS_Ni h) (zS_V h) g.1 ⟨rfl, rfl⟩, zNq_f (zS_Nq h) (zS_V h) g.1 ⟨rfl, rfl⟩, zNk_f (zS_Nk h) g.1 rfl, zNt_f (zS_Nt h) (zS_V h) g.1 ⟨rfl, rfl⟩, zDb_f (zS_Db h) f.1 (by decide), zPb_f (zS_Pb h) f.1 (by decide), zKb_f (zS_Kb h) f.1 (by decide)⟩, d, t⟩
theorem rg_hand {s : zSM} {Z Y : qz_Z} {dm : qz_Z → Int → Int → Int → Int → Int → Int → Int → qz_Z} {a1 a2 : Int}  (h : zAl 0 Z Y) (hZ : zM s Y) (hI : zI none Z) (hd : zDf dm) {C : qz_Z × Int × Int} {M : qz_Z × Int} (hC : zE C (zx_206 Z a1 a2)) (hM : zE M (zy_349 Y a1 a2)) : zAl 0 C.1 M.1 ∧ zDd [] [99999] Z Y dm C.1 M.1 ∧ zThr [(24, 1), (13, 2)] C.2 (M.1 1 0 0 2) M.2 := by
  obtain ⟨r1, r2, d, t⟩ := rf_hand (dm := dm) (zS_R h) (zS_V h) hI hd (zS_D1 h) (zS_D4 h) (zS_N1 h) (zS_N4 h) (zS_Ds h) (zS_Dw h) (zS_Dl h) hC hM
  have fg := zDd_fr d hI hd rfl
  have f : zFa (1115 :: 1116 :: []) 0 Z C.1 ∧ True := ⟨fg.1, trivial⟩
  have g : yFa [99999] Y M.1 ∧ True := ⟨fg.2, trivial⟩
  exact ⟨⟨r1, r2, zD1_f (zS_D1 h) f.1 g.1 ⟨rfl, rfl, rfl⟩, zD4_f (zS_D4 h) f.1 g.1 ⟨⟨rfl, rfl⟩, rfl, rfl, rfl⟩, zN1_f (zS_N1 h) g.1 ⟨rfl, rfl, rfl, rfl⟩, zN4_f (zS_N4 h) g.1 ⟨rfl, rfl, rfl⟩, zN8_f (zS_N8 h) g.1 ⟨rfl, rfl, rfl⟩, zN9_f (zS_N9 h) g.1 ⟨rfl, rfl, rfl⟩, zNL_f (zS_NL h) (zS_V h) g.1 ⟨rfl, rfl, rfl, rfl, rfl⟩, zDl_f (zS_Dl h) f.1 g.1 ⟨rfl, rfl, rfl, rfl, rfl⟩, zDs_f (zS_Ds h) f.1 g.1 ⟨rfl, rfl⟩, zDw_f (zS_Dw h) f.1 g.1 ⟨rfl, rfl⟩, (zFc_at 4000 f.1 rfl rfl rfl).trans (zS_Dg h), zDt_f (zS_Dt h) f.1 g.1 rfl rfl, zFn_f (zS_Fn h) f.1 g.1 ⟨rfl, rfl, rfl, rfl⟩, zNp_f (zS_Np h) (zS_V h) g.1 ⟨rfl, rfl⟩, zNr_f (zS_Nr h) (zS_V h) g.1 ⟨rfl, rfl, rfl⟩, zNi_f (zS_Ni h) (zS_V h) g.1 ⟨rfl, rfl⟩, zNq_f (zS_Nq h) (zS_V h) g.1 ⟨rfl, rfl⟩, zNk_f (zS_Nk h) g.1 rfl, zNt_f (zS_Nt h) (zS_V h) g.1 ⟨rfl, rfl⟩, zDb_f (zS_Db h) f.1 (by decide), zPb_f (zS_Pb h) f.1 (by decide), zKb_f (zS_Kb h) f.1 (by decide)⟩, d, t⟩
theorem rg_entry {s : zSM} {Z Y : qz_Z} {dm : qz_Z → Int → Int → Int → Int → Int → Int → Int → qz_Z} {a1 a2 : Int}  (h : zAl 0 Z Y) (hZ : zM s Y) (hI : zI none Z) (hd : zDf dm) {C : qz_Z × Int × Int} {M : qz_Z × Int} (hC : zE C (zx_199 Z a1 a2)) (hM : zE M (zy_339 Y a1 a2)) : zAl 0 C.1 M.1 ∧ zDd [] [99999] Z Y dm C.1 M.1 ∧ zThr [(24, 1), (13, 2)] C.2 (M.1 1 0 0 2) M.2 := by
  obtain ⟨r1, r2, d, t⟩ := rf_entry (dm := dm) (zS_R h) (zS_V h) hI hd (zS_D1 h) (zS_D4 h) (zS_N1 h) (zS_N4 h) (zS_Ds h) (zS_Dw h) (zS_Dl h) hC hM
  have fg := zDd_fr d hI hd rfl
  have f : zFa (1115 :: 1116 :: []) 0 Z C.1 ∧ True := ⟨fg.1, trivial⟩
  have g : yFa [99999] Y M.1 ∧ True := ⟨fg.2, trivial⟩
  exact ⟨⟨r1, r2, zD1_f (zS_D1 h) f.1 g.1 ⟨rfl, rfl, rfl⟩, zD4_f (zS_D4 h) f.1 g.1 ⟨⟨rfl, rfl⟩, rfl, rfl, rfl⟩, zN1_f (zS_N1 h) g.1 ⟨rfl, rfl, rfl, rfl⟩, zN4_f (zS_N4 h) g.1 ⟨rfl, rfl, rfl⟩, zN8_f (zS_N8 h) g.1 ⟨rfl, rfl, rfl⟩, zN9_f (zS_N9 h) g.1 ⟨rfl, rfl, rfl⟩, zNL_f (zS_NL h) (zS_V h) g.1 ⟨rfl, rfl, rfl, rfl, rfl⟩, zDl_f (zS_Dl h) f.1 g.1 ⟨rfl, rfl, rfl, rfl, rfl⟩, zDs_f (zS_Ds h) f.1 g.1 ⟨rfl, rfl⟩, zDw_f (zS_Dw h) f.1 g.1 ⟨rfl, rfl⟩, (zFc_at 4000 f.1 rfl rfl rfl).trans (zS_Dg h), zDt_f (zS_Dt h) f.1 g.1 rfl rfl, zFn_f (zS_Fn h) f.1 g.1 ⟨rfl, rfl, rfl, rfl⟩, zNp_f (zS_Np h) (zS_V h) g.1 ⟨rfl, rfl⟩, zNr_f (zS_Nr h) (zS_V h) g.1 ⟨rfl, rfl, rfl⟩, zNi_f (zS_Ni h) (zS_V h) g.1 ⟨rfl, rfl⟩, zNq_f (zS_Nq h) (zS_V h) g.1 ⟨rfl, rfl⟩, zNk_f (zS_Nk h) g.1 rfl, zNt_f (zS_Nt h) (zS_V h) g.1 ⟨rfl, rfl⟩, zDb_f (zS_Db h) f.1 (by decide), zPb_f (zS_Pb h) f.1 (by decide), zKb_f (zS_Kb h) f.1 (by decide)⟩, d, t⟩
theorem rg_owed {s : zSM} {Z Y : qz_Z} {dm : qz_Z → Int → Int → Int → Int → Int → Int → Int → qz_Z} {a1 a2 : Int}  (h : zAl 0 Z Y) (hZ : zM s Y) (hI : zI none Z) (hd : zDf dm) {C : qz_Z × Int × Int} {M : qz_Z × Int} (hC : zE C (zx_223 Z a1 a2)) (hM : zE M (zy_444 Y a1 a2)) : zAl 0 C.1 M.1 ∧ zDd [] [99999] Z Y dm C.1 M.1 ∧ zThr [(24, 1), (13, 2)] C.2 (M.1 1 0 0 2) M.2 := by
  obtain ⟨r1, r2, d, t⟩ := rf_owed (dm := dm) (zS_R h) (zS_V h) hI hd (zS_D1 h) (zS_D4 h) (zS_N1 h) (zS_N4 h) (zS_Ds h) (zS_Dw h) (zS_Dl h) hC hM
  have fg := zDd_fr d hI hd rfl
  have f : zFa (1115 :: 1116 :: []) 0 Z C.1 ∧ True := ⟨fg.1, trivial⟩
  have g : yFa [99999] Y M.1 ∧ True := ⟨fg.2, trivial⟩
  exact ⟨⟨r1, r2, zD1_f (zS_D1 h) f.1 g.1 ⟨rfl, rfl, rfl⟩, zD4_f (zS_D4 h) f.1 g.1 ⟨⟨rfl, rfl⟩, rfl, rfl, rfl⟩, zN1_f (zS_N1 h) g.1 ⟨rfl, rfl, rfl, rfl⟩, zN4_f (zS_N4 h) g.1 ⟨rfl, rfl, rfl⟩, zN8_f (zS_N8 h) g.1 ⟨rfl, rfl, rfl⟩, zN9_f (zS_N9 h) g.1 ⟨rfl, rfl, rfl⟩, zNL_f (zS_NL h) (zS_V h) g.1 ⟨rfl, rfl, rfl, rfl, rfl⟩, zDl_f (zS_Dl h) f.1 g.1 ⟨rfl, rfl, rfl, rfl, rfl⟩, zDs_f (zS_Ds h) f.1 g.1 ⟨rfl, rfl⟩, zDw_f (zS_Dw h) f.1 g.1 ⟨rfl, rfl⟩, (zFc_at 4000 f.1 rfl rfl rfl).trans (zS_Dg h), zDt_f (zS_Dt h) f.1 g.1 rfl rfl, zFn_f (zS_Fn h) f.1 g.1 ⟨rfl, rfl, rfl, rfl⟩, zNp_f (zS_Np h) (zS_V h) g.1 ⟨rfl, rfl⟩, zNr_f (zS_Nr h) (zS_V h) g.1 ⟨rfl, rfl, rfl⟩, zNi_f (zS_Ni h) (zS_V h) g.1 ⟨rfl, rfl⟩, zNq_f (zS_Nq h) (zS_V h) g.1 ⟨rfl, rfl⟩, zNk_f (zS_Nk h) g.1 rfl, zNt_f (zS_Nt h) (zS_V h) g.1 ⟨rfl, rfl⟩, zDb_f (zS_Db h) f.1 (by decide), zPb_f (zS_Pb h) f.1 (by decide), zKb_f (zS_Kb h) f.1 (by decide)⟩, d, t⟩
theorem rg_quarrelled {s : zSM} {Z Y : qz_Z} {dm : qz_Z → Int → Int → Int → Int → Int → Int → Int → qz_Z} {a1 a2 : Int}  (h : zAl 0 Z Y) (hZ : zM s Y) (hI : zI none Z) (hd : zDf dm) {C : qz_Z × Int × Int} {M : qz_Z × Int} (hC : zE C (zx_232 Z a1 a2)) (hM : zE M (zy_458 Y a1 a2)) : zAl 0 C.1 M.1 ∧ zDd [] [99999] Z Y dm C.1 M.1 ∧ zThr [(24, 1), (13, 2)] C.2 (M.1 1 0 0 2) M.2 := by
  obtain ⟨r1, r2, d, t⟩ := rf_quarrelled (dm := dm) (zS_R h) (zS_V h) hI hd (zS_D1 h) (zS_D4 h) (zS_N1 h) (zS_N4 h) (zS_Ds h) (zS_Dw h) (zS_Dl h) hC hM
  have fg := zDd_fr d hI hd rfl
  have f : zFa (1115 :: 1116 :: []) 0 Z C.1 ∧ True := ⟨fg.1, trivial⟩
  have g : yFa [99999] Y M.1 ∧ True := ⟨fg.2, trivial⟩
  exact ⟨⟨r1, r2, zD1_f (zS_D1 h) f.1 g.1 ⟨rfl, rfl, rfl⟩, zD4_f (zS_D4 h) f.1 g.1 ⟨⟨rfl, rfl⟩, rfl, rfl, rfl⟩, zN1_f (zS_N1 h) g.1 ⟨rfl, rfl, rfl, rfl⟩, zN4_f (zS_N4 h) g.1 ⟨rfl, rfl, rfl⟩, zN8_f (zS_N8 h) g.1 ⟨rfl, rfl, rfl⟩, zN9_f (zS_N9 h) g.1 ⟨rfl, rfl, rfl⟩, zNL_f (zS_NL h) (zS_V h) g.1 ⟨rfl, rfl, rfl, rfl, rfl⟩, zDl_f (zS_Dl h) f.1 g.1 ⟨rfl, rfl, rfl, rfl, rfl⟩, zDs_f (zS_Ds h) f.1 g.1 ⟨rfl, rfl⟩, zDw_f (zS_Dw h) f.1 g.1 ⟨rfl, rfl⟩, (zFc_at 4000 f.1 rfl rfl rfl).trans (zS_Dg h), zDt_f (zS_Dt h) f.1 g.1 rfl rfl, zFn_f (zS_Fn h) f.1 g.1 ⟨rfl, rfl, rfl, rfl⟩, zNp_f (zS_Np h) (zS_V h) g.1 ⟨rfl, rfl⟩, zNr_f (zS_Nr h) (zS_V h) g.1 ⟨rfl, rfl, rfl⟩, zNi_f (zS_Ni h) (zS_V h) g.1 ⟨rfl, rfl⟩, zNq_f (zS_Nq h) (zS_V h) g.1 ⟨rfl, rfl⟩, zNk_f (zS_Nk h) g.1 rfl, zNt_f (zS_Nt h) (zS_V h) g.1 ⟨rfl, rfl⟩, zDb_f (zS_Db h) f.1 (by decide), zPb_f (zS_Pb h) f.1 (by decide), zKb_f (zS_Kb h) f.1 (by decide)⟩, d, t⟩
theorem rg_kept {s : zSM} {Z Y : qz_Z} {dm : qz_Z → Int → Int → Int → Int → Int → Int → Int → qz_Z} {a1 a2 : Int}  (h : zAl 0 Z Y) (hZ : zM s Y) (hI : zI none Z) (hd : zDf dm) {C : qz_Z × Int × Int} {M : qz_Z × Int} (hC : zE C (zx_214 Z a1 a2)) (hM : zE M (zy_425 Y a1 a2)) : zAl 0 C.1 M.1 ∧ zDd [] [99999] Z Y dm C.1 M.1 ∧ zThr [(24, 1), (13, 2)] C.2 (M.1 1 0 0 2) M.2 := by
  obtain ⟨r1, r2, d, t⟩ := rf_kept (dm := dm) (zS_R h) (zS_V h) hI hd (zS_D1 h) (zS_D4 h) (zS_N1 h) (zS_N4 h) (zS_Ds h) (zS_Dw h) (zS_Dl h) hC hM
  have fg := zDd_fr d hI hd rfl
  have f : zFa (1115 :: 1116 :: []) 0 Z C.1 ∧ True := ⟨fg.1, trivial⟩
  have g : yFa [99999] Y M.1 ∧ True := ⟨fg.2, trivial⟩
  exact ⟨⟨r1, r2, zD1_f (zS_D1 h) f.1 g.1 ⟨rfl, rfl, rfl⟩, zD4_f (zS_D4 h) f.1 g.1 ⟨⟨rfl, rfl⟩, rfl, rfl, rfl⟩, zN1_f (zS_N1 h) g.1 ⟨rfl, rfl, rfl, rfl⟩, zN4_f (zS_N4 h) g.1 ⟨rfl, rfl, rfl⟩, zN8_f (zS_N8 h) g.1 ⟨rfl, rfl, rfl⟩, zN9_f (zS_N9 h) g.1 ⟨rfl, rfl, rfl⟩, zNL_f (zS_NL h) (zS_V h) g.1 ⟨rfl, rfl, rfl, rfl, rfl⟩, zDl_f (zS_Dl h) f.1 g.1 ⟨rfl, rfl, rfl, rfl, rfl⟩, zDs_f (zS_Ds h) f.1 g.1 ⟨rfl, rfl⟩, zDw_f (zS_Dw h) f.1 g.1 ⟨rfl, rfl⟩, (zFc_at 4000 f.1 rfl rfl rfl).trans (zS_Dg h), zDt_f (zS_Dt h) f.1 g.1 rfl rfl, zFn_f (zS_Fn h) f.1 g.1 ⟨rfl, rfl, rfl, rfl⟩, zNp_f (zS_Np h) (zS_V h) g.1 ⟨rfl, rfl⟩, zNr_f (zS_Nr h) (zS_V h) g.1 ⟨rfl, rfl, rfl⟩, zNi_f (zS_Ni h) (zS_V h) g.1 ⟨rfl, rfl⟩, zNq_f (zS_Nq h) (zS_V h) g.1 ⟨rfl, rfl⟩, zNk_f (zS_Nk h) g.1 rfl, zNt_f (zS_Nt h) (zS_V h) g.1 ⟨rfl, rfl⟩, zDb_f (zS_Db h) f.1 (by decide), zPb_f (zS_Pb h) f.1 (by decide), zKb_f (zS_Kb h) f.1 (by decide)⟩, d, t⟩
theorem rg_pallet {s : zSM} {Z Y : qz_Z} {dm : qz_Z → Int → Int → Int → Int → Int → Int → Int → qz_Z} {a1 a2 : Int}  (h : zAl 0 Z Y) (hZ : zM s Y) (hI : zI none Z) (hd : zDf dm) {C : qz_Z × Int × Int} {M : qz_Z × Int} (hC : zE C (zx_225 Z a1 a2)) (hM : zE M (zy_448 Y a1 a2)) : zAl 0 C.1 M.1 ∧ zDd [] [99999] Z Y dm C.1 M.1 ∧ zThr [(24, 1), (13, 2)] C.2 (M.1 1 0 0 2) M.2 := by
  obtain ⟨r1, r2, d, t⟩ := rf_pallet (dm := dm) (zS_R h) (zS_V h) hI hd (zS_D1 h) (zS_D4 h) (zS_N1 h) (zS_N4 h) (zS_Ds h) (zS_Dw h) (zS_Dl h) hC hM
  have fg := zDd_fr d hI hd rfl
  have f : zFa (1115 :: 1116 :: []) 0 Z C.1 ∧ True := ⟨fg.1, trivial⟩
  have g : yFa [99999] Y M.1 ∧ True := ⟨fg.2, trivial⟩
  exact ⟨⟨r1, r2, zD1_f (zS_D1 h) f.1 g.1 ⟨rfl, rfl, rfl⟩, zD4_f (zS_D4 h) f.1 g.1 ⟨⟨rfl, rfl⟩, rfl, rfl, rfl⟩, zN1_f (zS_N1 h) g.1 ⟨rfl, rfl, rfl, rfl⟩, zN4_f (zS_N4 h) g.1 ⟨rfl, rfl, rfl⟩, zN8_f (zS_N8 h) g.1 ⟨rfl, rfl, rfl⟩, zN9_f (zS_N9 h) g.1 ⟨rfl, rfl, rfl⟩, zNL_f (zS_NL h) (zS_V h) g.1 ⟨rfl, rfl, rfl, rfl, rfl⟩, zDl_f (zS_Dl h) f.1 g.1 ⟨rfl, rfl, rfl, rfl, rfl⟩, zDs_f (zS_Ds h) f.1 g.1 ⟨rfl, rfl⟩, zDw_f (zS_Dw h) f.1 g.1 ⟨rfl, rfl⟩, (zFc_at 4000 f.1 rfl rfl rfl).trans (zS_Dg h), zDt_f (zS_Dt h) f.1 g.1 rfl rfl, zFn_f (zS_Fn h) f.1 g.1 ⟨rfl, rfl, rfl, rfl⟩, zNp_f (zS_Np h) (zS_V h) g.1 ⟨rfl, rfl⟩, zNr_f (zS_Nr h) (zS_V h) g.1 ⟨rfl, rfl, rfl⟩, zNi_f (zS_Ni h) (zS_V h) g.1 ⟨rfl, rfl⟩, zNq_f (zS_Nq h) (zS_V h) g.1 ⟨rfl, rfl⟩, zNk_f (zS_Nk h) g.1 rfl, zNt_f (zS_Nt h) (zS_V h) g.1 ⟨rfl, rfl⟩, zDb_f (zS_Db h) f.1 (by decide), zPb_f (zS_Pb h) f.1 (by decide), zKb_f (zS_Kb h) f.1 (by decide)⟩, d, t⟩
theorem rg_parcel {s : zSM} {Z Y : qz_Z} {dm : qz_Z → Int → Int → Int → Int → Int → Int → Int → qz_Z} {a1 a2 : Int}  (h : zAl 0 Z Y) (hZ : zM s Y) (hI : zI none Z) (hd : zDf dm) {C : qz_Z × Int × Int} {M : qz_Z × Int} (hC : zE C (zx_226 Z a1 a2)) (hM : zE M (zy_449 Y a1 a2)) : zAl 0 C.1 M.1 ∧ zDd [] [99999] Z Y dm C.1 M.1 ∧ zThr [(24, 1), (13, 2)] C.2 (M.1 1 0 0 2) M.2 := by
  obtain ⟨r1, r2, d, t⟩ := rf_parcel (dm := dm) (zS_R h) (zS_V h) hI hd (zS_D1 h) (zS_D4 h) (zS_N1 h) (zS_N4 h) (zS_Ds h) (zS_Dw h) (zS_Dl h) hC hM
  have fg := zDd_fr d hI hd rfl
  have f : zFa (1115 :: 1116 :: []) 0 Z C.1 ∧ True := ⟨fg.1, trivial⟩
  have g : yFa [99999] Y M.1 ∧ True := ⟨fg.2, trivial⟩
  exact ⟨⟨r1, r2, zD1_f (zS_D1 h) f.1 g.1 ⟨rfl, rfl, rfl⟩, zD4_f (zS_D4 h) f.1 g.1 ⟨⟨rfl, rfl⟩, rfl, rfl, rfl⟩, zN1_f (zS_N1 h) g.1 ⟨rfl, rfl, rfl, rfl⟩, zN4_f (zS_N4 h) g.1 ⟨rfl, rfl, rfl⟩, zN8_f (zS_N8 h) g.1 ⟨rfl, rfl, rfl⟩, zN9_f (zS_N9 h) g.1 ⟨rfl, rfl, rfl⟩, zNL_f (zS_NL h) (zS_V h) g.1 ⟨rfl, rfl, rfl, rfl, rfl⟩, zDl_f (zS_Dl h) f.1 g.1 ⟨rfl, rfl, rfl, rfl, rfl⟩, zDs_f (zS_Ds h) f.1 g.1 ⟨rfl, rfl⟩, zDw_f (zS_Dw h) f.1 g.1 ⟨rfl, rfl⟩, (zFc_at 4000 f.1 rfl rfl rfl).trans (zS_Dg h), zDt_f (zS_Dt h) f.1 g.1 rfl rfl, zFn_f (zS_Fn h) f.1 g.1 ⟨rfl, rfl, rfl, rfl⟩, zNp_f (zS_Np h) (zS_V h) g.1 ⟨rfl, rfl⟩, zNr_f (zS_Nr h) (zS_V h) g.1 ⟨rfl, rfl, rfl⟩, zNi_f (zS_Ni h) (zS_V h) g.1 ⟨rfl, rfl⟩, zNq_f (zS_Nq h) (zS_V h) g.1 ⟨rfl, rfl⟩, zNk_f (zS_Nk h) g.1 rfl, zNt_f (zS_Nt h) (zS_V h) g.1 ⟨rfl, rfl⟩, zDb_f (zS_Db h) f.1 (by decide), zPb_f (zS_Pb h) f.1 (by decide), zKb_f (zS_Kb h) f.1 (by decide)⟩, d, t⟩
theorem rg_withdraw {s : zSM} {Z Y : qz_Z} {dm : qz_Z → Int → Int → Int → Int → Int → Int → Int → qz_Z} {a1 : Int}  (h : zAl 0 Z Y) (hZ : zM s Y) (hI : zI none Z) (hd : zDf dm) {C : qz_Z × Int × Int} {M : qz_Z × Int} (hC : zE C (zx_254 Z a1)) (hM : zE M (zy_546 Y dm a1)) : zAl 0 C.1 M.1 ∧ zDd [4410, 4805, 4900] [4410, 4805, 10050, 10051, 10052, 99999] Z Y dm C.1 M.1 ∧ zThr [(24, 1), (15, 2)] C.2 (M.1 1 0 0 2) M.2 := by
  obtain ⟨r1, r2, d, t, pDl, pNL⟩ := rf_withdraw (dm := dm) (zS_R h) (zS_V h) hI hd (zS_D1 h) (zS_D4 h) (zS_N1 h) (zS_N4 h) (zS_Ds h) (zS_Dw h) (zS_Dl h) (zS_NL h) hC hM
  have fg := zDd_fr d hI hd rfl
  have f : zFa (1115 :: 1116 :: [4410, 4805, 4900]) 0 Z C.1 ∧ True := ⟨fg.1, trivial⟩
  have g : yFa [4410, 4805, 10050, 10051, 10052, 99999] Y M.1 ∧ True := ⟨fg.2, trivial⟩
  have eC : C = zx_254 Z a1 := hC
  have eM : M = zy_546 Y dm a1 := hM
  subst eC eM
  exact ⟨⟨r1, r2, zD1_f (zS_D1 h) f.1 g.1 ⟨rfl, rfl, rfl⟩, zD4_f (zS_D4 h) f.1 g.1 ⟨⟨rfl, rfl⟩, rfl, rfl, rfl⟩, zN1_10 (zS_N1 h) (zS_R h) r1 g.1 ⟨rfl, rfl, rfl⟩ (fun _ => z4410_withdraw hI), zN4_f (zS_N4 h) g.1 ⟨rfl, rfl, rfl⟩, zN8_f (zS_N8 h) g.1 ⟨rfl, rfl, rfl⟩, zN9_f (zS_N9 h) g.1 ⟨rfl, rfl, rfl⟩, pNL, pDl, zDs_f (zS_Ds h) f.1 g.1 ⟨rfl, rfl⟩, zDw_f (zS_Dw h) f.1 g.1 ⟨rfl, rfl⟩, (zFc_at 4000 f.1 rfl rfl rfl).trans (zS_Dg h), zDt_f (zS_Dt h) f.1 g.1 rfl rfl, zFn_f (zS_Fn h) f.1 g.1 ⟨rfl, rfl, rfl, rfl⟩, zNp_z (zS_Np h) (zS_R h) (zS_V h) r1 g.1 ⟨rfl, rfl⟩ (fun p j hp => z44_withdraw hI hp), zNr_f (zS_Nr h) (zS_V h) g.1 ⟨rfl, rfl, rfl⟩, zNi_f (zS_Ni h) (zS_V h) g.1 ⟨rfl, rfl⟩, zNq_f (zS_Nq h) (zS_V h) g.1 ⟨rfl, rfl⟩, zNk_f (zS_Nk h) g.1 rfl, zNt_f (zS_Nt h) (zS_V h) g.1 ⟨rfl, rfl⟩, zDb_f (zS_Db h) f.1 (by decide), zPb_f (zS_Pb h) f.1 (by decide), zKb_f (zS_Kb h) f.1 (by decide)⟩, d, t⟩
theorem rg_queue {s : zSM} {Z Y : qz_Z} {dm : qz_Z → Int → Int → Int → Int → Int → Int → Int → qz_Z} {a1 a2 a3 a4 : Int}  (h : zAl 0 Z Y) (hZ : zM s Y) (hI : zI none Z) (hd : zDf dm) {C : qz_Z × Int × Int} {M : qz_Z × Int} (hC : zE C (zx_233 Z a1 a2 a3 a4)) (hM : zE M (zy_459 Y dm a1 a2 a3 a4)) : zAl 0 C.1 M.1 ∧ zDd [4410, 4805, 4900] [4410, 4805, 10050, 10051, 10052, 99999] Z Y dm C.1 M.1 ∧ zThr [(24, 1), (13, 2), (15, 3)] C.2 (M.1 1 0 0 2) M.2 := by
  obtain ⟨r1, r2, d, t, pDl, pNL⟩ := rf_queue (dm := dm) (zS_R h) (zS_V h) hI hd (zS_D1 h) (zS_D4 h) (zS_N1 h) (zS_N4 h) (zS_Ds h) (zS_Dw h) (zS_Dl h) (zS_NL h) (zS_N8 h) hC hM
  have fg := zDd_fr d hI hd rfl
  have f : zFa (1115 :: 1116 :: [4410, 4805, 4900]) 0 Z C.1 ∧ True := ⟨fg.1, trivial⟩
  have g : yFa [4410, 4805, 10050, 10051, 10052, 99999] Y M.1 ∧ True := ⟨fg.2, trivial⟩
  have eC : C = zx_233 Z a1 a2 a3 a4 := hC
  have eM : M = zy_459 Y dm a1 a2 a3 a4 := hM
  subst eC eM
  exact ⟨⟨r1, r2, zD1_f (zS_D1 h) f.1 g.1 ⟨rfl, rfl, rfl⟩, zD4_f (zS_D4 h) f.1 g.1 ⟨⟨rfl, rfl⟩, rfl, rfl, rfl⟩, zN1_10 (zS_N1 h) (zS_R h) r1 g.1 ⟨rfl, rfl, rfl⟩ (fun _ => z4410_queue hI), zN4_f (zS_N4 h) g.1 ⟨rfl, rfl, rfl⟩, zN8_f (zS_N8 h) g.1 ⟨rfl, rfl, rfl⟩, zN9_f (zS_N9 h) g.1 ⟨rfl, rfl, rfl⟩, pNL, pDl, zDs_f (zS_Ds h) f.1 g.1 ⟨rfl, rfl⟩, zDw_f (zS_Dw h) f.1 g.1 ⟨rfl, rfl⟩, (zFc_at 4000 f.1 rfl rfl rfl).trans (zS_Dg h), zDt_f (zS_Dt h) f.1 g.1 rfl rfl, zFn_f (zS_Fn h) f.1 g.1 ⟨rfl, rfl, rfl, rfl⟩, zNp_z (zS_Np h) (zS_R h) (zS_V h) r1 g.1 ⟨rfl, rfl⟩ (fun p j hp => z44_queue hI hp), zNr_f (zS_Nr h) (zS_V h) g.1 ⟨rfl, rfl, rfl⟩, zNi_f (zS_Ni h) (zS_V h) g.1 ⟨rfl, rfl⟩, zNq_f (zS_Nq h) (zS_V h) g.1 ⟨rfl, rfl⟩, zNk_f (zS_Nk h) g.1 rfl, zNt_f (zS_Nt h) (zS_V h) g.1 ⟨rfl, rfl⟩, zDb_f (zS_Db h) f.1 (by decide), zPb_f (zS_Pb h) f.1 (by decide), zKb_f (zS_Kb h) f.1 (by decide)⟩, d, t⟩
theorem rg_inspector {s : zSM} {Z Y : qz_Z} {dm : qz_Z → Int → Int → Int → Int → Int → Int → Int → qz_Z} {a1 a2 : Int}  (h : zAl 0 Z Y) (hZ : zM s Y) (hI : zI none Z) (hd : zDf dm) {C : qz_Z × Int × Int} {M : qz_Z × Int} (hC : zE C (zx_211 Z a1 a2)) (hM : zE M (zy_377 Y dm a1 a2)) : zAl 0 C.1 M.1 ∧ zDd [1109, 5100, 5101, 5107] [1109, 5100, 5101, 5107, 99999] Z Y dm C.1 M.1 ∧ zThr [(13, 1), (15, 2)] C.2 (M.1 1 0 0 2) M.2 := by
  obtain ⟨r1, r2, d, t, pNi⟩ := rf_inspector (dm := dm) (zS_R h) (zS_V h) hI hd (zS_Ni h) hC hM
  have fg := zDd_fr d hI hd rfl
  have f : zFa (1115 :: 1116 :: [1109, 5100, 5101, 5107]) 0 Z C.1 ∧ True := ⟨fg.1, trivial⟩
  have g : yFa [1109, 5100, 5101, 5107, 99999] Y M.1 ∧ True := ⟨fg.2, trivial⟩
  exact ⟨⟨r1, r2, zD1_f (zS_D1 h) f.1 g.1 ⟨rfl, rfl, rfl⟩, zD4_f (zS_D4 h) f.1 g.1 ⟨⟨rfl, rfl⟩, rfl, rfl, rfl⟩, zN1_f (zS_N1 h) g.1 ⟨rfl, rfl, rfl, rfl⟩, zN4_f (zS_N4 h) g.1 ⟨rfl, rfl, rfl⟩, zN8_f (zS_N8 h) g.1 ⟨rfl, rfl, rfl⟩, zN9_f (zS_N9 h) g.1 ⟨rfl, rfl, rfl⟩, zNL_f (zS_NL h) (zS_V h) g.1 ⟨rfl, rfl, rfl, rfl, rfl⟩, zDl_f (zS_Dl h) f.1 g.1 ⟨rfl, rfl, rfl, rfl, rfl⟩, zDs_f (zS_Ds h) f.1 g.1 ⟨rfl, rfl⟩, zDw_f (zS_Dw h) f.1 g.1 ⟨rfl, rfl⟩, (zFc_at 4000 f.1 rfl rfl rfl).trans (zS_Dg h), zDt_f (zS_Dt h) f.1 g.1 rfl rfl, zFn_f (zS_Fn h) f.1 g.1 ⟨rfl, rfl, rfl, rfl⟩, zNp_f (zS_Np h) (zS_V h) g.1 ⟨rfl, rfl⟩, zNr_f (zS_Nr h) (zS_V h) g.1 ⟨rfl, rfl, rfl⟩, pNi, zNq_f (zS_Nq h) (zS_V h) g.1 ⟨rfl, rfl⟩, zNk_f (zS_Nk h) g.1 rfl, zNt_f (zS_Nt h) (zS_V h) g.1 ⟨rfl, rfl⟩, zDb_f (zS_Db h) f.1 (by decide), zPb_f (zS_Pb h) f.1 (by decide), zKb_f (zS_Kb h) f.1 (by decide)⟩, d, t⟩
theorem rg_room {s : zSM} {Z Y : qz_Z} {dm : qz_Z → Int → Int → Int → Int → Int → Int → Int → qz_Z} {a1 a2 a3 : Int}  (h : zAl 0 Z Y) (hZ : zM s Y) (hI : zI none Z) (hd : zDf dm) {C : qz_Z × Int × Int} {M : qz_Z × Int} (hC : zE C (zx_236 Z a1 a2 a3)) (hM : zE M (zy_495 Y dm a1 a2 a3)) : zAl 0 C.1 M.1 ∧ zDd [1102, 4300, 4301, 4302, 4303, 4305, 4310] [1102, 4300, 4301, 4302, 4303, 4305, 99999] Z Y dm C.1 M.1 ∧ zThr [(13, 1), (15, 2)] C.2 (M.1 1 0 0 2) M.2 := by
  obtain ⟨r1, r2, d, t, pNr, pDs⟩ := rf_room (dm := dm) (zS_R h) (zS_V h) hI hd (zS_Nr h) (zS_Ds h) hC hM
  have fg := zDd_fr d hI hd rfl
  have f : zFa (1115 :: 1116 :: [1102, 4300, 4301, 4302, 4303, 4305, 4310]) 0 Z C.1 ∧ True := ⟨fg.1, trivial⟩
  have g : yFa [1102, 4300, 4301, 4302, 4303, 4305, 99999] Y M.1 ∧ True := ⟨fg.2, trivial⟩
  have eC : C = zx_236 Z a1 a2 a3 := hC
  have eM : M = zy_495 Y dm a1 a2 a3 := hM
  subst eC eM
  exact ⟨⟨r1, r2, zD1_f (zS_D1 h) f.1 g.1 ⟨rfl, rfl, rfl⟩, zD4_f (zS_D4 h) f.1 g.1 ⟨⟨rfl, rfl⟩, rfl, rfl, rfl⟩, zN1_f (zS_N1 h) g.1 ⟨rfl, rfl, rfl, rfl⟩, zN4_f (zS_N4 h) g.1 ⟨rfl, rfl, rfl⟩, zN8_2 (zS_N8 h) (zS_R h) r1 g.1 ⟨rfl, rfl⟩ (z11_room hI), zN9_f (zS_N9 h) g.1 ⟨rfl, rfl, rfl⟩, zNL_f (zS_NL h) (zS_V h) g.1 ⟨rfl, rfl, rfl, rfl, rfl⟩, zDl_f (zS_Dl h) f.1 g.1 ⟨rfl, rfl, rfl, rfl, rfl⟩, pDs, zDw_f (zS_Dw h) f.1 g.1 ⟨rfl, rfl⟩, (zFc_at 4000 f.1 rfl rfl rfl).trans (zS_Dg h), zDt_f (zS_Dt h) f.1 g.1 rfl rfl, zFn_f (zS_Fn h) f.1 g.1 ⟨rfl, rfl, rfl, rfl⟩, zNp_f (zS_Np h) (zS_V h) g.1 ⟨rfl, rfl⟩, pNr, zNi_f (zS_Ni h) (zS_V h) g.1 ⟨rfl, rfl⟩, zNq_f (zS_Nq h) (zS_V h) g.1 ⟨rfl, rfl⟩, zNk_f (zS_Nk h) g.1 rfl, zNt_f (zS_Nt h) (zS_V h) g.1 ⟨rfl, rfl⟩, zDb_f (zS_Db h) f.1 (by decide), zPb_f (zS_Pb h) f.1 (by decide), zKb_f (zS_Kb h) f.1 (by decide)⟩, d, t⟩
theorem rg_deliver {s : zSM} {Z Y : qz_Z} {dm : qz_Z → Int → Int → Int → Int → Int → Int → Int → qz_Z} {a1 a2 a3 a4 a5 : Int}  (h : zAl 0 Z Y) (hZ : zM s Y) (hI : zI none Z) (hd : zDf dm) {C : qz_Z × Int × Int} {M : qz_Z × Int} (hC : zE C (zx_195 Z a1 a2 a3 a4 a5)) (hM : zE M (zy_335 Y dm a1 a2 a3 a4 a5)) : zAl 0 C.1 M.1 ∧ zDd [1103, 4400, 4401, 4402, 4403, 4404, 4405, 4407, 4409, 4410, 4412, 4415] [1103, 4400, 4401, 4402, 4403, 4404, 4405, 4407, 4409, 4412, 4415, 99999] Z Y dm C.1 M.1 ∧ zThr [(24, 1), (13, 2), (15, 3)] C.2 (M.1 1 0 0 2) M.2 := by
  obtain ⟨r1, r2, d, t, pNp, pN1, pN8, pNL⟩ := rf_deliver (dm := dm) (zS_R h) (zS_V h) hI hd (zS_Np h) (zS_N1 h) (zS_N8 h) (zS_NL h) hC hM
  have fg := zDd_fr d hI hd rfl
  have f : zFa (1115 :: 1116 :: [1103, 4400, 4401, 4402, 4403, 4404, 4405, 4407, 4409, 4410, 4412, 4415]) 0 Z C.1 ∧ True := ⟨fg.1, trivial⟩
  have g : yFa [1103, 4400, 4401, 4402, 4403, 4404, 4405, 4407, 4409, 4412, 4415, 99999] Y M.1 ∧ True := ⟨fg.2, trivial⟩
  have eC : C = zx_195 Z a1 a2 a3 a4 a5 := hC
  have eM : M = zy_335 Y dm a1 a2 a3 a4 a5 := hM
  subst eC eM
  exact ⟨⟨r1, r2, zD1_f (zS_D1 h) f.1 g.1 ⟨rfl, rfl, rfl⟩, zD4_f (zS_D4 h) f.1 g.1 ⟨⟨rfl, rfl⟩, rfl, rfl, rfl⟩, pN1, zN4_f (zS_N4 h) g.1 ⟨rfl, rfl, rfl⟩, pN8, zN9_3 (zS_N9 h) (zS_R h) r1 g.1 ⟨rfl, rfl⟩ (z11_deliver hI), pNL, zDl_f (zS_Dl h) f.1 g.1 ⟨rfl, rfl, rfl, rfl, rfl⟩, zDs_f (zS_Ds h) f.1 g.1 ⟨rfl, rfl⟩, zDw_f (zS_Dw h) f.1 g.1 ⟨rfl, rfl⟩, (zFc_at 4000 f.1 rfl rfl rfl).trans (zS_Dg h), zDt_f (zS_Dt h) f.1 g.1 rfl rfl, zFn_f (zS_Fn h) f.1 g.1 ⟨rfl, rfl, rfl, rfl⟩, pNp, zNr_f (zS_Nr h) (zS_V h) g.1 ⟨rfl, rfl, rfl⟩, zNi_f (zS_Ni h) (zS_V h) g.1 ⟨rfl, rfl⟩, zNq_f (zS_Nq h) (zS_V h) g.1 ⟨rfl, rfl⟩, zNk_f (zS_Nk h) g.1 rfl, zNt_f (zS_Nt h) (zS_V h) g.1 ⟨rfl, rfl⟩, zDb_f (zS_Db h) f.1 (by decide), zPb_f (zS_Pb h) f.1 (by decide), kb_deliver (zS_Kb h) hI (by rw [zRl_11_0 (a := 100) (zS_R h) rfl]; exact (zVr_11_0 (a := 100) (zS_V h) rfl).2) (fun c48 => by
    have c0 := (zVr_11_3 (a := 102) (zS_V h) rfl).1
    rw [zRl_11_3 (a := 102) (zS_R h) rfl] at c48 ⊢
    rw [zRl_44_7 (x := Y 2 0 0 102) (a := 207 + 20 * Y 2 0 0 102) (zS_R h) c0 c48 rfl]
    exact zS_Np h _ (by omega) (by omega))⟩, d, t⟩
theorem rg_put {s : zSM} {Z Y : qz_Z} {dm : qz_Z → Int → Int → Int → Int → Int → Int → Int → qz_Z} {a1 a2 : Int}  (h : zAl 0 Z Y) (hZ : zM s Y) (hI : zI none Z) (hd : zDf dm) {C : qz_Z × Int × Int} {M : qz_Z × Int} (hC : zE C (zx_230 Z a1 a2)) (hM : zE M (zy_453 Y dm a1 a2)) : zAl 0 C.1 M.1 ∧ zDd [4307, 4412] [4307, 4412, 99999] Z Y dm C.1 M.1 ∧ zThr [(24, 1), (15, 2)] C.2 (M.1 1 0 0 2) M.2 := by
  rw [zx_230e (by rw [zRl_11_2 (a := 1200) (zS_R h) rfl]; exact (zVr_11_2 (a := 1200) (zS_V h) rfl).2)] at hC
  obtain ⟨r1, r2, d, t, pN1, pN8, pNr⟩ := rf_put (dm := dm) (zS_R h) (zS_V h) hI hd (zS_N1 h) (zS_N8 h) (zS_Ds h) (zS_Nr h) hC hM
  have fg := zDd_fr d hI hd rfl
  have f : zFa (1115 :: 1116 :: [4307, 4412]) 0 Z C.1 ∧ True := ⟨fg.1, trivial⟩
  have g : yFa [4307, 4412, 99999] Y M.1 ∧ True := ⟨fg.2, trivial⟩
  have eC : C = zx_9230 Z a1 a2 := hC
  have eM : M = zy_453 Y dm a1 a2 := hM
  subst eC eM
  exact ⟨⟨r1, r2, zD1_f (zS_D1 h) f.1 g.1 ⟨rfl, rfl, rfl⟩, zD4_f (zS_D4 h) f.1 g.1 ⟨⟨rfl, rfl⟩, rfl, rfl, rfl⟩, pN1, zN4_f (zS_N4 h) g.1 ⟨rfl, rfl, rfl⟩, pN8, zN9_f (zS_N9 h) g.1 ⟨rfl, rfl, rfl⟩, zNL_f (zS_NL h) (zS_V h) g.1 ⟨rfl, rfl, rfl, rfl, rfl⟩, zDl_f (zS_Dl h) f.1 g.1 ⟨rfl, rfl, rfl, rfl, rfl⟩, zDs_f (zS_Ds h) f.1 g.1 ⟨rfl, rfl⟩, zDw_f (zS_Dw h) f.1 g.1 ⟨rfl, rfl⟩, (zFc_at 4000 f.1 rfl rfl rfl).trans (zS_Dg h), zDt_f (zS_Dt h) f.1 g.1 rfl rfl, zFn_f (zS_Fn h) f.1 g.1 ⟨rfl, rfl, rfl, rfl⟩, zNp_z (zS_Np h) (zS_R h) (zS_V h) r1 g.1 ⟨rfl, rfl⟩ (fun p j hp => z44_put hI hp), pNr, zNi_f (zS_Ni h) (zS_V h) g.1 ⟨rfl, rfl⟩, zNq_f (zS_Nq h) (zS_V h) g.1 ⟨rfl, rfl⟩, zNk_f (zS_Nk h) g.1 rfl, zNt_f (zS_Nt h) (zS_V h) g.1 ⟨rfl, rfl⟩, zDb_f (zS_Db h) f.1 (by decide), zPb_f (zS_Pb h) f.1 (by decide), zKb_f (zS_Kb h) f.1 (by decide)⟩, d, t⟩
theorem rg_load {s : zSM} {Z Y : qz_Z} {dm : qz_Z → Int → Int → Int → Int → Int → Int → Int → qz_Z} {a1 a2 : Int}  (h : zAl 0 Z Y) (hZ : zM s Y) (hI : zI none Z) (hd : zDf dm) {C : qz_Z × Int × Int} {M : qz_Z × Int} (hC : zE C (zx_215 Z a1 a2)) (hM : zE M (zy_426 Y dm a1 a2)) : zAl 0 C.1 M.1 ∧ zDd [4307, 4410, 4412, 4709, 4710, 4711, 4712, 4714, 4715, 4716] [4307, 4410, 4412, 4709, 4710, 4714, 4715, 4716, 10001, 10002, 99999] Z Y dm C.1 M.1 ∧ zThr [(24, 1), (15, 2)] C.2 (M.1 1 0 0 2) M.2 := by
  rw [zx_215e] at hC
  rw [zy_426e] at hM
  obtain ⟨r1, r2, d, t, pD4, pN4, pN1, pN8, pNL, pNr⟩ := rf_load (dm := dm) (zS_R h) (zS_V h) hI hd (zS_D4 h) (zS_N4 h) (zS_N1 h) (zS_N8 h) (zS_NL h) (zS_Ds h) (zS_Nr h) (zS_N9 h) hC hM
  have fg := zDd_fr d hI hd rfl
  have f : zFa (1115 :: 1116 :: [4307, 4410, 4412, 4709, 4710, 4711, 4712, 4714, 4715, 4716]) 0 Z C.1 ∧ True := ⟨fg.1, trivial⟩
  have g : yFa [4307, 4410, 4412, 4709, 4710, 4714, 4715, 4716, 10001, 10002, 99999] Y M.1 ∧ True := ⟨fg.2, trivial⟩
  have eC : C = zx_9215 Z a1 a2 := hC
  have eM : M = zy_9426 Y dm a1 a2 := hM
  subst eC eM
  have k4 := kb_load (a1 := a1) (a2 := a2) (zS_K4 h) hI
  exact ⟨⟨r1, r2, zD1_f (zS_D1 h) f.1 g.1 ⟨rfl, rfl, rfl⟩, pD4, pN1, pN4, pN8, zN9_f (zS_N9 h) g.1 ⟨rfl, rfl, rfl⟩, pNL, zDl_f (zS_Dl h) f.1 g.1 ⟨rfl, rfl, rfl, rfl, rfl⟩, zDs_f (zS_Ds h) f.1 g.1 ⟨rfl, rfl⟩, zDw_f (zS_Dw h) f.1 g.1 ⟨rfl, rfl⟩, (zFc_at 4000 f.1 rfl rfl rfl).trans (zS_Dg h), zDt_f (zS_Dt h) f.1 g.1 rfl rfl, zFn_f (zS_Fn h) f.1 g.1 ⟨rfl, rfl, rfl, rfl⟩, zNp_z (zS_Np h) (zS_R h) (zS_V h) r1 g.1 ⟨rfl, rfl⟩ (fun p j hp => z44_load hI (zS_Kb h) hp), pNr, zNi_f (zS_Ni h) (zS_V h) g.1 ⟨rfl, rfl⟩, zNq_f (zS_Nq h) (zS_V h) g.1 ⟨rfl, rfl⟩, zNk_f (zS_Nk h) g.1 rfl, zNt_f (zS_Nt h) (zS_V h) g.1 ⟨rfl, rfl⟩, k4.1, k4.2.1, k4.2.2⟩, d, t⟩
theorem rg_dump {s : zSM} {Z Y : qz_Z} {dm : qz_Z → Int → Int → Int → Int → Int → Int → Int → qz_Z} {a1 : Int}  (h : zAl 0 Z Y) (hZ : zM s Y) (hI : zI none Z) (hd : zDf dm) {C : qz_Z × Int × Int} {M : qz_Z × Int} (hC : zE C (zx_198 Z a1)) (hM : zE M (zy_338 Y dm a1)) : zAl 0 C.1 M.1 ∧ zDd [1112, 1400, 4307, 4404, 4405, 4406, 4410, 4412, 4503, 4504, 4511, 4606, 4709, 4711, 4712, 4717, 4719, 4805, 4900, 5300, 5301, 5302, 5303, 5304] [1112, 1400, 4307, 4404, 4405, 4406, 4410, 4412, 4503, 4606, 4709, 4717, 4719, 4805, 5300, 5301, 5302, 5303, 5304, 10001, 10002, 10050, 10051, 10052, 99999] Z Y dm C.1 M.1 ∧ zThr [(24, 1), (15, 2)] C.2 (M.1 1 0 0 2) M.2 := by
  rw [zy_338e] at hM
  obtain ⟨r1, r2, d, t, pD4, pN4, pN1, pN8, pNL, pDl, pNr⟩ := rf_dump (dm := dm) (zS_R h) (zS_V h) hI hd (zS_D1 h) (zS_D4 h) (zS_N4 h) (zS_N1 h) (zS_N8 h) (zS_NL h) (zS_Dl h) (zS_Nr h) hC hM
  have fg := zDd_fr d hI hd rfl
  have f : zFa (1115 :: 1116 :: [1112, 1400, 4307, 4404, 4405, 4406, 4410, 4412, 4503, 4504, 4511, 4606, 4709, 4711, 4712, 4717, 4719, 4805, 4900, 5300, 5301, 5302, 5303, 5304]) 0 Z C.1 ∧ True := ⟨fg.1, trivial⟩
  have g : yFa [1112, 1400, 4307, 4404, 4405, 4406, 4410, 4412, 4503, 4606, 4709, 4717, 4719, 4805, 5300, 5301, 5302, 5303, 5304, 10001, 10002, 10050, 10051, 10052, 99999] Y M.1 ∧ True := ⟨fg.2, trivial⟩
  have eC : C = zx_198 Z a1 := hC
  have eM : M = zy_9338 Y dm a1 := hM
  subst eC eM
  have k4 := kb_dump (a1 := a1) (zS_K4 h) hI
  exact ⟨⟨r1, r2, zD1_f (zS_D1 h) f.1 g.1 ⟨rfl, rfl, rfl⟩, pD4, pN1, pN4, pN8, zN9_f (zS_N9 h) g.1 ⟨rfl, rfl, rfl⟩, pNL, pDl, zDs_f (zS_Ds h) f.1 g.1 ⟨rfl, rfl⟩, zDw_f (zS_Dw h) f.1 g.1 ⟨rfl, rfl⟩, (zFc_at 4000 f.1 rfl rfl rfl).trans (zS_Dg h), zDt_f (zS_Dt h) f.1 g.1 rfl rfl, zFn_f (zS_Fn h) f.1 g.1 ⟨rfl, rfl, rfl, rfl⟩, zNp_z (zS_Np h) (zS_R h) (zS_V h) r1 g.1 ⟨rfl, rfl⟩ (fun p j hp => z44_dump hI hp), pNr, zNi_f (zS_Ni h) (zS_V h) g.1 ⟨rfl, rfl⟩, zNq_f (zS_Nq h) (zS_V h) g.1 ⟨rfl, rfl⟩, zNk_f (zS_Nk h) g.1 rfl, zNt_f (zS_Nt h) (zS_V h) g.1 ⟨rfl, rfl⟩, k4.1, k4.2.1, k4.2.2⟩, d, t⟩
theorem rg_lot {s : zSM} {Z Y : qz_Z} {dm : qz_Z → Int → Int → Int → Int → Int → Int → Int → qz_Z} {a1 a2 a3 : Int}  (h : zAl 0 Z Y) (hZ : zM s Y) (hI : zI none Z) (hd : zDf dm) {C : qz_Z × Int × Int} {M : qz_Z × Int} (hC : zE C (zx_217 Z a1 a2 a3)) (hM : zE M (zy_428 Y a1 a2 a3)) : zAl 0 C.1 M.1 ∧ zDd [] [99999] Z Y dm C.1 M.1 ∧ zThr [(24, 1), (13, 2)] C.2 (M.1 1 0 0 2) M.2 := by
  obtain ⟨r1, r2, d, t⟩ := rf_lot (dm := dm) (zS_R h) (zS_V h) (zS_Dl h) hC hM
  have fg := zDd_fr d hI hd rfl
  have f : zFa (1115 :: 1116 :: []) 0 Z C.1 ∧ True := ⟨fg.1, trivial⟩
  have g : yFa [99999] Y M.1 ∧ True := ⟨fg.2, trivial⟩
  exact ⟨⟨r1, r2, zD1_f (zS_D1 h) f.1 g.1 ⟨rfl, rfl, rfl⟩, zD4_f (zS_D4 h) f.1 g.1 ⟨⟨rfl, rfl⟩, rfl, rfl, rfl⟩, zN1_f (zS_N1 h) g.1 ⟨rfl, rfl, rfl, rfl⟩, zN4_f (zS_N4 h) g.1 ⟨rfl, rfl, rfl⟩, zN8_f (zS_N8 h) g.1 ⟨rfl, rfl, rfl⟩, zN9_f (zS_N9 h) g.1 ⟨rfl, rfl, rfl⟩, zNL_f (zS_NL h) (zS_V h) g.1 ⟨rfl, rfl, rfl, rfl, rfl⟩, zDl_f (zS_Dl h) f.1 g.1 ⟨rfl, rfl, rfl, rfl, rfl⟩, zDs_f (zS_Ds h) f.1 g.1 ⟨rfl, rfl⟩, zDw_f (zS_Dw h) f.1 g.1 ⟨rfl, rfl⟩, (zFc_at 4000 f.1 rfl rfl rfl).trans (zS_Dg h), zDt_f (zS_Dt h) f.1 g.1 rfl rfl, zFn_f (zS_Fn h) f.1 g.1 ⟨rfl, rfl, rfl, rfl⟩, zNp_f (zS_Np h) (zS_V h) g.1 ⟨rfl, rfl⟩, zNr_f (zS_Nr h) (zS_V h) g.1 ⟨rfl, rfl, rfl⟩, zNi_f (zS_Ni h) (zS_V h) g.1 ⟨rfl, rfl⟩, zNq_f (zS_Nq h) (zS_V h) g.1 ⟨rfl, rfl⟩, zNk_f (zS_Nk h) g.1 rfl, zNt_f (zS_Nt h) (zS_V h) g.1 ⟨rfl, rfl⟩, zDb_f (zS_Db h) f.1 (by decide), zPb_f (zS_Pb h) f.1 (by decide), zKb_f (zS_Kb h) f.1 (by decide)⟩, d, t⟩
theorem rg_grown {s : zSM} {Z Y : qz_Z} {dm : qz_Z → Int → Int → Int → Int → Int → Int → Int → qz_Z} {a1 a2 : Int}  (h : zAl 0 Z Y) (hZ : zM s Y) (hI : zI none Z) (hd : zDf dm) {C : qz_Z × Int × Int} {M : qz_Z × Int} (hC : zE C (zx_205 Z a1 a2)) (hM : zE M (zy_348 Y a1 a2)) : zAl 0 C.1 M.1 ∧ zDd [] [99999] Z Y dm C.1 M.1 ∧ zThr [(24, 1), (13, 2)] C.2 (M.1 1 0 0 2) M.2 := by
  obtain ⟨r1, r2, d, t⟩ := rf_grown (dm := dm) (zS_R h) (zS_V h) hI hd hC hM
  have fg := zDd_fr d hI hd rfl
  have f : zFa (1115 :: 1116 :: []) 0 Z C.1 ∧ True := ⟨fg.1, trivial⟩
  have g : yFa [99999] Y M.1 ∧ True := ⟨fg.2, trivial⟩
  exact ⟨⟨r1, r2, zD1_f (zS_D1 h) f.1 g.1 ⟨rfl, rfl, rfl⟩, zD4_f (zS_D4 h) f.1 g.1 ⟨⟨rfl, rfl⟩, rfl, rfl, rfl⟩, zN1_f (zS_N1 h) g.1 ⟨rfl, rfl, rfl, rfl⟩, zN4_f (zS_N4 h) g.1 ⟨rfl, rfl, rfl⟩, zN8_f (zS_N8 h) g.1 ⟨rfl, rfl, rfl⟩, zN9_f (zS_N9 h) g.1 ⟨rfl, rfl, rfl⟩, zNL_f (zS_NL h) (zS_V h) g.1 ⟨rfl, rfl, rfl, rfl, rfl⟩, zDl_f (zS_Dl h) f.1 g.1 ⟨rfl, rfl, rfl, rfl, rfl⟩, zDs_f (zS_Ds h) f.1 g.1 ⟨rfl, rfl⟩, zDw_f (zS_Dw h) f.1 g.1 ⟨rfl, rfl⟩, (zFc_at 4000 f.1 rfl rfl rfl).trans (zS_Dg h), zDt_f (zS_Dt h) f.1 g.1 rfl rfl, zFn_f (zS_Fn h) f.1 g.1 ⟨rfl, rfl, rfl, rfl⟩, zNp_f (zS_Np h) (zS_V h) g.1 ⟨rfl, rfl⟩, zNr_f (zS_Nr h) (zS_V h) g.1 ⟨rfl, rfl, rfl⟩, zNi_f (zS_Ni h) (zS_V h) g.1 ⟨rfl, rfl⟩, zNq_f (zS_Nq h) (zS_V h) g.1 ⟨rfl, rfl⟩, zNk_f (zS_Nk h) g.1 rfl, zNt_f (zS_Nt h) (zS_V h) g.1 ⟨rfl, rfl⟩, zDb_f (zS_Db h) f.1 (by decide), zPb_f (zS_Pb h) f.1 (by decide), zKb_f (zS_Kb h) f.1 (by decide)⟩, d, t⟩
theorem rg_owes {s : zSM} {Z Y : qz_Z} {dm : qz_Z → Int → Int → Int → Int → Int → Int → Int → qz_Z} {a1 a2 : Int}  (h : zAl 0 Z Y) (hZ : zM s Y) (hI : zI none Z) (hd : zDf dm) {C : qz_Z × Int × Int} {M : qz_Z × Int} (hC : zE C (zx_224 Z a1 a2)) (hM : zE M (zy_445 Y a1 a2)) : zAl 0 C.1 M.1 ∧ zDd [] [99999] Z Y dm C.1 M.1 ∧ zThr [(24, 1), (13, 2)] C.2 (M.1 1 0 0 2) M.2 := by
  obtain ⟨r1, r2, d, t⟩ := rf_owes (dm := dm) (zS_R h) (zS_V h) (zS_Db h) hC hM
  have fg := zDd_fr d hI hd rfl
  have f : zFa (1115 :: 1116 :: []) 0 Z C.1 ∧ True := ⟨fg.1, trivial⟩
  have g : yFa [99999] Y M.1 ∧ True := ⟨fg.2, trivial⟩
  exact ⟨⟨r1, r2, zD1_f (zS_D1 h) f.1 g.1 ⟨rfl, rfl, rfl⟩, zD4_f (zS_D4 h) f.1 g.1 ⟨⟨rfl, rfl⟩, rfl, rfl, rfl⟩, zN1_f (zS_N1 h) g.1 ⟨rfl, rfl, rfl, rfl⟩, zN4_f (zS_N4 h) g.1 ⟨rfl, rfl, rfl⟩, zN8_f (zS_N8 h) g.1 ⟨rfl, rfl, rfl⟩, zN9_f (zS_N9 h) g.1 ⟨rfl, rfl, rfl⟩, zNL_f (zS_NL h) (zS_V h) g.1 ⟨rfl, rfl, rfl, rfl, rfl⟩, zDl_f (zS_Dl h) f.1 g.1 ⟨rfl, rfl, rfl, rfl, rfl⟩, zDs_f (zS_Ds h) f.1 g.1 ⟨rfl, rfl⟩, zDw_f (zS_Dw h) f.1 g.1 ⟨rfl, rfl⟩, (zFc_at 4000 f.1 rfl rfl rfl).trans (zS_Dg h), zDt_f (zS_Dt h) f.1 g.1 rfl rfl, zFn_f (zS_Fn h) f.1 g.1 ⟨rfl, rfl, rfl, rfl⟩, zNp_f (zS_Np h) (zS_V h) g.1 ⟨rfl, rfl⟩, zNr_f (zS_Nr h) (zS_V h) g.1 ⟨rfl, rfl, rfl⟩, zNi_f (zS_Ni h) (zS_V h) g.1 ⟨rfl, rfl⟩, zNq_f (zS_Nq h) (zS_V h) g.1 ⟨rfl, rfl⟩, zNk_f (zS_Nk h) g.1 rfl, zNt_f (zS_Nt h) (zS_V h) g.1 ⟨rfl, rfl⟩, zDb_f (zS_Db h) f.1 (by decide), zPb_f (zS_Pb h) f.1 (by decide), zKb_f (zS_Kb h) f.1 (by decide)⟩, d, t⟩
theorem rg_ordered {s : zSM} {Z Y : qz_Z} {dm : qz_Z → Int → Int → Int → Int → Int → Int → Int → qz_Z} {a1 a2 : Int}  (h : zAl 0 Z Y) (hZ : zM s Y) (hI : zI none Z) (hd : zDf dm) {C : qz_Z × Int × Int} {M : qz_Z × Int} (hC : zE C (zx_221 Z a1 a2)) (hM : zE M (zy_442 Y a1 a2)) : zAl 0 C.1 M.1 ∧ zDd [] [99999] Z Y dm C.1 M.1 ∧ zThr [(24, 1), (13, 2)] C.2 (M.1 1 0 0 2) M.2 := by
  obtain ⟨r1, r2, d, t⟩ := rf_ordered (dm := dm) (zS_R h) (zS_V h) (zS_Db h) hC hM
  have fg := zDd_fr d hI hd rfl
  have f : zFa (1115 :: 1116 :: []) 0 Z C.1 ∧ True := ⟨fg.1, trivial⟩
  have g : yFa [99999] Y M.1 ∧ True := ⟨fg.2, trivial⟩
  exact ⟨⟨r1, r2, zD1_f (zS_D1 h) f.1 g.1 ⟨rfl, rfl, rfl⟩, zD4_f (zS_D4 h) f.1 g.1 ⟨⟨rfl, rfl⟩, rfl, rfl, rfl⟩, zN1_f (zS_N1 h) g.1 ⟨rfl, rfl, rfl, rfl⟩, zN4_f (zS_N4 h) g.1 ⟨rfl, rfl, rfl⟩, zN8_f (zS_N8 h) g.1 ⟨rfl, rfl, rfl⟩, zN9_f (zS_N9 h) g.1 ⟨rfl, rfl, rfl⟩, zNL_f (zS_NL h) (zS_V h) g.1 ⟨rfl, rfl, rfl, rfl, rfl⟩, zDl_f (zS_Dl h) f.1 g.1 ⟨rfl, rfl, rfl, rfl, rfl⟩, zDs_f (zS_Ds h) f.1 g.1 ⟨rfl, rfl⟩, zDw_f (zS_Dw h) f.1 g.1 ⟨rfl, rfl⟩, (zFc_at 4000 f.1 rfl rfl rfl).trans (zS_Dg h), zDt_f (zS_Dt h) f.1 g.1 rfl rfl, zFn_f (zS_Fn h) f.1 g.1 ⟨rfl, rfl, rfl, rfl⟩, zNp_f (zS_Np h) (zS_V h) g.1 ⟨rfl, rfl⟩, zNr_f (zS_Nr h) (zS_V h) g.1 ⟨rfl, rfl, rfl⟩, zNi_f (zS_Ni h) (zS_V h) g.1 ⟨rfl, rfl⟩, zNq_f (zS_Nq h) (zS_V h) g.1 ⟨rfl, rfl⟩, zNk_f (zS_Nk h) g.1 rfl, zNt_f (zS_Nt h) (zS_V h) g.1 ⟨rfl, rfl⟩, zDb_f (zS_Db h) f.1 (by decide), zPb_f (zS_Pb h) f.1 (by decide), zKb_f (zS_Kb h) f.1 (by decide)⟩, d, t⟩
theorem rg_taker {s : zSM} {Z Y : qz_Z} {dm : qz_Z → Int → Int → Int → Int → Int → Int → Int → qz_Z} {a1 a2 : Int}  (h : zAl 0 Z Y) (hZ : zM s Y) (hI : zI none Z) (hd : zDf dm) {C : qz_Z × Int × Int} {M : qz_Z × Int} (hC : zE C (zx_245 Z a1 a2)) (hM : zE M (zy_532 Y a1 a2)) : zAl 0 C.1 M.1 ∧ zDd [] [99999] Z Y dm C.1 M.1 ∧ zThr [(24, 1), (13, 2)] C.2 (M.1 1 0 0 2) M.2 := by
  obtain ⟨r1, r2, d, t⟩ := rf_taker (dm := dm) (zS_R h) (zS_V h) hI hd (zS_Db h) (zS_N1 h) hC hM
  have fg := zDd_fr d hI hd rfl
  have f : zFa (1115 :: 1116 :: []) 0 Z C.1 ∧ True := ⟨fg.1, trivial⟩
  have g : yFa [99999] Y M.1 ∧ True := ⟨fg.2, trivial⟩
  exact ⟨⟨r1, r2, zD1_f (zS_D1 h) f.1 g.1 ⟨rfl, rfl, rfl⟩, zD4_f (zS_D4 h) f.1 g.1 ⟨⟨rfl, rfl⟩, rfl, rfl, rfl⟩, zN1_f (zS_N1 h) g.1 ⟨rfl, rfl, rfl, rfl⟩, zN4_f (zS_N4 h) g.1 ⟨rfl, rfl, rfl⟩, zN8_f (zS_N8 h) g.1 ⟨rfl, rfl, rfl⟩, zN9_f (zS_N9 h) g.1 ⟨rfl, rfl, rfl⟩, zNL_f (zS_NL h) (zS_V h) g.1 ⟨rfl, rfl, rfl, rfl, rfl⟩, zDl_f (zS_Dl h) f.1 g.1 ⟨rfl, rfl, rfl, rfl, rfl⟩, zDs_f (zS_Ds h) f.1 g.1 ⟨rfl, rfl⟩, zDw_f (zS_Dw h) f.1 g.1 ⟨rfl, rfl⟩, (zFc_at 4000 f.1 rfl rfl rfl).trans (zS_Dg h), zDt_f (zS_Dt h) f.1 g.1 rfl rfl, zFn_f (zS_Fn h) f.1 g.1 ⟨rfl, rfl, rfl, rfl⟩, zNp_f (zS_Np h) (zS_V h) g.1 ⟨rfl, rfl⟩, zNr_f (zS_Nr h) (zS_V h) g.1 ⟨rfl, rfl, rfl⟩, zNi_f (zS_Ni h) (zS_V h) g.1 ⟨rfl, rfl⟩, zNq_f (zS_Nq h) (zS_V h) g.1 ⟨rfl, rfl⟩, zNk_f (zS_Nk h) g.1 rfl, zNt_f (zS_Nt h) (zS_V h) g.1 ⟨rfl, rfl⟩, zDb_f (zS_Db h) f.1 (by decide), zPb_f (zS_Pb h) f.1 (by decide), zKb_f (zS_Kb h) f.1 (by decide)⟩, d, t⟩
theorem rg_looked {s : zSM} {Z Y : qz_Z} {dm : qz_Z → Int → Int → Int → Int → Int → Int → Int → qz_Z} {a1 a2 : Int}  (h : zAl 0 Z Y) (hZ : zM s Y) (hI : zI none Z) (hd : zDf dm) {C : qz_Z × Int × Int} {M : qz_Z × Int} (hC : zE C (zx_216 Z a1 a2)) (hM : zE M (zy_427 Y a1 a2)) : zAl 0 C.1 M.1 ∧ zDd [] [99999] Z Y dm C.1 M.1 ∧ zThr [(24, 1), (13, 2)] C.2 (M.1 1 0 0 2) M.2 := by
  obtain ⟨r1, r2, d, t⟩ := rf_looked (dm := dm) (zS_R h) (zS_V h) (zS_Nk h) hC hM
  have fg := zDd_fr d hI hd rfl
  have f : zFa (1115 :: 1116 :: []) 0 Z C.1 ∧ True := ⟨fg.1, trivial⟩
  have g : yFa [99999] Y M.1 ∧ True := ⟨fg.2, trivial⟩
  exact ⟨⟨r1, r2, zD1_f (zS_D1 h) f.1 g.1 ⟨rfl, rfl, rfl⟩, zD4_f (zS_D4 h) f.1 g.1 ⟨⟨rfl, rfl⟩, rfl, rfl, rfl⟩, zN1_f (zS_N1 h) g.1 ⟨rfl, rfl, rfl, rfl⟩, zN4_f (zS_N4 h) g.1 ⟨rfl, rfl, rfl⟩, zN8_f (zS_N8 h) g.1 ⟨rfl, rfl, rfl⟩, zN9_f (zS_N9 h) g.1 ⟨rfl, rfl, rfl⟩, zNL_f (zS_NL h) (zS_V h) g.1 ⟨rfl, rfl, rfl, rfl, rfl⟩, zDl_f (zS_Dl h) f.1 g.1 ⟨rfl, rfl, rfl, rfl, rfl⟩, zDs_f (zS_Ds h) f.1 g.1 ⟨rfl, rfl⟩, zDw_f (zS_Dw h) f.1 g.1 ⟨rfl, rfl⟩, (zFc_at 4000 f.1 rfl rfl rfl).trans (zS_Dg h), zDt_f (zS_Dt h) f.1 g.1 rfl rfl, zFn_f (zS_Fn h) f.1 g.1 ⟨rfl, rfl, rfl, rfl⟩, zNp_f (zS_Np h) (zS_V h) g.1 ⟨rfl, rfl⟩, zNr_f (zS_Nr h) (zS_V h) g.1 ⟨rfl, rfl, rfl⟩, zNi_f (zS_Ni h) (zS_V h) g.1 ⟨rfl, rfl⟩, zNq_f (zS_Nq h) (zS_V h) g.1 ⟨rfl, rfl⟩, zNk_f (zS_Nk h) g.1 rfl, zNt_f (zS_Nt h) (zS_V h) g.1 ⟨rfl, rfl⟩, zDb_f (zS_Db h) f.1 (by decide), zPb_f (zS_Pb h) f.1 (by decide), zKb_f (zS_Kb h) f.1 (by decide)⟩, d, t⟩
theorem rg_quarrel {s : zSM} {Z Y : qz_Z} {dm : qz_Z → Int → Int → Int → Int → Int → Int → Int → qz_Z} {a1 a2 : Int}  (h : zAl 0 Z Y) (hZ : zM s Y) (hI : zI none Z) (hd : zDf dm) {C : qz_Z × Int × Int} {M : qz_Z × Int} (hC : zE C (zx_231 Z a1 a2)) (hM : zE M (zy_457 Y dm a1 a2)) : zAl 0 C.1 M.1 ∧ zDd [1110, 5400, 5401, 5402, 5407] [1110, 5400, 5401, 5407, 99999] Z Y dm C.1 M.1 ∧ zThr [(24, 1), (13, 2), (15, 3)] C.2 (M.1 1 0 0 2) M.2 := by
  obtain ⟨r1, r2, d, t, pNq⟩ := rf_quarrel (dm := dm) (zS_R h) (zS_V h) hI hd (zS_Nq h) hC hM
  have fg := zDd_fr d hI hd rfl
  have f : zFa (1115 :: 1116 :: [1110, 5400, 5401, 5402, 5407]) 0 Z C.1 ∧ True := ⟨fg.1, trivial⟩
  have g : yFa [1110, 5400, 5401, 5407, 99999] Y M.1 ∧ True := ⟨fg.2, trivial⟩
  have eC : C = zx_231 Z a1 a2 := hC
  have eM : M = zy_457 Y dm a1 a2 := hM
  subst eC eM
  have k4 := kb_quarrel (a1 := a1) (a2 := a2) (zS_K4 h) hI
  exact ⟨⟨r1, r2, zD1_f (zS_D1 h) f.1 g.1 ⟨rfl, rfl, rfl⟩, zD4_f (zS_D4 h) f.1 g.1 ⟨⟨rfl, rfl⟩, rfl, rfl, rfl⟩, zN1_f (zS_N1 h) g.1 ⟨rfl, rfl, rfl, rfl⟩, zN4_f (zS_N4 h) g.1 ⟨rfl, rfl, rfl⟩, zN8_f (zS_N8 h) g.1 ⟨rfl, rfl, rfl⟩, zN9_f (zS_N9 h) g.1 ⟨rfl, rfl, rfl⟩, zNL_f (zS_NL h) (zS_V h) g.1 ⟨rfl, rfl, rfl, rfl, rfl⟩, zDl_f (zS_Dl h) f.1 g.1 ⟨rfl, rfl, rfl, rfl, rfl⟩, zDs_f (zS_Ds h) f.1 g.1 ⟨rfl, rfl⟩, zDw_f (zS_Dw h) f.1 g.1 ⟨rfl, rfl⟩, (zFc_at 4000 f.1 rfl rfl rfl).trans (zS_Dg h), zDt_f (zS_Dt h) f.1 g.1 rfl rfl, zFn_f (zS_Fn h) f.1 g.1 ⟨rfl, rfl, rfl, rfl⟩, zNp_f (zS_Np h) (zS_V h) g.1 ⟨rfl, rfl⟩, zNr_f (zS_Nr h) (zS_V h) g.1 ⟨rfl, rfl, rfl⟩, zNi_f (zS_Ni h) (zS_V h) g.1 ⟨rfl, rfl⟩, pNq, zNk_f (zS_Nk h) g.1 rfl, zNt_f (zS_Nt h) (zS_V h) g.1 ⟨rfl, rfl⟩, zDb_f (zS_Db h) f.1 (by decide), k4.2.1, k4.2.2⟩, d, t⟩
theorem rg_round {s : zSM} {Z Y : qz_Z} {dm : qz_Z → Int → Int → Int → Int → Int → Int → Int → qz_Z} {a1 a2 a3 : Int}  (h : zAl 0 Z Y) (hZ : zM s Y) (hI : zI none Z) (hd : zDf dm) {C : qz_Z × Int × Int} {M : qz_Z × Int} (hC : zE C (zx_237 Z a1 a2 a3)) (hM : zE M (zy_496 Y dm a1 a2 a3)) : zAl 0 C.1 M.1 ∧ zDd [5102, 5103] [5102, 5103, 99999] Z Y dm C.1 M.1 ∧ zThr [(24, 1), (13, 2)] C.2 (M.1 1 0 0 2) M.2 := by
  obtain ⟨r1, r2, d, t, pNk⟩ := rf_round (dm := dm) (zS_R h) (zS_V h) hI hd (zS_Nk h) hC hM
  have fg := zDd_fr d hI hd rfl
  have f : zFa (1115 :: 1116 :: [5102, 5103]) 0 Z C.1 ∧ True := ⟨fg.1, trivial⟩
  have g : yFa [5102, 5103, 99999] Y M.1 ∧ True := ⟨fg.2, trivial⟩
  have eC : C = zx_237 Z a1 a2 a3 := hC
  have eM : M = zy_496 Y dm a1 a2 a3 := hM
  subst eC eM
  exact ⟨⟨r1, r2, zD1_f (zS_D1 h) f.1 g.1 ⟨rfl, rfl, rfl⟩, zD4_f (zS_D4 h) f.1 g.1 ⟨⟨rfl, rfl⟩, rfl, rfl, rfl⟩, zN1_f (zS_N1 h) g.1 ⟨rfl, rfl, rfl, rfl⟩, zN4_f (zS_N4 h) g.1 ⟨rfl, rfl, rfl⟩, zN8_f (zS_N8 h) g.1 ⟨rfl, rfl, rfl⟩, zN9_f (zS_N9 h) g.1 ⟨rfl, rfl, rfl⟩, zNL_f (zS_NL h) (zS_V h) g.1 ⟨rfl, rfl, rfl, rfl, rfl⟩, zDl_f (zS_Dl h) f.1 g.1 ⟨rfl, rfl, rfl, rfl, rfl⟩, zDs_f (zS_Ds h) f.1 g.1 ⟨rfl, rfl⟩, zDw_f (zS_Dw h) f.1 g.1 ⟨rfl, rfl⟩, (zFc_at 4000 f.1 rfl rfl rfl).trans (zS_Dg h), zDt_f (zS_Dt h) f.1 g.1 rfl rfl, zFn_f (zS_Fn h) f.1 g.1 ⟨rfl, rfl, rfl, rfl⟩, zNp_f (zS_Np h) (zS_V h) g.1 ⟨rfl, rfl⟩, zNr_f (zS_Nr h) (zS_V h) g.1 ⟨rfl, rfl, rfl⟩, zNi_z (zS_Ni h) (zS_R h) (zS_V h) r1 g.1 ⟨rfl, rfl⟩ (fun p j hp => z51_round hI hp), zNq_f (zS_Nq h) (zS_V h) g.1 ⟨rfl, rfl⟩, pNk, zNt_f (zS_Nt h) (zS_V h) g.1 ⟨rfl, rfl⟩, zDb_f (zS_Db h) f.1 (by decide), zPb_f (zS_Pb h) f.1 (by decide), zKb_f (zS_Kb h) f.1 (by decide)⟩, d, t⟩
theorem rg_pay {s : zSM} {Z Y : qz_Z} {dm : qz_Z → Int → Int → Int → Int → Int → Int → Int → qz_Z} {a1 a2 : Int}  (h : zAl 0 Z Y) (hZ : zM s Y) (hI : zI none Z) (hd : zDf dm) {C : qz_Z × Int × Int} {M : qz_Z × Int} (hC : zE C (zx_228 Z a1 a2)) (hM : zE M (zy_451 Y dm a1 a2)) : zAl 0 C.1 M.1 ∧ zDd [1112, 1400, 4503, 4512, 5300, 5301, 5302, 5303, 5304] [1112, 1400, 4503, 4512, 5300, 5301, 5302, 5303, 5304, 99999] Z Y dm C.1 M.1 ∧ zThr [(24, 1), (13, 2), (15, 3)] C.2 (M.1 1 0 0 2) M.2 := by
  rw [zy_451e (zS_V h) (fun c0 c1 => zPb_y (zS_Pb h) (zS_R h) c0 c1)] at hM
  obtain ⟨r1, r2, d, t⟩ := rf_pay (dm := dm) (zS_R h) (zS_V h) hI hd (zS_Pb h) hC hM
  have fg := zDd_fr d hI hd rfl
  have f : zFa (1115 :: 1116 :: [1112, 1400, 4503, 4512, 5300, 5301, 5302, 5303, 5304]) 0 Z C.1 ∧ True := ⟨fg.1, trivial⟩
  have g : yFa [1112, 1400, 4503, 4512, 5300, 5301, 5302, 5303, 5304, 99999] Y M.1 ∧ True := ⟨fg.2, trivial⟩
  have eC : C = zx_228 Z a1 a2 := hC
  have eM : M = zy_9451 Y dm a1 a2 := hM
  subst eC eM
  exact ⟨⟨r1, r2, zD1_f (zS_D1 h) f.1 g.1 ⟨rfl, rfl, rfl⟩, zD4_f (zS_D4 h) f.1 g.1 ⟨⟨rfl, rfl⟩, rfl, rfl, rfl⟩, zN1_f (zS_N1 h) g.1 ⟨rfl, rfl, rfl, rfl⟩, zN4_f (zS_N4 h) g.1 ⟨rfl, rfl, rfl⟩, zN8_f (zS_N8 h) g.1 ⟨rfl, rfl, rfl⟩, zN9_f (zS_N9 h) g.1 ⟨rfl, rfl, rfl⟩, zNL_f (zS_NL h) (zS_V h) g.1 ⟨rfl, rfl, rfl, rfl, rfl⟩, zDl_f (zS_Dl h) f.1 g.1 ⟨rfl, rfl, rfl, rfl, rfl⟩, zDs_f (zS_Ds h) f.1 g.1 ⟨rfl, rfl⟩, zDw_f (zS_Dw h) f.1 g.1 ⟨rfl, rfl⟩, (zFc_at 4000 f.1 rfl rfl rfl).trans (zS_Dg h), zDt_f (zS_Dt h) f.1 g.1 rfl rfl, zFn_f (zS_Fn h) f.1 g.1 ⟨rfl, rfl, rfl, rfl⟩, zNp_f (zS_Np h) (zS_V h) g.1 ⟨rfl, rfl⟩, zNr_f (zS_Nr h) (zS_V h) g.1 ⟨rfl, rfl, rfl⟩, zNi_f (zS_Ni h) (zS_V h) g.1 ⟨rfl, rfl⟩, zNq_f (zS_Nq h) (zS_V h) g.1 ⟨rfl, rfl⟩, zNk_f (zS_Nk h) g.1 rfl, zNt_f (zS_Nt h) (zS_V h) g.1 ⟨rfl, rfl⟩, zDb_f (zS_Db h) f.1 (by decide), pb_pay (zS_Pb h) hI (by rw [zRl_11_4 (a := 1400) (zS_R h) rfl]; exact (zVr_11_4 (a := 1400) (zS_V h) rfl).2), zKb_f (zS_Kb h) f.1 (by decide)⟩, d, t⟩
theorem rg_found {s : zSM} {Z Y : qz_Z} {dm : qz_Z → Int → Int → Int → Int → Int → Int → Int → qz_Z} {a1 a2 : Int}  (h : zAl 0 Z Y) (hZ : zM s Y) (hI : zI none Z) (hd : zDf dm) {C : qz_Z × Int × Int} {M : qz_Z × Int} (hC : zE C (zx_201 Z a1 a2)) (hM : zE M (zy_342 Y a1 a2)) : zAl 0 C.1 M.1 ∧ zDd [] [99999] Z Y dm C.1 M.1 ∧ zThr [(24, 1), (13, 2)] C.2 (M.1 1 0 0 2) M.2 := by
  obtain ⟨r1, r2, d, t⟩ := rf_found (dm := dm) (zS_R h) (zS_V h) (zS_Fn h) hC hM
  have fg := zDd_fr d hI hd rfl
  have f : zFa (1115 :: 1116 :: []) 0 Z C.1 ∧ True := ⟨fg.1, trivial⟩
  have g : yFa [99999] Y M.1 ∧ True := ⟨fg.2, trivial⟩
  exact ⟨⟨r1, r2, zD1_f (zS_D1 h) f.1 g.1 ⟨rfl, rfl, rfl⟩, zD4_f (zS_D4 h) f.1 g.1 ⟨⟨rfl, rfl⟩, rfl, rfl, rfl⟩, zN1_f (zS_N1 h) g.1 ⟨rfl, rfl, rfl, rfl⟩, zN4_f (zS_N4 h) g.1 ⟨rfl, rfl, rfl⟩, zN8_f (zS_N8 h) g.1 ⟨rfl, rfl, rfl⟩, zN9_f (zS_N9 h) g.1 ⟨rfl, rfl, rfl⟩, zNL_f (zS_NL h) (zS_V h) g.1 ⟨rfl, rfl, rfl, rfl, rfl⟩, zDl_f (zS_Dl h) f.1 g.1 ⟨rfl, rfl, rfl, rfl, rfl⟩, zDs_f (zS_Ds h) f.1 g.1 ⟨rfl, rfl⟩, zDw_f (zS_Dw h) f.1 g.1 ⟨rfl, rfl⟩, (zFc_at 4000 f.1 rfl rfl rfl).trans (zS_Dg h), zDt_f (zS_Dt h) f.1 g.1 rfl rfl, zFn_f (zS_Fn h) f.1 g.1 ⟨rfl, rfl, rfl, rfl⟩, zNp_f (zS_Np h) (zS_V h) g.1 ⟨rfl, rfl⟩, zNr_f (zS_Nr h) (zS_V h) g.1 ⟨rfl, rfl, rfl⟩, zNi_f (zS_Ni h) (zS_V h) g.1 ⟨rfl, rfl⟩, zNq_f (zS_Nq h) (zS_V h) g.1 ⟨rfl, rfl⟩, zNk_f (zS_Nk h) g.1 rfl, zNt_f (zS_Nt h) (zS_V h) g.1 ⟨rfl, rfl⟩, zDb_f (zS_Db h) f.1 (by decide), zPb_f (zS_Pb h) f.1 (by decide), zKb_f (zS_Kb h) f.1 (by decide)⟩, d, t⟩
theorem rg_grade {s : zSM} {Z Y : qz_Z} {dm : qz_Z → Int → Int → Int → Int → Int → Int → Int → qz_Z} {a1 a2 a3 a4 : Int}  (h : zAl 0 Z Y) (hZ : zM s Y) (hI : zI none Z) (hd : zDf dm) {C : qz_Z × Int × Int} {M : qz_Z × Int} (hC : zE C (zx_203 Z a1 a2 a3 a4)) (hM : zE M (zy_345 Y dm a1 a2 a3 a4)) : zAl 0 C.1 M.1 ∧ zDd [1112, 1400, 4409, 4414, 4415, 5300, 5301, 5302, 5303, 5304] [1112, 1400, 4409, 4414, 4415, 5300, 5301, 5302, 5303, 5304, 99999] Z Y dm C.1 M.1 ∧ zThr [(24, 1), (13, 2), (15, 3)] C.2 (M.1 1 0 0 2) M.2 := by
  obtain ⟨r1, r2, d, t⟩ := rf_grade (dm := dm) (zS_R h) (zS_V h) hI hd (fun p p0 p1 => by rw [← zRl_44_4 (x := p) (a := 204 + 20 * p) (zS_R h) p0 p1 rfl]; exact ((zS_Kb h).2.1.1 p p0 p1).2.1.2) hC hM
  have fg := zDd_fr d hI hd rfl
  have f : zFa (1115 :: 1116 :: [1112, 1400, 4409, 4414, 4415, 5300, 5301, 5302, 5303, 5304]) 0 Z C.1 ∧ True := ⟨fg.1, trivial⟩
  have g : yFa [1112, 1400, 4409, 4414, 4415, 5300, 5301, 5302, 5303, 5304, 99999] Y M.1 ∧ True := ⟨fg.2, trivial⟩
  have eC : C = zx_203 Z a1 a2 a3 a4 := hC
  have eM : M = zy_345 Y dm a1 a2 a3 a4 := hM
  subst eC eM
  exact ⟨⟨r1, r2, zD1_f (zS_D1 h) f.1 g.1 ⟨rfl, rfl, rfl⟩, zD4_f (zS_D4 h) f.1 g.1 ⟨⟨rfl, rfl⟩, rfl, rfl, rfl⟩, zN1_f (zS_N1 h) g.1 ⟨rfl, rfl, rfl, rfl⟩, zN4_f (zS_N4 h) g.1 ⟨rfl, rfl, rfl⟩, zN8_f (zS_N8 h) g.1 ⟨rfl, rfl, rfl⟩, zN9_f (zS_N9 h) g.1 ⟨rfl, rfl, rfl⟩, zNL_f (zS_NL h) (zS_V h) g.1 ⟨rfl, rfl, rfl, rfl, rfl⟩, zDl_f (zS_Dl h) f.1 g.1 ⟨rfl, rfl, rfl, rfl, rfl⟩, zDs_f (zS_Ds h) f.1 g.1 ⟨rfl, rfl⟩, zDw_f (zS_Dw h) f.1 g.1 ⟨rfl, rfl⟩, (zFc_at 4000 f.1 rfl rfl rfl).trans (zS_Dg h), zDt_f (zS_Dt h) f.1 g.1 rfl rfl, zFn_f (zS_Fn h) f.1 g.1 ⟨rfl, rfl, rfl, rfl⟩, zNp_z (zS_Np h) (zS_R h) (zS_V h) r1 g.1 ⟨rfl, rfl⟩ (fun p j hp => z44_grade hI hp), zNr_f (zS_Nr h) (zS_V h) g.1 ⟨rfl, rfl, rfl⟩, zNi_f (zS_Ni h) (zS_V h) g.1 ⟨rfl, rfl⟩, zNq_f (zS_Nq h) (zS_V h) g.1 ⟨rfl, rfl⟩, zNk_f (zS_Nk h) g.1 rfl, zNt_f (zS_Nt h) (zS_V h) g.1 ⟨rfl, rfl⟩, zDb_f (zS_Db h) f.1 (by decide), zPb_f (zS_Pb h) f.1 (by decide), kb_grade (zS_Kb h) hI⟩, d, t⟩
theorem rg_350 {s : zSM} {Z Y : qz_Z} {dm : qz_Z → Int → Int → Int → Int → Int → Int → Int → qz_Z} {n a1 a2 : Int}  (h : zAl 0 Z Y) (hZ : zM s Y) (hI : zI none Z) (hd : zDf dm) {C : qz_Z × Int × Int} {M : qz_Z × Int} (hC : zE C (zx_207 Z n a1 a2)) (hM : zE M (zy_350 Y a1 a2)) : zAl 0 C.1 M.1 ∧ zDd [] [99999] Z Y dm C.1 M.1 ∧ zThr [(24, 1), (13, 2)] C.2 (M.1 1 0 0 2) M.2 := by
  obtain ⟨r1, r2, d, t⟩ := rf_350 (dm := dm) (zS_R h) (zS_V h) (zS_N4 h) (zS_Dt h) (zS_Dv h hZ) (zS_Dg h) hC hM
  have fg := zDd_fr d hI hd rfl
  have f : zFa (1115 :: 1116 :: []) 0 Z C.1 ∧ True := ⟨fg.1, trivial⟩
  have g : yFa [99999] Y M.1 ∧ True := ⟨fg.2, trivial⟩
  exact ⟨⟨r1, r2, zD1_f (zS_D1 h) f.1 g.1 ⟨rfl, rfl, rfl⟩, zD4_f (zS_D4 h) f.1 g.1 ⟨⟨rfl, rfl⟩, rfl, rfl, rfl⟩, zN1_f (zS_N1 h) g.1 ⟨rfl, rfl, rfl, rfl⟩, zN4_f (zS_N4 h) g.1 ⟨rfl, rfl, rfl⟩, zN8_f (zS_N8 h) g.1 ⟨rfl, rfl, rfl⟩, zN9_f (zS_N9 h) g.1 ⟨rfl, rfl, rfl⟩, zNL_f (zS_NL h) (zS_V h) g.1 ⟨rfl, rfl, rfl, rfl, rfl⟩, zDl_f (zS_Dl h) f.1 g.1 ⟨rfl, rfl, rfl, rfl, rfl⟩, zDs_f (zS_Ds h) f.1 g.1 ⟨rfl, rfl⟩, zDw_f (zS_Dw h) f.1 g.1 ⟨rfl, rfl⟩, (zFc_at 4000 f.1 rfl rfl rfl).trans (zS_Dg h), zDt_f (zS_Dt h) f.1 g.1 rfl rfl, zFn_f (zS_Fn h) f.1 g.1 ⟨rfl, rfl, rfl, rfl⟩, zNp_f (zS_Np h) (zS_V h) g.1 ⟨rfl, rfl⟩, zNr_f (zS_Nr h) (zS_V h) g.1 ⟨rfl, rfl, rfl⟩, zNi_f (zS_Ni h) (zS_V h) g.1 ⟨rfl, rfl⟩, zNq_f (zS_Nq h) (zS_V h) g.1 ⟨rfl, rfl⟩, zNk_f (zS_Nk h) g.1 rfl, zNt_f (zS_Nt h) (zS_V h) g.1 ⟨rfl, rfl⟩, zDb_f (zS_Db h) f.1 (by decide), zPb_f (zS_Pb h) f.1 (by decide), zKb_f (zS_Kb h) f.1 (by decide)⟩, d, t⟩
theorem rg_250 {s : zSM} {Z Y : qz_Z} {dm : qz_Z → Int → Int → Int → Int → Int → Int → Int → qz_Z} {n a1 a2 : Int}  (h : zAl 0 Z Y) (hZ : zM s Y) (hI : zI none Z) (hd : zDf dm) {C : qz_Z × Int × Int} {M : qz_Z × Int} (hC : zE C (zx_250 Z n a1 a2)) (hM : zE M (zy_538 Y a1 a2)) : zAl 0 C.1 M.1 ∧ zDd [] [99999] Z Y dm C.1 M.1 ∧ zThr [(24, 1), (13, 2)] C.2 (M.1 1 0 0 2) M.2 := by
  obtain ⟨r1, r2, d, t⟩ := rf_250 (dm := dm) (zS_R h) (zS_V h) (zS_N4 h) (zS_Dt h) (zS_Dv h hZ) (zS_Dg h) hC hM
  have fg := zDd_fr d hI hd rfl
  have f : zFa (1115 :: 1116 :: []) 0 Z C.1 ∧ True := ⟨fg.1, trivial⟩
  have g : yFa [99999] Y M.1 ∧ True := ⟨fg.2, trivial⟩
  exact ⟨⟨r1, r2, zD1_f (zS_D1 h) f.1 g.1 ⟨rfl, rfl, rfl⟩, zD4_f (zS_D4 h) f.1 g.1 ⟨⟨rfl, rfl⟩, rfl, rfl, rfl⟩, zN1_f (zS_N1 h) g.1 ⟨rfl, rfl, rfl, rfl⟩, zN4_f (zS_N4 h) g.1 ⟨rfl, rfl, rfl⟩, zN8_f (zS_N8 h) g.1 ⟨rfl, rfl, rfl⟩, zN9_f (zS_N9 h) g.1 ⟨rfl, rfl, rfl⟩, zNL_f (zS_NL h) (zS_V h) g.1 ⟨rfl, rfl, rfl, rfl, rfl⟩, zDl_f (zS_Dl h) f.1 g.1 ⟨rfl, rfl, rfl, rfl, rfl⟩, zDs_f (zS_Ds h) f.1 g.1 ⟨rfl, rfl⟩, zDw_f (zS_Dw h) f.1 g.1 ⟨rfl, rfl⟩, (zFc_at 4000 f.1 rfl rfl rfl).trans (zS_Dg h), zDt_f (zS_Dt h) f.1 g.1 rfl rfl, zFn_f (zS_Fn h) f.1 g.1 ⟨rfl, rfl, rfl, rfl⟩, zNp_f (zS_Np h) (zS_V h) g.1 ⟨rfl, rfl⟩, zNr_f (zS_Nr h) (zS_V h) g.1 ⟨rfl, rfl, rfl⟩, zNi_f (zS_Ni h) (zS_V h) g.1 ⟨rfl, rfl⟩, zNq_f (zS_Nq h) (zS_V h) g.1 ⟨rfl, rfl⟩, zNk_f (zS_Nk h) g.1 rfl, zNt_f (zS_Nt h) (zS_V h) g.1 ⟨rfl, rfl⟩, zDb_f (zS_Db h) f.1 (by decide), zPb_f (zS_Pb h) f.1 (by decide), zKb_f (zS_Kb h) f.1 (by decide)⟩, d, t⟩
theorem rg_shares {s : zSM} {Z Y : qz_Z} {dm : qz_Z → Int → Int → Int → Int → Int → Int → Int → qz_Z} {n a1 a2 a3 a4 a5 : Int}  (h : zAl 0 Z Y) (hZ : zM s Y) (hI : zI none Z) (hd : zDf dm) {C : qz_Z × Int × Int} {M : qz_Z × Int} (hC : zE C (zx_241 Z n a1 a2 a3 a4 a5)) (hM : zE M (zy_501 Y a1 a2 a3 a4 a5)) : zAl 0 C.1 M.1 ∧ zDd [] [99999] Z Y dm C.1 M.1 ∧ zThr [(13, 1)] C.2 (M.1 1 0 0 2) M.2 := by
  obtain ⟨r1, r2, d, t⟩ := rf_shares (dm := dm) (zS_R h) (zS_V h) hC hM
  have fg := zDd_fr d hI hd rfl
  have f : zFa (1115 :: 1116 :: []) 0 Z C.1 ∧ True := ⟨fg.1, trivial⟩
  have g : yFa [99999] Y M.1 ∧ True := ⟨fg.2, trivial⟩
  exact ⟨⟨r1, r2, zD1_f (zS_D1 h) f.1 g.1 ⟨rfl, rfl, rfl⟩, zD4_f (zS_D4 h) f.1 g.1 ⟨⟨rfl, rfl⟩, rfl, rfl, rfl⟩, zN1_f (zS_N1 h) g.1 ⟨rfl, rfl, rfl, rfl⟩, zN4_f (zS_N4 h) g.1 ⟨rfl, rfl, rfl⟩, zN8_f (zS_N8 h) g.1 ⟨rfl, rfl, rfl⟩, zN9_f (zS_N9 h) g.1 ⟨rfl, rfl, rfl⟩, zNL_f (zS_NL h) (zS_V h) g.1 ⟨rfl, rfl, rfl, rfl, rfl⟩, zDl_f (zS_Dl h) f.1 g.1 ⟨rfl, rfl, rfl, rfl, rfl⟩, zDs_f (zS_Ds h) f.1 g.1 ⟨rfl, rfl⟩, zDw_f (zS_Dw h) f.1 g.1 ⟨rfl, rfl⟩, (zFc_at 4000 f.1 rfl rfl rfl).trans (zS_Dg h), zDt_f (zS_Dt h) f.1 g.1 rfl rfl, zFn_f (zS_Fn h) f.1 g.1 ⟨rfl, rfl, rfl, rfl⟩, zNp_f (zS_Np h) (zS_V h) g.1 ⟨rfl, rfl⟩, zNr_f (zS_Nr h) (zS_V h) g.1 ⟨rfl, rfl, rfl⟩, zNi_f (zS_Ni h) (zS_V h) g.1 ⟨rfl, rfl⟩, zNq_f (zS_Nq h) (zS_V h) g.1 ⟨rfl, rfl⟩, zNk_f (zS_Nk h) g.1 rfl, zNt_f (zS_Nt h) (zS_V h) g.1 ⟨rfl, rfl⟩, zDb_f (zS_Db h) f.1 (by decide), zPb_f (zS_Pb h) f.1 (by decide), zKb_f (zS_Kb h) f.1 (by decide)⟩, d, t⟩
theorem rg_blame {s : zSM} {Z Y : qz_Z} {dm : qz_Z → Int → Int → Int → Int → Int → Int → Int → qz_Z} {n a1 a2 a3 : Int}  (h : zAl 0 Z Y) (hZ : zM s Y) (hI : zI none Z) (hd : zDf dm) {C : qz_Z × Int × Int} {M : qz_Z × Int} (hC : zE C (zx_190 Z n a1 a2 a3)) (hM : zE M (zy_294 Y a1 a2 a3)) : zAl 0 C.1 M.1 ∧ zDd [] [99999] Z Y dm C.1 M.1 ∧ zThr [(24, 1), (13, 2), (15, 3)] C.2 (M.1 1 0 0 2) M.2 := by
  obtain ⟨r1, r2, d, t⟩ := rf_blame (dm := dm) (zS_R h) (zS_V h) (zS_D1 h) (zS_D4 h) (fun q0 q1 q2 => zS_W h q0 q1 q2) (fun s0 e0 e1 => by rw [← zRl_41_3 (x := s0) (a := 113 + 5 * s0) (zS_R h) e0 (by omega) rfl]; exact ((zS_Kb h).2.1.2.1 s0 e0 (by omega)).2) hC hM
  have fg := zDd_fr d hI hd rfl
  have f : zFa (1115 :: 1116 :: []) 0 Z C.1 ∧ True := ⟨fg.1, trivial⟩
  have g : yFa [99999] Y M.1 ∧ True := ⟨fg.2, trivial⟩
  exact ⟨⟨r1, r2, zD1_f (zS_D1 h) f.1 g.1 ⟨rfl, rfl, rfl⟩, zD4_f (zS_D4 h) f.1 g.1 ⟨⟨rfl, rfl⟩, rfl, rfl, rfl⟩, zN1_f (zS_N1 h) g.1 ⟨rfl, rfl, rfl, rfl⟩, zN4_f (zS_N4 h) g.1 ⟨rfl, rfl, rfl⟩, zN8_f (zS_N8 h) g.1 ⟨rfl, rfl, rfl⟩, zN9_f (zS_N9 h) g.1 ⟨rfl, rfl, rfl⟩, zNL_f (zS_NL h) (zS_V h) g.1 ⟨rfl, rfl, rfl, rfl, rfl⟩, zDl_f (zS_Dl h) f.1 g.1 ⟨rfl, rfl, rfl, rfl, rfl⟩, zDs_f (zS_Ds h) f.1 g.1 ⟨rfl, rfl⟩, zDw_f (zS_Dw h) f.1 g.1 ⟨rfl, rfl⟩, (zFc_at 4000 f.1 rfl rfl rfl).trans (zS_Dg h), zDt_f (zS_Dt h) f.1 g.1 rfl rfl, zFn_f (zS_Fn h) f.1 g.1 ⟨rfl, rfl, rfl, rfl⟩, zNp_f (zS_Np h) (zS_V h) g.1 ⟨rfl, rfl⟩, zNr_f (zS_Nr h) (zS_V h) g.1 ⟨rfl, rfl, rfl⟩, zNi_f (zS_Ni h) (zS_V h) g.1 ⟨rfl, rfl⟩, zNq_f (zS_Nq h) (zS_V h) g.1 ⟨rfl, rfl⟩, zNk_f (zS_Nk h) g.1 rfl, zNt_f (zS_Nt h) (zS_V h) g.1 ⟨rfl, rfl⟩, zDb_f (zS_Db h) f.1 (by decide), zPb_f (zS_Pb h) f.1 (by decide), zKb_f (zS_Kb h) f.1 (by decide)⟩, d, t⟩
