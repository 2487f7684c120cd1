/-! TASKS of the reference: what doing them keeps. -/
theorem yD_m {s : zSM} {f : Int → Int} {e : Int} (ν : qz_N) (he : e ≤ 900000) : ∀ (m c : Nat) (Zc : qz_Z) (d g : Int), zM (zb s c) Zc → Zc 1 0 0 35 = 1 → 0 ≤ Zc 1 0 0 50 → s.2 + c + 123 * m ≤ 1000000000 → zM (zb s (c + 123 * m)) (yD f e m Zc d g).1 ∧ (yD f e m Zc d g).1 1 0 0 35 = 1 ∧ ∀ (k : Nat) b i j, k ≠ 2 → k ≠ 113 → ¬ (k = 1 ∧ (j = 2 ∨ j = 3 ∨ j = 50)) → (yD f e m Zc d g).1 k b i j = Zc k b i j
  | 0, c, Zc, d, g, h, h35, h0, hM => ⟨zmw h (by omega), h35, fun _ _ _ _ _ _ _ => rfl⟩
  | m + 1, c, Zc, d, g, h, h35, h0, hM => by
    have stop : zM (zb s (c + 123 * (m + 1))) (Zc, d).1 ∧ (Zc, d).1 1 0 0 35 = 1 ∧ ∀ (k : Nat) b i j, k ≠ 2 → k ≠ 113 → ¬ (k = 1 ∧ (j = 2 ∨ j = 3 ∨ j = 50)) → (Zc, d).1 k b i j = Zc k b i j := ⟨zmw h (by omega), h35, fun _ _ _ _ _ _ _ => rfl⟩
    rw [yD_s]
    by_cases q1 : g = 0
    · rw [if_pos q1]
      exact stop
    rw [if_neg q1]
    by_cases q2 : e ≤ Zc 1 0 0 50
    · rw [if_pos q2]
      exact stop
    rw [if_neg q2]
    have ht : yTr (fun j => Zc 113 0 0 j) := fun j => zM_k h 113 0 0 j (lo := -1) (hi := 99999) (by decide) rfl
    have b := yT_b (f := f) (e := e) (p := Zc 1 0 0 50) (t := fun j => Zc 113 0 0 j) (by omega)
    have tr := yT_r (f := f) (e := e) (p := Zc 1 0 0 50) ht
    have hO : yO f e Zc = yDo (zT Zc (yT f e (Zc 1 0 0 50) (fun j => Zc 113 0 0 j)).1 (yT f e (Zc 1 0 0 50) (fun j => Zc 113 0 0 j)).2.1) (f (Zc 1 0 0 50)) := rfl
    generalize yT f e (Zc 1 0 0 50) (fun j => Zc 113 0 0 j) = T at b tr hO ⊢
    have mT : zM (zb s c) (zT Zc T.1 T.2.1) := zM_T h ⟨by omega, by omega⟩ tr
    have T35 : zT Zc T.1 T.2.1 1 0 0 35 = 1 := (zT_ne (by decide) (fun q => absurd q.2 (by decide))).trans h35
    have hM2 : (zb s c).2 + 123 ≤ 1000000000 := by
      show s.2 + c + 123 ≤ 1000000000
      omega
    have mD := (yDo_m (l := f (Zc 1 0 0 50)) ν mT T35 hM2).1
    have kD := yDo_k (Z := zT Zc T.1 T.2.1) (l := f (Zc 1 0 0 50))
    rw [← hO] at mD kD
    have mD' : zM (zb s (c + 123)) (yO f e Zc) := zmt mD rfl
    have O50 : yO f e Zc 1 0 0 50 = T.1 := (kD 1 0 0 50 (by decide) (fun q => absurd q.2 (by decide))).trans zT_50
    have O35 : yO f e Zc 1 0 0 35 = 1 := (kD 1 0 0 35 (by decide) (fun q => absurd q.2 (by decide))).trans T35
    have Ok : ∀ (k : Nat) b i j, k ≠ 2 → k ≠ 113 → ¬ (k = 1 ∧ (j = 2 ∨ j = 3 ∨ j = 50)) → yO f e Zc k b i j = Zc k b i j := fun k b i j n1 n2 n3 => (kD k b i j n1 (fun q => n3 ⟨q.1, by rcases q.2 with q | q; exact .inl q; exact .inr (.inl q)⟩)).trans (zT_ne n2 (fun q => n3 ⟨q.1, .inr (.inr q.2)⟩))
    generalize yO f e Zc = O at mD' O50 O35 Ok ⊢
    have rec' : ∀ d g, zM (zb s (c + 123 * (m + 1))) (yD f e m O d g).1 ∧ (yD f e m O d g).1 1 0 0 35 = 1 ∧ ∀ (k : Nat) b i j, k ≠ 2 → k ≠ 113 → ¬ (k = 1 ∧ (j = 2 ∨ j = 3 ∨ j = 50)) → (yD f e m O d g).1 k b i j = Zc k b i j := fun d g => by
      obtain ⟨a1, a2, a3⟩ := yD_m ν he m (c + 123) O d g mD' O35 (by omega) (by omega)
      exact ⟨zmw a1 (by omega), a2, fun k b i j n1 n2 n3 => (a3 k b i j n1 n2 n3).trans (Ok k b i j n1 n2 n3)⟩
    split
    · exact rec' _ _
    split
    · exact rec' _ _
    · exact rec' _ _
