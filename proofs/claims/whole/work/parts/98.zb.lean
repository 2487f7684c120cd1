/-! TASKS of the reference: what is told is in its range; tasks one by one (550). -/
def yI5 (x v : Int) : Prop := 0 ≤ v ∧ 0 ≤ x ∧ ((x = 0 ∧ v ≤ 0) ∨ (x = 1 ∧ v ≤ 9) ∨ (x = 2 ∧ v ≤ 99) ∨ (x = 3 ∧ v ≤ 999) ∨ (x = 4 ∧ v ≤ 9999) ∨ (x = 5 ∧ v ≤ 99999))
theorem ynl_v {f : Int → Int} {e : Int} : ∀ (m : Nat) (p x v : Int), yI5 x v → 0 ≤ (ynl f e m p x v).2.2 ∧ (ynl f e m p x v).2.2 ≤ 99999
  | 0, p, x, v, h => by
    unfold yI5 at h
    show 0 ≤ v ∧ v ≤ 99999
    omega
  | m + 1, p, x, v, h => by
    have h0 : 0 ≤ v ∧ v ≤ 99999 := by
      unfold yI5 at h
      omega
    rw [ynl_s]
    split
    · exact h0
    split
    · exact h0
    split
    · exact h0
    split
    · exact h0
    · refine ynl_v m _ _ _ ?_
      unfold yI5 at h ⊢
      omega
theorem yN_v {f : Int → Int} {e l k p : Int} : -1 ≤ (yN f e l k p).2.1 ∧ (yN f e l k p).2.1 ≤ 99999 := by
  have g : -1 ≤ (yNn f e p).2.1 ∧ (yNn f e p).2.1 ≤ 99999 := by
    have q := ynl_v (f := f) (e := e) 6 p 0 0 (by unfold yI5; omega)
    exact ⟨by show -1 ≤ (ynl f e 6 p 0 0).2.2; omega, q.2⟩
  unfold yN
  repeat' split
  all_goals first
    | exact g
    | exact ⟨by show (-1 : Int) ≤ -1; omega, by show (-1 : Int) ≤ 99999; omega⟩
def yTr (t : Int → Int) : Prop := ∀ j, -1 ≤ t j ∧ t j ≤ 99999
theorem yTr_u {t : Int → Int} {k v : Int} (h : yTr t) (hv : -1 ≤ v ∧ v ≤ 99999) : yTr (zup t k v) := fun j => by
  unfold zup
  split
  · exact hv
  · exact h j
theorem yTl_r {f : Int → Int} {e l n : Int} : ∀ (m : Nat) (p k : Int) (t : Int → Int), yTr t → yTr (yTl f e l n m p k t).2.1
  | 0, p, k, t, h => h
  | m + 1, p, k, t, h => by
    have h1 : yTr (zup t k (yN f e l k p).2.1) := yTr_u h yN_v
    rw [yTl_s]
    split
    · exact h
    split
    · split
      · exact h1
      split
      · split
        · exact yTl_r m _ _ _ h1
        · exact h1
      · split
        · exact yTl_r m _ _ _ h1
        · exact h1
    · exact h1
theorem yT_r {f : Int → Int} {e p : Int} {t : Int → Int} (h : yTr t) : yTr (yT f e p t).2.1 := by
  unfold yT
  split
  · exact yTl_r _ _ _ _ h
  · exact h
theorem zM_T {s : zSM} {Z : qz_Z} {p : Int} {t : Int → Int} (h : zM s Z) (hp : -2147483648 ≤ p ∧ p ≤ 2147483647) (ht : yTr t) : zM s (zT Z p t) := by
  have e1 : ∀ (k : Nat) b i j, (Nat.beq k 113 || Nat.beq k 1) = false → zT Z p t k b i j = Z k b i j := fun k b i j q => zT_ne (fun x => by rw [x] at q; cases q) (fun x => by rw [x.1] at q; cases q)
  refine ⟨⟨⟨fun k b i j hk => ?_, fun k b i j => ?_, fun n hn => ?_, fun hn => ?_⟩, ?_⟩, ?_⟩
  · by_cases c : k = 113 ∧ b = 0 ∧ i = 0
    · obtain ⟨rfl, rfl, rfl⟩ := c
      have z : zr 113 j = (-1, 99999) := rfl
      rw [z, show zT Z p t 113 0 0 j = t j from if_pos ⟨rfl, rfl, rfl⟩]
      exact ht j
    by_cases c2 : k = 1 ∧ b = 0 ∧ i = 0 ∧ j = 50
    · obtain ⟨rfl, rfl, rfl, rfl⟩ := c2
      have z : zr 1 50 = (-2147483648, 2147483647) := rfl
      rw [z, zT_50]
      exact hp
    · rw [show zT Z p t k b i j = Z k b i j from (if_neg c).trans (if_neg c2)]
      exact h.1.1.1 k b i j hk
  · by_cases c : k = 113 ∧ b = 0 ∧ i = 0
    · obtain ⟨rfl, rfl, rfl⟩ := c
      rw [show zT Z p t 113 0 0 j = t j from if_pos ⟨rfl, rfl, rfl⟩]
      have := ht j
      omega
    by_cases c2 : k = 1 ∧ b = 0 ∧ i = 0 ∧ j = 50
    · obtain ⟨rfl, rfl, rfl, rfl⟩ := c2
      rw [zT_50]
      exact hp
    · rw [show zT Z p t k b i j = Z k b i j from (if_neg c).trans (if_neg c2)]
      exact h.1.1.2.1 k b i j
  · rw [e1 200 _ _ _ rfl, e1 200 _ _ _ rfl]
    exact h.1.1.2.2.1 n hn
  · rw [zT_ne (by decide) (fun q => absurd q.2 (by decide))]
    exact h.1.1.2.2.2 hn
  · refine ⟨fun b => ?_, fun b q => ?_, fun b i => ?_⟩
    · rw [e1 11 _ _ _ rfl, e1 11 _ _ _ rfl]
      exact h.1.2.1 b
    · rw [e1 47 _ _ _ rfl, e1 47 _ _ _ rfl]
      exact h.1.2.2.1 b q
    · rw [e1 43 _ _ _ rfl]
      exact h.1.2.2.2 b i
  · intro p hp
    have hz : ∀ p ∈ zYs, (Nat.beq p.1 113 || Nat.beq p.1 1) = false := by decide
    exact zYr_s (h.2 p hp) (fun j _ => e1 _ _ _ _ (hz p hp))
/-- a task leaves all but 2 and what was thrown -/
theorem yDo_k {Z : qz_Z} {l : Int} : ∀ (k : Nat) b i j, k ≠ 2 → ¬ (k = 1 ∧ (j = 2 ∨ j = 3)) → yDo Z l k b i j = Z k b i j := by
  have h0 : kn0 Z Z Z := ⟨fun _ => rfl, fun _ _ _ _ _ _ => rfl⟩
  unfold yDo
  by_cases c100 : l = 100
  · rw [if_pos c100]
    exact (ky_338 (dm := zq0) (dm' := zq0) kdm2_q h0 rfl).1.1.2
  rw [if_neg c100]
  by_cases c103 : l = 103
  · rw [if_pos c103]
    exact (ky_499 (dm := zq0) (dm' := zq0) kdm2_q h0 rfl rfl).1.1.2
  rw [if_neg c103]
  by_cases c108 : l = 108
  · rw [if_pos c108]
    exact (ky_426 (dm := zq0) (dm' := zq0) kdm2_q h0 rfl rfl).1.1.2
  rw [if_neg c108]
  by_cases c112 : l = 112
  · rw [if_pos c112]
    exact (ky_453 (dm := zq0) (dm' := zq0) kdm2_q h0 rfl rfl).1.1.2
  rw [if_neg c112]
  by_cases c113 : l = 113
  · rw [if_pos c113]
    exact (ky_459 (dm := zq0) (dm' := zq0) kdm2_q h0 rfl rfl rfl rfl).1.1.2
  rw [if_neg c113]
  by_cases c119 : l = 119
  · rw [if_pos c119]
    exact (ky_546 (dm := zq0) (dm' := zq0) kdm2_q h0 rfl).1.1.2
  rw [if_neg c119]
  exact (ky_315 (dm := zq0) (dm' := zq0) kdm2_q h0 rfl).1.1.2
