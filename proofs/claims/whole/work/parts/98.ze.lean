/-! TASKS of the reference: the call (535). -/
theorem zM_35 {s : zSM} {Z : qz_Z} {v : Int} (h : zM s Z) (hs : s.1 = none) (hv : 0 ≤ v ∧ v ≤ 1) : zM s (zu Z 1 0 0 35 v) := by
  have e1 : ∀ (k : Nat) b i j, Nat.beq k 1 = false → zu Z 1 0 0 35 v k b i j = Z k b i j := fun k b i j q => zu_ne rfl (fun x => by rw [x.1] at q; cases q)
  refine ⟨⟨⟨fun k b i j hk => ?_, zi32_u h.1.1.2.1 (by omega), fun n hn => ?_, fun hn => ?_⟩, ?_⟩, ?_⟩
  · by_cases c : k = 1 ∧ b = 0 ∧ i = 0 ∧ j = 35
    · obtain ⟨rfl, rfl, rfl, rfl⟩ := c
      have z : zr 1 35 = (0, 1) := rfl
      rw [z, zu_at rfl]
      exact hv
    · rw [show zu Z 1 0 0 35 v k b i j = Z k b i j from if_neg c]
      exact h.1.1.1 k b i j hk
  · rw [hs] at hn
    cases hn
  · rw [hs] at hn
    cases hn
  · refine ⟨fun b => ?_, fun b q => ?_, fun b i => ?_⟩
    · rw [e1 11 _ _ _ rfl, e1 11 _ _ _ rfl]
      exact h.1.2.1 b
    · rw [e1 47 _ _ _ rfl, e1 47 _ _ _ rfl]
      exact h.1.2.2.1 b q
    · rw [e1 43 _ _ _ rfl]
      exact h.1.2.2.2 b i
  · intro p hp
    have hz : ∀ p ∈ zYs, Nat.beq p.1 1 = false := by decide
    exact zYr_s (h.2 p hp) (fun j _ => e1 _ _ _ _ (hz p hp))
/-- the slate is read -/
def yt1 (Z : qz_Z) : Int × (Int → Int) × Int := yFt (fun a => Z 112 0 0 a) (Z 1 0 0 49) (fun j => Z 113 0 0 j)
/-- and has no signs then -/
def yt4 (Z : qz_Z) : qz_Z := zu (zT (zu Z 1 0 0 2 0) (yt1 Z).1 (yt1 Z).2.1) 1 0 0 49 0
/-- held, and quiet -/
def yt6 (Z : qz_Z) : qz_Z := zu (zf_351 (yt4 Z) 1) 1 0 0 35 1
def ytd (Z : qz_Z) : qz_Z × Int := yD (fun a => yt6 Z 112 0 0 a) (Z 1 0 0 49) 122 (zu (yt6 Z) 1 0 0 50 0) 0 1
def yt9 (Z : qz_Z) : qz_Z := zu (zu (ytd Z).1 1 0 0 2 0) 1 0 0 35 0
theorem yF_r {f : Int → Int} {e : Int} : ∀ (m : Nat) (p : Int) (t : Int → Int), e ≤ 120 → 0 ≤ p → p ≤ e → yTr t → yTr (yF f e m p t).2.1 ∧ (0 ≤ (yF f e m p t).1 ∧ (yF f e m p t).1 ≤ 1000) ∧ (-1 ≤ (yF f e m p t).2.2 ∧ (yF f e m p t).2.2 ≤ 1000)
  | 0, p, t, he, h0, h1, h => ⟨h, ⟨h0, by show p ≤ 1000; omega⟩, by show (-1 : Int) ≤ -1; omega, by show (-1 : Int) ≤ 1000; omega⟩
  | m + 1, p, t, he, h0, h1, h => by
    rw [yF_s]
    by_cases q1 : e ≤ p
    · rw [if_pos q1]
      exact ⟨h, ⟨h0, by show p ≤ 1000; omega⟩, by show (-1 : Int) ≤ -1; omega, by show (-1 : Int) ≤ 1000; omega⟩
    rw [if_neg q1]
    have b := yT_b (f := f) (e := e) (p := p) (t := t) (by omega)
    have tr := yT_r (f := f) (e := e) (p := p) h
    by_cases q2 : (yT f e p t).2.2 ≠ 0
    · rw [if_pos q2]
      exact yF_r m _ _ he (by omega) (by omega) tr
    · rw [if_neg q2]
      exact ⟨tr, ⟨by show 0 ≤ (yT f e p t).1; omega, by show (yT f e p t).1 ≤ 1000; omega⟩, by show -1 ≤ (yT f e p t).1; omega, by show (yT f e p t).1 ≤ 1000; omega⟩
theorem yFt_r {f : Int → Int} {e : Int} {t : Int → Int} (he : 0 ≤ e ∧ e ≤ 120) (h : yTr t) : yTr (yFt f e t).2.1 ∧ (0 ≤ (yFt f e t).1 ∧ (yFt f e t).1 ≤ 1000) ∧ (-1 ≤ (yFt f e t).2.2 ∧ (yFt f e t).2.2 ≤ 1000) := by
  unfold yFt
  split
  · exact yF_r 121 0 t he.2 (by omega) he.1 h
  · exact ⟨h, ⟨by show (0 : Int) ≤ 0; omega, by show (0 : Int) ≤ 1000; omega⟩, by show (-1 : Int) ≤ 0; omega, by show (0 : Int) ≤ 1000; omega⟩
theorem yt4_m {s : zSM} {Z : qz_Z} (hZ : zM s Z) : zM s (yt4 Z) ∧ (-1 ≤ (yt1 Z).2.2 ∧ (yt1 Z).2.2 ≤ 1000) := by
  have r49 := zM_k hZ 1 0 0 49 (lo := 0) (hi := 120) (by decide) rfl
  have ht : yTr (fun j => Z 113 0 0 j) := fun j => zM_k hZ 113 0 0 j (lo := -1) (hi := 99999) (by decide) rfl
  obtain ⟨a1, a2, a3⟩ := yFt_r (f := fun a => Z 112 0 0 a) (e := Z 1 0 0 49) r49 ht
  have m1 : zM s (zu Z 1 0 0 2 0) := zM_u hZ rfl (by decide) (lo := -2147483648) (hi := 2147483647) rfl ⟨by omega, by omega⟩ ⟨by decide, by decide⟩ (.inr (by decide)) rfl
  have m2 : zM s (zT (zu Z 1 0 0 2 0) (yt1 Z).1 (yt1 Z).2.1) := zM_T m1 ⟨by have := a2.1; unfold yt1; omega, by have := a2.2; unfold yt1; omega⟩ a1
  exact ⟨zM_u m2 rfl (by decide) (lo := 0) (hi := 120) rfl ⟨by omega, by omega⟩ ⟨by decide, by decide⟩ (.inr (by decide)) rfl, a3⟩
