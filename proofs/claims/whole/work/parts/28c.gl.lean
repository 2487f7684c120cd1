/-! WHAT IS MADE ON THE WAY, counted by the next free number: a cell each, K places at most. -/
def zGl (K : Nat) (ν0 ν : qz_N) : Prop := (∀ k b i j, k ≠ 200 → ν.1 k b i j = ν0.1 k b i j) ∧ (∀ k b i j, k ≠ 200 → ν.2.1 k b i j = ν0.2.1 k b i j) ∧ (∀ n, n < ν0.2.2.2.1 → ν.2.2.1 n = ν0.2.2.1 n) ∧ ν0.2.2.2.1 ≤ ν.2.2.2.1 ∧ ν.2.2.2.2.1 + ν0.2.2.2.1 ≤ ν0.2.2.2.2.1 + ν.2.2.2.1 ∧ ν.2.2.2.2.2 + K * ν0.2.2.2.1 ≤ ν0.2.2.2.2.2 + K * ν.2.2.2.1
theorem zGl_r {K : Nat} {ν : qz_N} : zGl K ν ν := ⟨fun _ _ _ _ _ => rfl, fun _ _ _ _ _ => rfl, fun _ _ => rfl, Nat.le_refl _, Nat.le_refl _, Nat.le_refl _⟩
theorem zGl_al {K : Nat} {ν0 ν ν1 : qz_N} {t c l m : Nat} (h : zGl K ν0 ν) (e : ν1 = nal ν t c l 1 m) (hm : m ≤ K) : zGl K ν0 ν1 := by
  have g := zG_al (zG_r (ν := ν)) (t := t) (c := c) (l := l) (k := 1) (m := m)
  obtain ⟨h1, h2, h3, h4, h5, h6⟩ := h
  subst e
  have n1 : (nal ν t c l 1 m).2.2.2.1 = ν.2.2.2.1 + 1 := rfl
  have n2 := g.2.2.2.2.1
  have n3 := g.2.2.2.2.2
  refine ⟨fun k b i j hk => (g.1 k b i j hk).trans (h1 k b i j hk), fun k b i j hk => (g.2.1 k b i j hk).trans (h2 k b i j hk), fun n hn => (g.2.2.1 n (by omega)).trans (h3 n hn), by omega, by omega, ?_⟩
  rw [n1, Nat.mul_add]
  omega
theorem zGl_t {K : Nat} {ν0 ν ν1 : qz_N} (h : zGl K ν0 ν) (g : zGl K ν ν1) : zGl K ν0 ν1 := by
  obtain ⟨h1, h2, h3, h4, h5, h6⟩ := h
  obtain ⟨g1, g2, g3, g4, g5, g6⟩ := g
  exact ⟨fun k b i j hk => (g1 k b i j hk).trans (h1 k b i j hk), fun k b i j hk => (g2 k b i j hk).trans (h2 k b i j hk), fun n hn => (g3 n (by omega)).trans (h3 n hn), by omega, by omega, by omega⟩
theorem zGl_5 {ν0 ν : qz_N} (h : zGl 5 ν0 ν) : zGl 192 ν0 ν := by
  obtain ⟨h1, h2, h3, h4, h5, h6⟩ := h
  exact ⟨h1, h2, h3, h4, h5, by omega⟩
theorem zGl_l {K : Nat} {ν0 ν : qz_N} {b i j : Nat} {v : Int64} (h : zGl K ν0 ν) : zGl K ν0 (nwl ν 200 b i j v) := ⟨fun k b i j hk => (if_neg (fun q => hk q.1)).trans (h.1 k b i j hk), h.2⟩
theorem zGl_c {K c z s n9 n1 : Nat} {ν0 ν : qz_N} (h : zGl K ν0 ν) (hn : ν0.2.2.2.1 = n9) (hn1 : ν.2.2.2.1 = n1) (hc : n1 ≤ n9 + c) (hz : c ≤ z) (hs : K * c ≤ s) : zG z s ν0 ν := by
  obtain ⟨h1, h2, h3, h4, h5, h6⟩ := h
  have : K * ν.2.2.2.1 ≤ K * ν0.2.2.2.1 + K * c := by rw [← Nat.mul_add]; exact Nat.mul_le_mul (Nat.le_refl _) (by omega)
  exact ⟨h1, h2, h3, h4, by omega, by omega⟩
theorem zSh_Gl {K : Nat} {ν ν1 : qz_N} {x t l : Nat} (h : zSh ν x t l) (g : zGl K ν ν1) : zSh ν1 x t l := ⟨Nat.lt_of_lt_of_le h.1 g.2.2.2.1, (g.2.2.1 x h.1).trans h.2⟩
/-- lots that are well behind a deed's beginning -/
theorem zLt_d {Z Z1 : qz_Z} (h : zLt 0 Z) (d : ∀ {k : Nat} {i j : Int}, zhall k = true → ¬ (k = 11 ∧ (j = 15 ∨ j = 16)) → Z1 k 0 i j = Z k 0 i j) : zLt 0 Z1 := zLt_e h (fun c _ _ => Int.le_of_eq (d rfl (fun q => absurd q.1 (by decide)))) (fun r j => d rfl (fun q => absurd q.1 (by decide)))
