/-! THE REFERENCE, by hand: rows that are kept and brought back; a lot that goes. -/
/-- n numbers of a row from s0 on into another one, from its place d on -/
def zpq (Z : qz_Z) (k : Nat) (b i s0 : Int) (k1 : Nat) (b1 i1 d n : Int) : qz_Z := fun k' b' i' j' => if k' = k1 ∧ b' = b1 ∧ i' = i1 ∧ d ≤ j' ∧ j' < d + n then Z k b i (j' - d + s0) else Z k' b' i' j'
theorem zpq_0 {Z : qz_Z} {k k1 : Nat} {b i s0 b1 i1 d : Int} : zpq Z k b i s0 k1 b1 i1 d 0 = Z := by
  funext k' b' i' j'
  exact if_neg (fun q => by omega)
theorem zpq_s {Z : qz_Z} {k k1 : Nat} {b i s0 b1 i1 d n x y : Int} (hk : k ≠ k1) (hn : 0 ≤ n) (hx : x = d + n) (hy : y = s0 + n) : zpq Z k b i s0 k1 b1 i1 d (n + 1) = zu (zpq Z k b i s0 k1 b1 i1 d n) k1 b1 i1 x (zpq Z k b i s0 k1 b1 i1 d n k b i y) := by
  subst hx hy
  have e : zpq Z k b i s0 k1 b1 i1 d n k b i (s0 + n) = Z k b i (s0 + n) := if_neg (fun q => hk q.1)
  rw [e]
  funext k' b' i' j'
  show (if k' = k1 ∧ b' = b1 ∧ i' = i1 ∧ d ≤ j' ∧ j' < d + (n + 1) then Z k b i (j' - d + s0) else Z k' b' i' j') = (if k' = k1 ∧ b' = b1 ∧ i' = i1 ∧ j' = d + n then Z k b i (s0 + n) else if k' = k1 ∧ b' = b1 ∧ i' = i1 ∧ d ≤ j' ∧ j' < d + n then Z k b i (j' - d + s0) else Z k' b' i' j')
  by_cases c : k' = k1 ∧ b' = b1 ∧ i' = i1
  · obtain ⟨rfl, rfl, rfl⟩ := c
    by_cases q : j' = d + n
    · subst q
      rw [if_pos ⟨rfl, rfl, rfl, by omega, by omega⟩, if_pos ⟨rfl, rfl, rfl, rfl⟩, show d + n - d + s0 = s0 + n by omega]
    · rw [if_neg (c := _ ∧ _ ∧ _ ∧ j' = d + n) (fun h => q h.2.2.2)]
      by_cases g : d ≤ j' ∧ j' < d + n
      · rw [if_pos ⟨rfl, rfl, rfl, g.1, by omega⟩, if_pos ⟨rfl, rfl, rfl, g⟩]
      · rw [if_neg (fun h => g ⟨h.2.2.2.1, by omega⟩), if_neg (fun h => g h.2.2.2)]
  · rw [if_neg (fun h => c ⟨h.1, h.2.1, h.2.2.1⟩), if_neg (fun h => c ⟨h.1, h.2.1, h.2.2.1⟩), if_neg (fun h => c ⟨h.1, h.2.1, h.2.2.1⟩)]
theorem zpq_ne {Z : qz_Z} {k k1 k' : Nat} {b i s0 b1 i1 d n b' i' j' : Int} (hk : k' ≠ k1) : zpq Z k b i s0 k1 b1 i1 d n k' b' i' j' = Z k' b' i' j' := if_neg (fun q => hk q.1)
theorem zr_row {k : Nat} {c x : Int} (h : (k, c) ∈ zYs) (h0 : 0 ≤ x) (h1 : x < 4400) : zr k (4400 * c + x) = zr2 x := by sorry
theorem zYs_d {k : Nat} {c : Int} (h : (k, c) ∈ zYs) : k ≠ 200 ∧ k ≠ 1 ∧ k ≠ 11 ∧ k ≠ 47 ∧ k ≠ 43 ∧ zhall k = false := by
  have : ∀ p ∈ zYs, p.1 ≠ 200 ∧ p.1 ≠ 1 ∧ p.1 ≠ 11 ∧ p.1 ≠ 47 ∧ p.1 ≠ 43 ∧ zhall p.1 = false := by decide
  exact this _ h
/-- a row is copied whole -/
theorem zM_pq {s : zSM} {Z Z1 : qz_Z} {k k1 : Nat} {c c1 s0 d : Int} (h : zM s Z) (hp : (k, c) ∈ zYs) (hq : (k1, c1) ∈ zYs) (hs : s0 = 4400 * c) (hd : d = 4400 * c1) (h1 : Z1 = zpq Z k 0 0 s0 k1 0 0 d 4400) : zM s Z1 := by
  subst h1 hs hd
  obtain ⟨n200, n1, n11, n47, n43, _⟩ := zYs_d hq
  obtain ⟨m200, _, _, _, _, _⟩ := zYs_d hp
  have at1 : ∀ x, 0 ≤ x → x < 4400 → zpq Z k 0 0 (4400 * c) k1 0 0 (4400 * c1) 4400 k1 0 0 (4400 * c1 + x) = Z k 0 0 (4400 * c + x) := fun x h0 h2 => by
    have : zpq Z k 0 0 (4400 * c) k1 0 0 (4400 * c1) 4400 k1 0 0 (4400 * c1 + x) = Z k 0 0 (4400 * c1 + x - 4400 * c1 + 4400 * c) := if_pos ⟨rfl, rfl, rfl, by omega, by omega⟩
    rw [this, show 4400 * c1 + x - 4400 * c1 + 4400 * c = 4400 * c + x by omega]
  have ne1 : ∀ k' b' i' j', ¬ (k' = k1 ∧ b' = 0 ∧ i' = 0 ∧ 4400 * c1 ≤ j' ∧ j' < 4400 * c1 + 4400) → zpq Z k 0 0 (4400 * c) k1 0 0 (4400 * c1) 4400 k' b' i' j' = Z k' b' i' j' := fun k' b' i' j' hn => if_neg hn
  refine ⟨⟨⟨fun k' b' i' j' hk' => ?_, fun k' b' i' j' => ?_, fun n hn => ?_, fun hn => ?_⟩, ?_⟩, ?_⟩
  · by_cases q : k' = k1 ∧ b' = 0 ∧ i' = 0 ∧ 4400 * c1 ≤ j' ∧ j' < 4400 * c1 + 4400
    · obtain ⟨rfl, rfl, rfl, q1, q2⟩ := q
      obtain ⟨x, rfl⟩ : ∃ x, j' = 4400 * c1 + x := ⟨j' - 4400 * c1, by omega⟩
      rw [at1 x (by omega) (by omega), zr_row hq (by omega) (by omega), ← zr_row hp (x := x) (by omega) (by omega)]
      exact h.1.1.1 k 0 0 (4400 * c + x) m200
    · rw [ne1 _ _ _ _ q]; exact h.1.1.1 _ _ _ _ hk'
  · by_cases q : k' = k1 ∧ b' = 0 ∧ i' = 0 ∧ 4400 * c1 ≤ j' ∧ j' < 4400 * c1 + 4400
    · obtain ⟨rfl, rfl, rfl, q1, q2⟩ := q
      obtain ⟨x, rfl⟩ : ∃ x, j' = 4400 * c1 + x := ⟨j' - 4400 * c1, by omega⟩
      rw [at1 x (by omega) (by omega)]; exact h.1.1.2.1 _ _ _ _
    · rw [ne1 _ _ _ _ q]; exact h.1.1.2.1 _ _ _ _
  · have e : ∀ j, zpq Z k 0 0 (4400 * c) k1 0 0 (4400 * c1) 4400 200 n 0 j = Z 200 n 0 j := fun j => ne1 _ _ _ _ (fun q => n200 q.1.symm)
    rw [e, e]; exact h.1.1.2.2.1 n hn
  · rw [ne1 _ _ _ _ (fun q => n1 q.1.symm)]; exact h.1.1.2.2.2 hn
  · have e11 : ∀ b i j, zpq Z k 0 0 (4400 * c) k1 0 0 (4400 * c1) 4400 11 b i j = Z 11 b i j := fun b i j => ne1 _ _ _ _ (fun q => n11 q.1.symm)
    have e47 : ∀ b i j, zpq Z k 0 0 (4400 * c) k1 0 0 (4400 * c1) 4400 47 b i j = Z 47 b i j := fun b i j => ne1 _ _ _ _ (fun q => n47 q.1.symm)
    have e43 : ∀ b i j, zpq Z k 0 0 (4400 * c) k1 0 0 (4400 * c1) 4400 43 b i j = Z 43 b i j := fun b i j => ne1 _ _ _ _ (fun q => n43 q.1.symm)
    refine ⟨fun b => ?_, fun b q => ?_, fun b i => ?_⟩
    · rw [e11, e11]; exact h.1.2.1 b
    · rw [e47, e47]; exact h.1.2.2.1 b q
    · rw [e43]; exact h.1.2.2.2 b i
  · intro p hpp
    obtain ⟨k', c'⟩ := p
    by_cases q : k' = k1 ∧ c' = c1
    · obtain ⟨rfl, rfl⟩ := q
      refine zYr_s (h.2 _ hp) (fun j hj => ?_)
      unfold zsp at hj
      exact at1 j (by omega) (by omega)
    · refine zYr_s (h.2 _ hpp) (fun j hj => ?_)
      unfold zsp at hj
      refine ne1 _ _ _ _ (fun g => ?_)
      have g1 := g.2.2.2.1
      have g2 := g.2.2.2.2
      have : c' = c1 := by omega
      exact q ⟨g.1, this⟩
theorem zC_pq {Z Z0 : qz_Z} {ws : List Nat} {k k1 : Nat} {b i s0 b1 i1 d n : Int} (h : zC ws Z0 Z) (hw : ∀ j, ws.contains (zcl k1 j) = true) : zC ws Z0 (zpq Z k b i s0 k1 b1 i1 d n) := fun k' b' i' j' hk => by
  rw [zpq_ne (fun q => by subst q; rw [hw] at hk; cases hk)]
  exact h k' b' i' j' hk
theorem zU_pq {Z Z0 : qz_Z} {hs : List Int} {k k1 : Nat} {b i s0 b1 i1 d n : Int} (h : zU hs Z0 Z) (hw : zhall k1 = false) : zU hs Z0 (zpq Z k b i s0 k1 b1 i1 d n) := fun k' b' i' j' hk hb => by
  rw [zpq_ne (fun q => by subst q; rw [hw] at hk; cases hk)]
  exact h k' b' i' j' hk hb
def zf_351 (Z : qz_Z) (a1 : Int) : qz_Z := zpq Z 2 0 0 0 81 0 0 (4400 * a1) 4400
theorem sp_351 {s : zSM} {Z : qz_Z} {ν : qz_N} (hZ : zM s Z) {a1 : Int} (ga1 : 0 ≤ a1 ∧ a1 ≤ 1) (hM : s.2 + 0 ≤ 1000000000) : ∃ P : qz_Z, P = zf_351 Z a1 ∧ (qf_351 [.inr (.inr (some (1, 0, 0))), .inl (i3 a1)] (zm Z ν) = some (zm P ν, .inl none) ∧ zM s P ∧ zC [81] Z P ∧ zU [] Z P) := by sorry
def zf_493 (Z : qz_Z) (a1 : Int) : qz_Z := zpq Z 81 0 0 (4400 * a1) 2 0 0 0 4400
theorem sp_493 {s : zSM} {Z : qz_Z} {ν : qz_N} (hZ : zM s Z) {a1 : Int} (ga1 : 0 ≤ a1 ∧ a1 ≤ 1) (hM : s.2 + 0 ≤ 1000000000) : ∃ P : qz_Z, P = zf_493 Z a1 ∧ (qf_493 [.inr (.inr (some (1, 0, 0))), .inl (i3 a1)] (zm Z ν) = some (zm P ν, .inl none) ∧ zM s P ∧ zC [2, 1200] Z P ∧ zU [] Z P) := by sorry