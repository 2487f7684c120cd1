/-- a new pallet, on the floor -/
theorem zN1_put {Y M : qz_Z} {c : Int} (h : zN1 Y) (hc : Y 2 0 0 102 = c) (nm : ∀ p : Int, p ≠ c → M 2 0 0 (210 + 20 * p) = Y 2 0 0 (210 + 20 * p) ∧ M 2 0 0 (211 + 20 * p) = Y 2 0 0 (211 + 20 * p) ∧ M 2 0 0 (204 + 20 * p) = Y 2 0 0 (204 + 20 * p)) (l : M 2 0 0 102 = c + 1) (s0 : M 2 0 0 (210 + 20 * c) = 0) (r6 : M 2 0 0 (211 + 20 * c) = 6) : zN1 M := fun p h0 h1 => by
  by_cases x : p = c
  · rw [x, s0, r6]
    exact ⟨fun u => by omega, fun _ _ => by omega⟩
  · obtain ⟨n1, n2, n3⟩ := nm p x
    rw [n1, n2, n3, l]
    obtain ⟨k1, k2⟩ := h p h0 h1
    exact ⟨k1, fun u v => k2 (by omega) v⟩
theorem zN8_put {Y M : qz_Z} {c : Int} (h : zN8 Y) (hc : Y 2 0 0 102 = c) (nm : ∀ p : Int, p ≠ c → M 2 0 0 (210 + 20 * p) = Y 2 0 0 (210 + 20 * p) ∧ M 2 0 0 (211 + 20 * p) = Y 2 0 0 (211 + 20 * p) ∧ M 2 0 0 (204 + 20 * p) = Y 2 0 0 (204 + 20 * p)) (l : M 2 0 0 102 = c + 1) (r6 : M 2 0 0 (211 + 20 * c) = 6) (ro : M 2 0 0 1200 = Y 2 0 0 1200) : zN8 M := fun p h0 h1 h2 => by
  by_cases x : p = c
  · rw [x, r6]
    exact .inr rfl
  · rw [(nm p x).2.1, ro]
    exact h p h0 h1 (by omega)
theorem zNL_new {Y M : qz_Z} {c : Int} (h : zNL Y) (hV : zV Y) (c0 : 0 ≤ c) (c1 : c < 48) (s0 : Y 2 0 0 (210 + 20 * c) = 0) (nm : ∀ p : Int, p ≠ c → M 2 0 0 (210 + 20 * p) = Y 2 0 0 (210 + 20 * p) ∧ M 2 0 0 (211 + 20 * p) = Y 2 0 0 (211 + 20 * p) ∧ M 2 0 0 (204 + 20 * p) = Y 2 0 0 (204 + 20 * p)) (nf : ∀ a : Int, 3000 ≤ a → a < 3130 → M 2 0 0 a = Y 2 0 0 a) (st : M 2 0 0 (210 + 20 * c) = 0) : zNL M := by
  obtain ⟨n5, n6, n7⟩ := h
  refine ⟨fun c1 t1 c2 t2 i0 i1 j0 j1 i2 i3 j2 j3 i4 j4 i5 j5 i6 => ?_, fun c1 t1 i0 i1 i2 i3 i4 i5 => ?_, fun r i0 i1 i2 => ?_⟩
  · rw [nf _ (by omega) (by omega)] at i4 j4 i5 j5 i6
    rw [nf _ (by omega) (by omega)] at i6
    exact n5 c1 t1 c2 t2 i0 i1 j0 j1 i2 i3 j2 j3 i4 j4 i5 j5 i6
  · rw [nf _ (by omega) (by omega)] at i4 i5
    have k := n6 c1 t1 i0 i1 i2 i3 i4 i5
    have x : Y 2 0 0 (3022 + 60 * c1 + 3 * t1) ≠ c := fun z => by
      have k1 := k.1
      rw [z, s0] at k1
      omega
    rw [nf (3022 + 60 * c1 + 3 * t1) (by omega) (by omega), (nm _ x).1, (nm _ x).2.2]
    exact k
  · have x : r ≠ c := fun z => by
      rw [z, st] at i2
      omega
    rw [(nm r x).1] at i2
    obtain ⟨c', t, g0, g1, g2, g3, g4, g5, g6⟩ := n7 r i0 i1 i2
    exact ⟨c', t, g0, g1, by rw [nf _ (by omega) (by omega)]; exact g2, g3, g4, by rw [nf _ (by omega) (by omega)]; exact g5, by rw [nf _ (by omega) (by omega)]; exact g6⟩
