/-! THE RECORD of the reference: a state is kept (557), a row becomes longer (565), a deed is laid down (563). -/
/-- past rows move down by one -/
def zpd (Z : qz_Z) (n : Int) : qz_Z := fun k b i j => if k = 101 ∧ b = 0 ∧ i = 0 ∧ 0 ≤ j ∧ j < n then Z 101 0 0 (j + 4400) else Z k b i j
theorem zpd_0 {Z : qz_Z} : zpd Z 0 = Z := by
  funext k b i j
  exact if_neg (fun q => by omega)
theorem zpd_ne {Z : qz_Z} {n : Int} {k : Nat} {b i j : Int} (h : k ≠ 101) : zpd Z n k b i j = Z k b i j := if_neg (fun q => h q.1)
theorem zpd_s {Z : qz_Z} {n x y : Int} (hn : 0 ≤ n) (hx : x = n) (hy : y = n + 4400) : zpd Z (n + 1) = zu (zpd Z n) 101 0 0 x (zpd Z n 101 0 0 y) := by
  subst hx hy
  have e : zpd Z x 101 0 0 (x + 4400) = Z 101 0 0 (x + 4400) := if_neg (fun q => by omega)
  rw [e]
  funext k b i j
  show (if k = 101 ∧ b = 0 ∧ i = 0 ∧ 0 ≤ j ∧ j < x + 1 then Z 101 0 0 (j + 4400) else Z k b i j) = (if k = 101 ∧ b = 0 ∧ i = 0 ∧ j = x then Z 101 0 0 (x + 4400) else if k = 101 ∧ b = 0 ∧ i = 0 ∧ 0 ≤ j ∧ j < x then Z 101 0 0 (j + 4400) else Z k b i j)
  by_cases c : k = 101 ∧ b = 0 ∧ i = 0
  · obtain ⟨rfl, rfl, rfl⟩ := c
    by_cases q : j = x
    · subst q
      rw [if_pos ⟨rfl, rfl, rfl, by omega, by omega⟩, if_pos ⟨rfl, rfl, rfl, rfl⟩]
    · rw [if_neg (c := _ ∧ _ ∧ _ ∧ j = x) (fun h => q h.2.2.2)]
      by_cases g : 0 ≤ j ∧ j < x
      · rw [if_pos ⟨rfl, rfl, rfl, g.1, by omega⟩, if_pos ⟨rfl, rfl, rfl, g⟩]
      · rw [if_neg (fun h => g ⟨h.2.2.2.1, by omega⟩), if_neg (fun h => g h.2.2.2)]
  · rw [if_neg (fun h => c ⟨h.1, h.2.1, h.2.2.1⟩), if_neg (fun h => c ⟨h.1, h.2.1, h.2.2.1⟩), if_neg (fun h => c ⟨h.1, h.2.1, h.2.2.1⟩)]
theorem zYs_101 : ∀ p ∈ zYs, p.1 = 101 → 0 ≤ p.2 ∧ p.2 < 8 ∧ (p.2 < 7 → (101, p.2 + 1) ∈ zYs) := by decide
theorem zM_pd {s : zSM} {Z : qz_Z} (h : zM s Z) : zM s (zpd Z 30800) := by
  have at1 : ∀ j, 0 ≤ j → j < 30800 → zpd Z 30800 101 0 0 j = Z 101 0 0 (j + 4400) := fun j h0 h1 => if_pos ⟨rfl, rfl, rfl, h0, h1⟩
  have ne1 : ∀ (k : Nat) b i j, ¬ (k = 101 ∧ b = 0 ∧ i = 0 ∧ 0 ≤ j ∧ j < 30800) → zpd Z 30800 k b i j = Z k b i j := fun k b i j hn => if_neg hn
  refine ⟨⟨⟨fun k' b' i' j' hk' => ?_, fun k' b' i' j' => ?_, fun n hn => ?_, fun hn => ?_⟩, ?_⟩, ?_⟩
  · by_cases q : k' = 101 ∧ b' = 0 ∧ i' = 0 ∧ 0 ≤ j' ∧ j' < 30800
    · obtain ⟨rfl, rfl, rfl, q1, q2⟩ := q
      have e : zr 101 j' = zr 101 (j' + 4400) := by
        show zr2 (j' % 4400) = zr2 ((j' + 4400) % 4400)
        rw [show (j' + 4400) % 4400 = j' % 4400 by omega]
      rw [at1 _ q1 q2, e]
      exact h.1.1.1 _ _ _ _ (by decide)
    · rw [ne1 _ _ _ _ q]
      exact h.1.1.1 _ _ _ _ hk'
  · by_cases q : k' = 101 ∧ b' = 0 ∧ i' = 0 ∧ 0 ≤ j' ∧ j' < 30800
    · obtain ⟨rfl, rfl, rfl, q1, q2⟩ := q
      rw [at1 _ q1 q2]
      exact h.1.1.2.1 _ _ _ _
    · rw [ne1 _ _ _ _ q]
      exact h.1.1.2.1 _ _ _ _
  · rw [zpd_ne (by decide), zpd_ne (by decide)]
    exact h.1.1.2.2.1 n hn
  · rw [zpd_ne (by decide)]
    exact h.1.1.2.2.2 hn
  · refine ⟨fun b => ?_, fun b q => ?_, fun b i => ?_⟩
    · rw [zpd_ne (by decide), zpd_ne (by decide)]
      exact h.1.2.1 b
    · rw [zpd_ne (by decide), zpd_ne (by decide)]
      exact h.1.2.2.1 b q
    · rw [zpd_ne (by decide)]
      exact h.1.2.2.2 b i
  · intro p hpp
    obtain ⟨k', c'⟩ := p
    by_cases q : k' = 101
    · subst q
      obtain ⟨c0, c8, c7⟩ := zYs_101 _ hpp rfl
      have c0' : 0 ≤ c' := c0
      have c8' : c' < 8 := c8
      by_cases g : c' < 7
      · refine zYr_s (h.2 _ (c7 g)) (fun j hj => ?_)
        unfold zsp at hj
        show zpd Z 30800 101 0 0 (4400 * c' + j) = Z 101 0 0 (4400 * (c' + 1) + j)
        rw [at1 _ (by omega) (by omega), show 4400 * c' + j + 4400 = 4400 * (c' + 1) + j by omega]
      · refine zYr_s (h.2 _ hpp) (fun j hj => ?_)
        unfold zsp at hj
        exact ne1 _ _ _ _ (fun x => by
          have := x.2.2.2.2
          omega)
    · exact zYr_s (h.2 _ hpp) (fun j _ => zpd_ne q)
/-- a state is kept: as one more past row -/
def zk1 (Z : qz_Z) : qz_Z := if Z 1 0 0 34 ≠ 8 then Z else zu (zpd Z 30800) 1 0 0 34 (Z 1 0 0 34 - 1)
def zk2 (Z : qz_Z) (k : Nat) (s0 : Int) : qz_Z := zu (zpq Z k 0 0 s0 101 0 0 (4400 * Z 1 0 0 34) 4400) 1 0 0 34 (Z 1 0 0 34 + 1)
def zkp (Z : qz_Z) : qz_Z := zk2 (zk1 Z) 2 0
def zkq (Z : qz_Z) : qz_Z := zk2 (zk1 Z) 81 4400
theorem sk_557n {Z : qz_Z} {ν : qz_N} {k : wz_K} {R : wz_R} {L : qz_L} (h34 : 0 ≤ Z 1 0 0 34 ∧ Z 1 0 0 34 ≤ 7) (hL : qz_fg [true, true, false] L = [some (.inr (.inr (some (1, 0, 0)))), some (.inl (i3 (-1))), none]) (h : R (zm (zk2 Z 2 0) ν) (.inl none)) : gc_557_5 k R (L, [], zm Z ν) := by
  refine fc_557_5 (i3 (-1)) _ _ _ _ hL ?_
  refine wz_lp sb_557_3 (fun m x => ∃ n : Int, qz_fg [true, true, true] x.1 = [some (.inr (.inr (some (1, 0, 0)))), some (.inl (i3 (-1))), some (.inl (i3 n))] ∧ x.2 = ([], zm (zpq Z 2 0 0 0 101 0 0 (4400 * Z 1 0 0 34) n) ν) ∧ 0 ≤ n ∧ n ≤ 4400 ∧ m = (4400 - n).toNat) ?_ 65536 4400 _ (by omega) ⟨0, (zconso rfl (zconso rfl (zconso (zvo (show (0 : Int32) = i3 0 from rfl)) rfl))), by rw [zpq_0], by omega, by omega, by omega⟩
  rintro m ⟨L, st, μ⟩ ⟨n, hL, hx, h0, h1, hm⟩
  cases hx
  have q34 : zpq Z 2 0 0 0 101 0 0 (4400 * Z 1 0 0 34) n 1 0 0 34 = Z 1 0 0 34 := zpq_ne (by decide)
  have e34 := zm_rd (Z := zpq Z 2 0 0 0 101 0 0 (4400 * Z 1 0 0 34) n) (ν := ν) (k := 1) (b := 0) (i := 0) (j := 34) (show ((0 : Nat) : Int) = 0 from rfl) (show ((0 : Nat) : Int) = 0 from rfl) (show ((34 : Nat) : Int) = 34 from rfl)
  rw [q34] at e34
  refine fb_557_3 (i3 (-1)) (i3 n) _ _ _ _ hL ?_
  refine wz_br (i3Le (show (4400 : Int32) = i3 4400 from rfl) (rfl : i3 n = i3 n) (by omega) (by omega) (by omega) (by omega)) (fun q => ?_) (fun q => ?_)
  · have hn : n = 4400 := by omega
    subst hn
    refine fc_557_4 _ _ _ _ (by rfl) ?_
    intro μ9 e9
    replace e9 := e9.trans (zm_wI (ν := ν) (rfl : zk2 Z 2 0 = zu (zpq Z 2 0 0 0 101 0 0 (4400 * Z 1 0 0 34) 4400) 1 0 0 34 (Z 1 0 0 34 + 1)) (show ((0 : Nat) : Int) = 0 from rfl) (show ((0 : Nat) : Int) = 0 from rfl) (show ((34 : Nat) : Int) = 34 from rfl) (i3A e34 (show (1 : Int32) = i3 1 from rfl)))
    subst e9
    exact h
  ·
    refine wz_i0 (Eq.trans (i3NE (rfl : i3 (-1) = i3 (-1)) (show (-1 : Int32) = i3 (-1) from rfl) (by omega) (by omega) (by omega) (by omega)) (decide_eq_false (by omega))) ?_
    refine wz_i0 (i3O (n := 4400) (rfl : i3 n = i3 n) (by omega) (by omega) (by omega)) ?_
    refine wz_i0 (i3O (n := 35200) (i3A (i3M e34 (show (4400 : Int32) = i3 4400 from rfl)) (rfl : i3 n = i3 n)) (by omega) (by omega) (by omega)) ?_
    obtain ⟨Z2, hZ2⟩ := zx (zpq Z 2 0 0 0 101 0 0 (4400 * Z 1 0 0 34) (n + 1))
    have hz := hZ2.trans (zpq_s (by decide) h0 (by omega : 4400 * Z 1 0 0 34 + n = 4400 * Z 1 0 0 34 + n) (by omega : n = 0 + n))
    intro μ9 e9
    replace e9 := e9.trans (zm_wI (ν := ν) hz (show ((0 : Nat) : Int) = 0 from rfl) (show ((0 : Nat) : Int) = 0 from rfl) (i3I (y := 4400 * Z 1 0 0 34 + n) (i3A (i3M e34 (show (4400 : Int32) = i3 4400 from rfl)) (rfl : i3 n = i3 n)) (by omega) (by omega) (by omega)) (zm_rd (ν := ν) (k := 2) (show ((0 : Nat) : Int) = 0 from rfl) (show ((0 : Nat) : Int) = 0 from rfl) (i3I (y := n) (rfl : i3 n = i3 n) (by omega) (by omega) (by omega))))
    subst e9
    obtain ⟨m2, rfl⟩ : ∃ m2, m = m2 + 1 := ⟨m - 1, by omega⟩
    exact wz_k1 ⟨m2, by omega, n + 1, (zconso rfl (zconso rfl (zconso (zvo (i3A (rfl : i3 n = i3 n) (show (1 : Int32) = i3 1 from rfl))) rfl))), by rw [hZ2], by omega, by omega, by omega⟩
set_option maxRecDepth 20000 in
theorem sp_557n {s : zSM} {Z : qz_Z} {ν : qz_N} (hZ : zM s Z) : qf_557 [.inr (.inr (some (1, 0, 0))), .inl (i3 (-1))] (zm Z ν) = some (zm (zkp Z) ν, .inl none) := by
  have r34 := zM_k hZ 1 0 0 34 (lo := 0) (hi := 8) (by decide) rfl
  have e34 := zm_rd (Z := Z) (ν := ν) (k := 1) (b := 0) (i := 0) (j := 34) (show ((0 : Nat) : Int) = 0 from rfl) (show ((0 : Nat) : Int) = 0 from rfl) (show ((34 : Nat) : Int) = 34 from rfl)
  refine wz_call_eq (fw_557 (i3 (-1)) _ _ ?_)
  refine wz_br (i3NE e34 (show (8 : Int32) = i3 8 from rfl) (by omega) (by omega) (by omega) (by omega)) (fun q => ?_) (fun q => ?_)
  · have e1 : zk1 Z = Z := if_pos q
    refine sk_557n ⟨r34.1, by omega⟩ (by rfl) ⟨?_, rfl⟩
    unfold zkp
    rw [e1]
  · refine wz_lp sb_557_1 (fun m x => ∃ n : Int, qz_fg [true, true, true] x.1 = [some (.inr (.inr (some (1, 0, 0)))), some (.inl (i3 (-1))), some (.inl (i3 n))] ∧ x.2 = ([], zm (zpd Z n) ν) ∧ 0 ≤ n ∧ n ≤ 30800 ∧ m = (30800 - n).toNat) ?_ 65536 30800 _ (by omega) ⟨0, (zconso rfl (zconso rfl (zconso (zvo (show (0 : Int32) = i3 0 from rfl)) rfl))), by rw [zpd_0], by omega, by omega, by omega⟩
    rintro m ⟨L, st, μ⟩ ⟨n, hL, hx, h0, h1, hm⟩
    cases hx
    refine fb_557_1 (i3 (-1)) (i3 n) _ _ _ _ hL ?_
    refine wz_br (i3Le (show (30800 : Int32) = i3 30800 from rfl) (rfl : i3 n = i3 n) (by omega) (by omega) (by omega) (by omega)) (fun q2 => ?_) (fun q2 => ?_)
    · have hn : n = 30800 := by omega
      subst hn
      refine fc_557_2 (i3 (-1)) _ _ _ _ (by rfl) ?_
      have q34 : zpd Z 30800 1 0 0 34 = Z 1 0 0 34 := zpd_ne (by decide)
      have f34 := zm_rd (Z := zpd Z 30800) (ν := ν) (k := 1) (b := 0) (i := 0) (j := 34) (show ((0 : Nat) : Int) = 0 from rfl) (show ((0 : Nat) : Int) = 0 from rfl) (show ((34 : Nat) : Int) = 34 from rfl)
      rw [q34] at f34
      have e1 : zk1 Z = zu (zpd Z 30800) 1 0 0 34 (Z 1 0 0 34 - 1) := if_neg q
      intro μ9 e9
      replace e9 := e9.trans (zm_wI (ν := ν) e1 (show ((0 : Nat) : Int) = 0 from rfl) (show ((0 : Nat) : Int) = 0 from rfl) (show ((34 : Nat) : Int) = 34 from rfl) (i3S f34 (show (1 : Int32) = i3 1 from rfl)))
      subst e9
      have v34 : zk1 Z 1 0 0 34 = Z 1 0 0 34 - 1 := by
        rw [e1]
        exact zu_at rfl
      exact sk_557n ⟨by omega, by omega⟩ (by rfl) ⟨rfl, rfl⟩
    · refine wz_i0 (i3O (n := 35200) (i3A (rfl : i3 n = i3 n) (show (4400 : Int32) = i3 4400 from rfl)) (by omega) (by omega) (by omega)) ?_
      refine wz_i0 (i3O (n := 35200) (rfl : i3 n = i3 n) (by omega) (by omega) (by omega)) ?_
      obtain ⟨Z2, hZ2⟩ := zx (zpd Z (n + 1))
      have hz := hZ2.trans (zpd_s h0 (rfl : n = n) (rfl : n + 4400 = n + 4400))
      intro μ9 e9
      replace e9 := e9.trans (zm_wI (ν := ν) hz (show ((0 : Nat) : Int) = 0 from rfl) (show ((0 : Nat) : Int) = 0 from rfl) (i3I (y := n) (rfl : i3 n = i3 n) (by omega) (by omega) (by omega)) (zm_rd (ν := ν) (k := 101) (show ((0 : Nat) : Int) = 0 from rfl) (show ((0 : Nat) : Int) = 0 from rfl) (i3I (y := n + 4400) (i3A (rfl : i3 n = i3 n) (show (4400 : Int32) = i3 4400 from rfl)) (by omega) (by omega) (by omega))))
      subst e9
      obtain ⟨m2, rfl⟩ : ∃ m2, m = m2 + 1 := ⟨m - 1, by omega⟩
      exact wz_k1 ⟨m2, by omega, n + 1, (zconso rfl (zconso rfl (zconso (zvo (i3A (rfl : i3 n = i3 n) (show (1 : Int32) = i3 1 from rfl))) rfl))), by rw [hZ2], by omega, by omega, by omega⟩
theorem sk_557s {Z : qz_Z} {ν : qz_N} {k : wz_K} {R : wz_R} {L : qz_L} (h34 : 0 ≤ Z 1 0 0 34 ∧ Z 1 0 0 34 ≤ 7) (hL : qz_fg [true, true, false] L = [some (.inr (.inr (some (1, 0, 0)))), some (.inl (i3 (1))), none]) (h : R (zm (zk2 Z 81 4400) ν) (.inl none)) : gc_557_5 k R (L, [], zm Z ν) := by
  refine fc_557_5 (i3 (1)) _ _ _ _ hL ?_
  refine wz_lp sb_557_3 (fun m x => ∃ n : Int, qz_fg [true, true, true] x.1 = [some (.inr (.inr (some (1, 0, 0)))), some (.inl (i3 (1))), some (.inl (i3 n))] ∧ x.2 = ([], zm (zpq Z 81 0 0 4400 101 0 0 (4400 * Z 1 0 0 34) n) ν) ∧ 0 ≤ n ∧ n ≤ 4400 ∧ m = (4400 - n).toNat) ?_ 65536 4400 _ (by omega) ⟨0, (zconso rfl (zconso rfl (zconso (zvo (show (0 : Int32) = i3 0 from rfl)) rfl))), by rw [zpq_0], by omega, by omega, by omega⟩
  rintro m ⟨L, st, μ⟩ ⟨n, hL, hx, h0, h1, hm⟩
  cases hx
  have q34 : zpq Z 81 0 0 4400 101 0 0 (4400 * Z 1 0 0 34) n 1 0 0 34 = Z 1 0 0 34 := zpq_ne (by decide)
  have e34 := zm_rd (Z := zpq Z 81 0 0 4400 101 0 0 (4400 * Z 1 0 0 34) n) (ν := ν) (k := 1) (b := 0) (i := 0) (j := 34) (show ((0 : Nat) : Int) = 0 from rfl) (show ((0 : Nat) : Int) = 0 from rfl) (show ((34 : Nat) : Int) = 34 from rfl)
  rw [q34] at e34
  refine fb_557_3 (i3 (1)) (i3 n) _ _ _ _ hL ?_
  refine wz_br (i3Le (show (4400 : Int32) = i3 4400 from rfl) (rfl : i3 n = i3 n) (by omega) (by omega) (by omega) (by omega)) (fun q => ?_) (fun q => ?_)
  · have hn : n = 4400 := by omega
    subst hn
    refine fc_557_4 _ _ _ _ (by rfl) ?_
    intro μ9 e9
    replace e9 := e9.trans (zm_wI (ν := ν) (rfl : zk2 Z 81 4400 = zu (zpq Z 81 0 0 4400 101 0 0 (4400 * Z 1 0 0 34) 4400) 1 0 0 34 (Z 1 0 0 34 + 1)) (show ((0 : Nat) : Int) = 0 from rfl) (show ((0 : Nat) : Int) = 0 from rfl) (show ((34 : Nat) : Int) = 34 from rfl) (i3A e34 (show (1 : Int32) = i3 1 from rfl)))
    subst e9
    exact h
  ·
    refine wz_i1 (Eq.trans (i3NE (rfl : i3 1 = i3 1) (show (-1 : Int32) = i3 (-1) from rfl) (by omega) (by omega) (by omega) (by omega)) (decide_eq_true (by omega))) ?_
    refine wz_i0 (i3O (n := 8800) (i3A (i3M (show (4400 : Int32) = i3 4400 from rfl) (rfl : i3 1 = i3 1)) (rfl : i3 n = i3 n)) (by omega) (by omega) (by omega)) ?_
    refine wz_i0 (i3O (n := 35200) (i3A (i3M e34 (show (4400 : Int32) = i3 4400 from rfl)) (rfl : i3 n = i3 n)) (by omega) (by omega) (by omega)) ?_
    obtain ⟨Z2, hZ2⟩ := zx (zpq Z 81 0 0 4400 101 0 0 (4400 * Z 1 0 0 34) (n + 1))
    have hz := hZ2.trans (zpq_s (by decide) h0 (by omega : 4400 * Z 1 0 0 34 + n = 4400 * Z 1 0 0 34 + n) (by omega : 4400 + n = 4400 + n))
    intro μ9 e9
    replace e9 := e9.trans (zm_wI (ν := ν) hz (show ((0 : Nat) : Int) = 0 from rfl) (show ((0 : Nat) : Int) = 0 from rfl) (i3I (y := 4400 * Z 1 0 0 34 + n) (i3A (i3M e34 (show (4400 : Int32) = i3 4400 from rfl)) (rfl : i3 n = i3 n)) (by omega) (by omega) (by omega)) (zm_rd (ν := ν) (k := 81) (show ((0 : Nat) : Int) = 0 from rfl) (show ((0 : Nat) : Int) = 0 from rfl) (i3I (y := 4400 + n) (i3A (i3M (show (4400 : Int32) = i3 4400 from rfl) (rfl : i3 1 = i3 1)) (rfl : i3 n = i3 n)) (by omega) (by omega) (by omega))))
    subst e9
    obtain ⟨m2, rfl⟩ : ∃ m2, m = m2 + 1 := ⟨m - 1, by omega⟩
    exact wz_k1 ⟨m2, by omega, n + 1, (zconso rfl (zconso rfl (zconso (zvo (i3A (rfl : i3 n = i3 n) (show (1 : Int32) = i3 1 from rfl))) rfl))), by rw [hZ2], by omega, by omega, by omega⟩
set_option maxRecDepth 20000 in
theorem sp_557s {s : zSM} {Z : qz_Z} {ν : qz_N} (hZ : zM s Z) : qf_557 [.inr (.inr (some (1, 0, 0))), .inl (i3 (1))] (zm Z ν) = some (zm (zkq Z) ν, .inl none) := by
  have r34 := zM_k hZ 1 0 0 34 (lo := 0) (hi := 8) (by decide) rfl
  have e34 := zm_rd (Z := Z) (ν := ν) (k := 1) (b := 0) (i := 0) (j := 34) (show ((0 : Nat) : Int) = 0 from rfl) (show ((0 : Nat) : Int) = 0 from rfl) (show ((34 : Nat) : Int) = 34 from rfl)
  refine wz_call_eq (fw_557 (i3 (1)) _ _ ?_)
  refine wz_br (i3NE e34 (show (8 : Int32) = i3 8 from rfl) (by omega) (by omega) (by omega) (by omega)) (fun q => ?_) (fun q => ?_)
  · have e1 : zk1 Z = Z := if_pos q
    refine sk_557s ⟨r34.1, by omega⟩ (by rfl) ⟨?_, rfl⟩
    unfold zkq
    rw [e1]
  · refine wz_lp sb_557_1 (fun m x => ∃ n : Int, qz_fg [true, true, true] x.1 = [some (.inr (.inr (some (1, 0, 0)))), some (.inl (i3 (1))), some (.inl (i3 n))] ∧ x.2 = ([], zm (zpd Z n) ν) ∧ 0 ≤ n ∧ n ≤ 30800 ∧ m = (30800 - n).toNat) ?_ 65536 30800 _ (by omega) ⟨0, (zconso rfl (zconso rfl (zconso (zvo (show (0 : Int32) = i3 0 from rfl)) rfl))), by rw [zpd_0], by omega, by omega, by omega⟩
    rintro m ⟨L, st, μ⟩ ⟨n, hL, hx, h0, h1, hm⟩
    cases hx
    refine fb_557_1 (i3 (1)) (i3 n) _ _ _ _ hL ?_
    refine wz_br (i3Le (show (30800 : Int32) = i3 30800 from rfl) (rfl : i3 n = i3 n) (by omega) (by omega) (by omega) (by omega)) (fun q2 => ?_) (fun q2 => ?_)
    · have hn : n = 30800 := by omega
      subst hn
      refine fc_557_2 (i3 (1)) _ _ _ _ (by rfl) ?_
      have q34 : zpd Z 30800 1 0 0 34 = Z 1 0 0 34 := zpd_ne (by decide)
      have f34 := zm_rd (Z := zpd Z 30800) (ν := ν) (k := 1) (b := 0) (i := 0) (j := 34) (show ((0 : Nat) : Int) = 0 from rfl) (show ((0 : Nat) : Int) = 0 from rfl) (show ((34 : Nat) : Int) = 34 from rfl)
      rw [q34] at f34
      have e1 : zk1 Z = zu (zpd Z 30800) 1 0 0 34 (Z 1 0 0 34 - 1) := if_neg q
      intro μ9 e9
      replace e9 := e9.trans (zm_wI (ν := ν) e1 (show ((0 : Nat) : Int) = 0 from rfl) (show ((0 : Nat) : Int) = 0 from rfl) (show ((34 : Nat) : Int) = 34 from rfl) (i3S f34 (show (1 : Int32) = i3 1 from rfl)))
      subst e9
      have v34 : zk1 Z 1 0 0 34 = Z 1 0 0 34 - 1 := by
        rw [e1]
        exact zu_at rfl
      exact sk_557s ⟨by omega, by omega⟩ (by rfl) ⟨rfl, rfl⟩
    · refine wz_i0 (i3O (n := 35200) (i3A (rfl : i3 n = i3 n) (show (4400 : Int32) = i3 4400 from rfl)) (by omega) (by omega) (by omega)) ?_
      refine wz_i0 (i3O (n := 35200) (rfl : i3 n = i3 n) (by omega) (by omega) (by omega)) ?_
      obtain ⟨Z2, hZ2⟩ := zx (zpd Z (n + 1))
      have hz := hZ2.trans (zpd_s h0 (rfl : n = n) (rfl : n + 4400 = n + 4400))
      intro μ9 e9
      replace e9 := e9.trans (zm_wI (ν := ν) hz (show ((0 : Nat) : Int) = 0 from rfl) (show ((0 : Nat) : Int) = 0 from rfl) (i3I (y := n) (rfl : i3 n = i3 n) (by omega) (by omega) (by omega)) (zm_rd (ν := ν) (k := 101) (show ((0 : Nat) : Int) = 0 from rfl) (show ((0 : Nat) : Int) = 0 from rfl) (i3I (y := n + 4400) (i3A (rfl : i3 n = i3 n) (show (4400 : Int32) = i3 4400 from rfl)) (by omega) (by omega) (by omega))))
      subst e9
      obtain ⟨m2, rfl⟩ : ∃ m2, m = m2 + 1 := ⟨m - 1, by omega⟩
      exact wz_k1 ⟨m2, by omega, n + 1, (zconso rfl (zconso rfl (zconso (zvo (i3A (rfl : i3 n = i3 n) (show (1 : Int32) = i3 1 from rfl))) rfl))), by rw [hZ2], by omega, by omega, by omega⟩
/-- what is kept is a row that can be; all else stays -/
theorem zM_k2 {s : zSM} {Z : qz_Z} {k : Nat} {c : Int} (h : zM s Z) (hp : (k, c) ∈ zYs) (h34 : 0 ≤ Z 1 0 0 34 ∧ Z 1 0 0 34 ≤ 7) : zM s (zk2 Z k (4400 * c)) := by
  have m : (101, Z 1 0 0 34) ∈ zYs := by
    have c8 : Z 1 0 0 34 = 0 ∨ Z 1 0 0 34 = 1 ∨ Z 1 0 0 34 = 2 ∨ Z 1 0 0 34 = 3 ∨ Z 1 0 0 34 = 4 ∨ Z 1 0 0 34 = 5 ∨ Z 1 0 0 34 = 6 ∨ Z 1 0 0 34 = 7 := by omega
    rcases c8 with e | e | e | e | e | e | e | e <;> (rw [e]; decide)
  have h2 := zM_pq (Z1 := zpq Z k 0 0 (4400 * c) 101 0 0 (4400 * Z 1 0 0 34) 4400) h hp m rfl rfl rfl
  exact zM_u h2 rfl (by decide) (lo := 0) (hi := 8) rfl ⟨by omega, by omega⟩ ⟨by decide, by decide⟩ (.inr (by decide)) rfl
theorem zM_k1 {s : zSM} {Z : qz_Z} (h : zM s Z) : zM s (zk1 Z) ∧ 0 ≤ zk1 Z 1 0 0 34 ∧ zk1 Z 1 0 0 34 ≤ 7 := by
  have r34 := zM_k h 1 0 0 34 (lo := 0) (hi := 8) (by decide) rfl
  by_cases q : Z 1 0 0 34 ≠ 8
  · have e1 : zk1 Z = Z := if_pos q
    rw [e1]
    exact ⟨h, r34.1, by omega⟩
  · have e1 : zk1 Z = zu (zpd Z 30800) 1 0 0 34 (Z 1 0 0 34 - 1) := if_neg q
    rw [e1]
    refine ⟨zM_u (zM_pd h) rfl (by decide) (lo := 0) (hi := 8) rfl ⟨by omega, by omega⟩ ⟨by decide, by decide⟩ (.inr (by decide)) rfl, ?_, ?_⟩
    · rw [zu_at rfl]
      omega
    · rw [zu_at rfl]
      omega
theorem zM_kp {s : zSM} {Z : qz_Z} (h : zM s Z) : zM s (zkp Z) := zM_k2 (k := 2) (c := 0) (zM_k1 h).1 (by decide) (zM_k1 h).2
theorem zM_kq {s : zSM} {Z : qz_Z} (h : zM s Z) : zM s (zkq Z) := zM_k2 (k := 81) (c := 1) (zM_k1 h).1 (by decide) (zM_k1 h).2
theorem zk2_ne {Z : qz_Z} {k0 : Nat} {s0 : Int} {k : Nat} {b i j : Int} (h : k ≠ 101 ∧ ¬ (k = 1 ∧ j = 34)) : zk2 Z k0 s0 k b i j = Z k b i j := by
  unfold zk2
  rw [zu_ne rfl (fun q => h.2 ⟨q.1, q.2.2.2⟩), zpq_ne h.1]
theorem zk1_ne {Z : qz_Z} {k : Nat} {b i j : Int} (h : k ≠ 101 ∧ ¬ (k = 1 ∧ j = 34)) : zk1 Z k b i j = Z k b i j := by
  unfold zk1
  split
  · rfl
  · rw [zu_ne rfl (fun q => h.2 ⟨q.1, q.2.2.2⟩), zpd_ne h.1]
theorem zkp_ne {Z : qz_Z} {k : Nat} {b i j : Int} (h : k ≠ 101 ∧ ¬ (k = 1 ∧ j = 34)) : zkp Z k b i j = Z k b i j := (zk2_ne h).trans (zk1_ne h)
theorem zkq_ne {Z : qz_Z} {k : Nat} {b i j : Int} (h : k ≠ 101 ∧ ¬ (k = 1 ∧ j = 34)) : zkq Z k b i j = Z k b i j := (zk2_ne h).trans (zk1_ne h)
