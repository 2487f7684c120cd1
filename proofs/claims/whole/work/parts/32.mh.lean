/-! THE REFERENCE, by hand: rows that are kept and brought back; a lot that goes. -/
/-- n numbers of a row from s0 on into another one, from its place d on -/
def zpq (Z : qz_Z) (k : Nat) (b i s0 : Int) (k1 : Nat) (b1 i1 d n : Int) : qz_Z := fun k' b' i' j' => if k' = k1 ∧ b' = b1 ∧ i' = i1 ∧ d ≤ j' ∧ j' < d + n then Z k b i (j' - d + s0) else Z k' b' i' j'
theorem zpq_0 {Z : qz_Z} {k k1 : Nat} {b i s0 b1 i1 d : Int} : zpq Z k b i s0 k1 b1 i1 d 0 = Z := by
  funext k' b' i' j'
  exact if_neg (fun q => by omega)
theorem zpq_s {Z : qz_Z} {k k1 : Nat} {b i s0 b1 i1 d n x y : Int} (hk : k ≠ k1) (hn : 0 ≤ n) (hx : x = d + n) (hy : y = s0 + n) : zpq Z k b i s0 k1 b1 i1 d (n + 1) = zu (zpq Z k b i s0 k1 b1 i1 d n) k1 b1 i1 x (zpq Z k b i s0 k1 b1 i1 d n k b i y) := by
  subst hx hy
  have e : zpq Z k b i s0 k1 b1 i1 d n k b i (s0 + n) = Z k b i (s0 + n) := if_neg (fun q => hk q.1)
  rw [e]
  funext k' b' i' j'
  show (if k' = k1 ∧ b' = b1 ∧ i' = i1 ∧ d ≤ j' ∧ j' < d + (n + 1) then Z k b i (j' - d + s0) else Z k' b' i' j') = (if k' = k1 ∧ b' = b1 ∧ i' = i1 ∧ j' = d + n then Z k b i (s0 + n) else if k' = k1 ∧ b' = b1 ∧ i' = i1 ∧ d ≤ j' ∧ j' < d + n then Z k b i (j' - d + s0) else Z k' b' i' j')
  by_cases c : k' = k1 ∧ b' = b1 ∧ i' = i1
  · obtain ⟨rfl, rfl, rfl⟩ := c
    by_cases q : j' = d + n
    · subst q
      rw [if_pos ⟨rfl, rfl, rfl, by omega, by omega⟩, if_pos ⟨rfl, rfl, rfl, rfl⟩, show d + n - d + s0 = s0 + n by omega]
    · rw [if_neg (c := _ ∧ _ ∧ _ ∧ j' = d + n) (fun h => q h.2.2.2)]
      by_cases g : d ≤ j' ∧ j' < d + n
      · rw [if_pos ⟨rfl, rfl, rfl, g.1, by omega⟩, if_pos ⟨rfl, rfl, rfl, g⟩]
      · rw [if_neg (fun h => g ⟨h.2.2.2.1, by omega⟩), if_neg (fun h => g h.2.2.2)]
  · rw [if_neg (fun h => c ⟨h.1, h.2.1, h.2.2.1⟩), if_neg (fun h => c ⟨h.1, h.2.1, h.2.2.1⟩), if_neg (fun h => c ⟨h.1, h.2.1, h.2.2.1⟩)]
theorem zpq_ne {Z : qz_Z} {k k1 k' : Nat} {b i s0 b1 i1 d n b' i' j' : Int} (hk : k' ≠ k1) : zpq Z k b i s0 k1 b1 i1 d n k' b' i' j' = Z k' b' i' j' := if_neg (fun q => hk q.1)
theorem zr_row {k : Nat} {c x : Int} (h : (k, c) ∈ zYs) (h0 : 0 ≤ x) (h1 : x < 4400) : zr k (4400 * c + x) = zr2 x := by
  have hx : (4400 * c + x) % 4400 = x := by omega
  have nb : k ≠ 2 → Nat.beq k 2 = false := fun q => by
    cases hh : Nat.beq k 2 with
    | false => rfl
    | true => exact absurd (Nat.eq_of_beq_eq_true hh) q
  by_cases q : k = 2
  · have hc := zYs_2 h q
    subst q
    have : c = 0 := hc
    subst this
    show zr2 (4400 * 0 + x) = _
    rw [show 4400 * 0 + x = x by omega]
  · have hr : zrm k = true := by
      have := zYs_k h
      show zrm k = true
      have h2 : (Nat.beq k 2 || zrm k) = true := this
      rw [nb q] at h2
      exact h2
    unfold zr
    rw [nb q, hr, hx]
    rfl
theorem zYs_d {k : Nat} {c : Int} (h : (k, c) ∈ zYs) : k ≠ 200 ∧ k ≠ 1 ∧ k ≠ 11 ∧ k ≠ 47 ∧ k ≠ 43 ∧ zhall k = false := by
  have : ∀ p ∈ zYs, p.1 ≠ 200 ∧ p.1 ≠ 1 ∧ p.1 ≠ 11 ∧ p.1 ≠ 47 ∧ p.1 ≠ 43 ∧ zhall p.1 = false := by decide
  exact this _ h
/-- a row is copied whole -/
theorem zM_pq {s : zSM} {Z Z1 : qz_Z} {k k1 : Nat} {c c1 s0 d : Int} (h : zM s Z) (hp : (k, c) ∈ zYs) (hq : (k1, c1) ∈ zYs) (hs : s0 = 4400 * c) (hd : d = 4400 * c1) (h1 : Z1 = zpq Z k 0 0 s0 k1 0 0 d 4400) : zM s Z1 := by
  subst h1 hs hd
  obtain ⟨n200, n1, n11, n47, n43, _⟩ := zYs_d hq
  obtain ⟨m200, _, _, _, _, _⟩ := zYs_d hp
  have at1 : ∀ x, 0 ≤ x → x < 4400 → zpq Z k 0 0 (4400 * c) k1 0 0 (4400 * c1) 4400 k1 0 0 (4400 * c1 + x) = Z k 0 0 (4400 * c + x) := fun x h0 h2 => by
    have : zpq Z k 0 0 (4400 * c) k1 0 0 (4400 * c1) 4400 k1 0 0 (4400 * c1 + x) = Z k 0 0 (4400 * c1 + x - 4400 * c1 + 4400 * c) := if_pos ⟨rfl, rfl, rfl, by omega, by omega⟩
    rw [this, show 4400 * c1 + x - 4400 * c1 + 4400 * c = 4400 * c + x by omega]
  have ne1 : ∀ k' b' i' j', ¬ (k' = k1 ∧ b' = 0 ∧ i' = 0 ∧ 4400 * c1 ≤ j' ∧ j' < 4400 * c1 + 4400) → zpq Z k 0 0 (4400 * c) k1 0 0 (4400 * c1) 4400 k' b' i' j' = Z k' b' i' j' := fun k' b' i' j' hn => if_neg hn
  refine ⟨⟨⟨fun k' b' i' j' hk' => ?_, fun k' b' i' j' => ?_, fun n hn => ?_, fun hn => ?_⟩, ?_⟩, ?_⟩
  · by_cases q : k' = k1 ∧ b' = 0 ∧ i' = 0 ∧ 4400 * c1 ≤ j' ∧ j' < 4400 * c1 + 4400
    · obtain ⟨rfl, rfl, rfl, q1, q2⟩ := q
      obtain ⟨x, rfl⟩ : ∃ x, j' = 4400 * c1 + x := ⟨j' - 4400 * c1, by omega⟩
      rw [at1 x (by omega) (by omega), zr_row hq (by omega) (by omega), ← zr_row hp (x := x) (by omega) (by omega)]
      exact h.1.1.1 k 0 0 (4400 * c + x) m200
    · rw [ne1 _ _ _ _ q]; exact h.1.1.1 _ _ _ _ hk'
  · by_cases q : k' = k1 ∧ b' = 0 ∧ i' = 0 ∧ 4400 * c1 ≤ j' ∧ j' < 4400 * c1 + 4400
    · obtain ⟨rfl, rfl, rfl, q1, q2⟩ := q
      obtain ⟨x, rfl⟩ : ∃ x, j' = 4400 * c1 + x := ⟨j' - 4400 * c1, by omega⟩
      rw [at1 x (by omega) (by omega)]; exact h.1.1.2.1 _ _ _ _
    · rw [ne1 _ _ _ _ q]; exact h.1.1.2.1 _ _ _ _
  · have e : ∀ j, zpq Z k 0 0 (4400 * c) k1 0 0 (4400 * c1) 4400 200 n 0 j = Z 200 n 0 j := fun j => ne1 _ _ _ _ (fun q => n200 q.1.symm)
    rw [e, e]; exact h.1.1.2.2.1 n hn
  · rw [ne1 _ _ _ _ (fun q => n1 q.1.symm)]; exact h.1.1.2.2.2 hn
  · have e11 : ∀ b i j, zpq Z k 0 0 (4400 * c) k1 0 0 (4400 * c1) 4400 11 b i j = Z 11 b i j := fun b i j => ne1 _ _ _ _ (fun q => n11 q.1.symm)
    have e47 : ∀ b i j, zpq Z k 0 0 (4400 * c) k1 0 0 (4400 * c1) 4400 47 b i j = Z 47 b i j := fun b i j => ne1 _ _ _ _ (fun q => n47 q.1.symm)
    have e43 : ∀ b i j, zpq Z k 0 0 (4400 * c) k1 0 0 (4400 * c1) 4400 43 b i j = Z 43 b i j := fun b i j => ne1 _ _ _ _ (fun q => n43 q.1.symm)
    refine ⟨fun b => ?_, fun b q => ?_, fun b i => ?_⟩
    · rw [e11, e11]; exact h.1.2.1 b
    · rw [e47, e47]; exact h.1.2.2.1 b q
    · rw [e43]; exact h.1.2.2.2 b i
  · intro p hpp
    obtain ⟨k', c'⟩ := p
    by_cases q : k' = k1 ∧ c' = c1
    · obtain ⟨rfl, rfl⟩ := q
      refine zYr_s (h.2 _ hp) (fun j hj => ?_)
      unfold zsp at hj
      exact at1 j (by omega) (by omega)
    · refine zYr_s (h.2 _ hpp) (fun j hj => ?_)
      unfold zsp at hj
      refine ne1 _ _ _ _ (fun g => ?_)
      have g1 := g.2.2.2.1
      have g2 := g.2.2.2.2
      have : c' = c1 := by omega
      exact q ⟨g.1, this⟩
theorem zC_pq {Z Z0 : qz_Z} {ws : List Nat} {k k1 : Nat} {b i s0 b1 i1 d n : Int} (h : zC ws Z0 Z) (hw : ∀ j, ws.contains (zcl k1 j) = true) : zC ws Z0 (zpq Z k b i s0 k1 b1 i1 d n) := fun k' b' i' j' hk => by
  rw [zpq_ne (fun q => by subst q; rw [hw] at hk; cases hk)]
  exact h k' b' i' j' hk
theorem zU_pq {Z Z0 : qz_Z} {hs : List Int} {k k1 : Nat} {b i s0 b1 i1 d n : Int} (h : zU hs Z0 Z) (hw : zhall k1 = false) : zU hs Z0 (zpq Z k b i s0 k1 b1 i1 d n) := fun k' b' i' j' hk hb => by
  rw [zpq_ne (fun q => by subst q; rw [hw] at hk; cases hk)]
  exact h k' b' i' j' hk hb
def zf_351 (Z : qz_Z) (a1 : Int) : qz_Z := zpq Z 2 0 0 0 81 0 0 (4400 * a1) 4400
theorem sp_351 {s : zSM} {Z : qz_Z} {ν : qz_N} (hZ : zM s Z) {a1 : Int} (ga1 : 0 ≤ a1 ∧ a1 ≤ 1) (hM : s.2 + 0 ≤ 1000000000) : ∃ P : qz_Z, P = zf_351 Z a1 ∧ (qf_351 [.inr (.inr (some (1, 0, 0))), .inl (i3 a1)] (zm Z ν) = some (zm P ν, .inl none) ∧ zM s P ∧ zC [81] Z P ∧ zU [] Z P) := by
  obtain ⟨P, hP⟩ := zx (zf_351 Z a1)
  have ha : a1 = 0 ∨ a1 = 1 := by omega
  refine zc_V (Q := fun P => zM s P ∧ zC [81] Z P ∧ zU [] Z P) hP (fw_351 (i3 a1) _ _ ?_)
  refine wz_lp sb_351_1 (fun m x => ∃ n : Int, qz_fg [true, true, true] x.1 = [some (.inr (.inr (some (1, 0, 0)))), some (.inl (i3 a1)), some (.inl (i3 n))] ∧ x.2 = ([], zm (zpq Z 2 0 0 0 81 0 0 (4400 * a1) n) ν) ∧ 0 ≤ n ∧ n ≤ 4400 ∧ m = (4400 - n).toNat) ?_ 65536 4400 _ (by omega) ⟨0, (zconso rfl (zconso (zvo (rfl : i3 a1 = i3 a1)) (zconso (zvo (show (0 : Int32) = i3 0 from rfl)) rfl))), by rw [zpq_0], by omega, by omega, by omega⟩
  rintro m ⟨L, st, μ⟩ ⟨n, hL, hx, h0, h1, hm⟩
  cases hx
  refine fb_351_1 (i3 a1) (i3 n) _ _ _ _ hL ?_
  refine wz_br (i3Le (show (4400 : Int32) = i3 4400 from rfl) (rfl : i3 n = i3 n) (by omega) (by omega) (by omega) (by omega)) (fun q => ?_) (fun q => ?_)
  · have hn : n = 4400 := by omega
    subst hn
    refine fc_351_2 _ _ _ _ (by rfl) ?_
    exact zlV hP ⟨zM_pq hZ (c := 0) (c1 := a1) (by decide) (by rcases ha with rfl | rfl <;> decide) (by omega) (by omega) rfl, zC_pq zC_r (fun j => rfl), zU_pq zU_r rfl⟩
  · refine wz_i0 (i3O (n := 4400) (rfl : i3 n = i3 n) (by omega) (by omega) (by omega)) ?_
    refine wz_i0 (i3O (n := 8800) (i3A (i3M (show (4400 : Int32) = i3 4400 from rfl) (rfl : i3 a1 = i3 a1)) (rfl : i3 n = i3 n)) (by omega) (by omega) (by omega)) ?_
    obtain ⟨Z2, hZ2⟩ := zx (zpq Z 2 0 0 0 81 0 0 (4400 * a1) (n + 1))
    have hz := hZ2.trans (zpq_s (by decide) h0 (by omega : (4400 * a1) + n = (4400 * a1) + n) (by omega : n = 0 + n))
    intro μ9 e9
    replace e9 := e9.trans (zm_wI (ν := ν) hz (show ((0 : Nat) : Int) = 0 from rfl) (show ((0 : Nat) : Int) = 0 from rfl) (i3I (y := (4400 * a1) + n) (i3A (i3M (show (4400 : Int32) = i3 4400 from rfl) (rfl : i3 a1 = i3 a1)) (rfl : i3 n = i3 n)) (by omega) (by omega) (by omega)) (zm_rd (ν := ν) (k := 2) (show ((0 : Nat) : Int) = 0 from rfl) (show ((0 : Nat) : Int) = 0 from rfl) (i3I (y := n) (rfl : i3 n = i3 n) (by omega) (by omega) (by omega))))
    subst e9
    obtain ⟨m2, rfl⟩ : ∃ m2, m = m2 + 1 := ⟨m - 1, by omega⟩
    exact wz_k1 ⟨m2, by omega, n + 1, (zconso rfl (zconso (zvo (rfl : i3 a1 = i3 a1)) (zconso (zvo (i3A (rfl : i3 n = i3 n) (show (1 : Int32) = i3 1 from rfl))) rfl))), by rw [hZ2], by omega, by omega, by omega⟩
def zf_493 (Z : qz_Z) (a1 : Int) : qz_Z := zpq Z 81 0 0 (4400 * a1) 2 0 0 0 4400
theorem sp_493 {s : zSM} {Z : qz_Z} {ν : qz_N} (hZ : zM s Z) {a1 : Int} (ga1 : 0 ≤ a1 ∧ a1 ≤ 1) (hM : s.2 + 0 ≤ 1000000000) : ∃ P : qz_Z, P = zf_493 Z a1 ∧ (qf_493 [.inr (.inr (some (1, 0, 0))), .inl (i3 a1)] (zm Z ν) = some (zm P ν, .inl none) ∧ zM s P ∧ zC [2, 1200] Z P ∧ zU [] Z P) := by
  obtain ⟨P, hP⟩ := zx (zf_493 Z a1)
  have ha : a1 = 0 ∨ a1 = 1 := by omega
  refine zc_V (Q := fun P => zM s P ∧ zC [2, 1200] Z P ∧ zU [] Z P) hP (fw_493 (i3 a1) _ _ ?_)
  refine wz_lp sb_493_1 (fun m x => ∃ n : Int, qz_fg [true, true, true] x.1 = [some (.inr (.inr (some (1, 0, 0)))), some (.inl (i3 a1)), some (.inl (i3 n))] ∧ x.2 = ([], zm (zpq Z 81 0 0 (4400 * a1) 2 0 0 0 n) ν) ∧ 0 ≤ n ∧ n ≤ 4400 ∧ m = (4400 - n).toNat) ?_ 65536 4400 _ (by omega) ⟨0, (zconso rfl (zconso (zvo (rfl : i3 a1 = i3 a1)) (zconso (zvo (show (0 : Int32) = i3 0 from rfl)) rfl))), by rw [zpq_0], by omega, by omega, by omega⟩
  rintro m ⟨L, st, μ⟩ ⟨n, hL, hx, h0, h1, hm⟩
  cases hx
  refine fb_493_1 (i3 a1) (i3 n) _ _ _ _ hL ?_
  refine wz_br (i3Le (show (4400 : Int32) = i3 4400 from rfl) (rfl : i3 n = i3 n) (by omega) (by omega) (by omega) (by omega)) (fun q => ?_) (fun q => ?_)
  · have hn : n = 4400 := by omega
    subst hn
    refine fc_493_2 _ _ _ _ (by rfl) ?_
    exact zlV hP ⟨zM_pq hZ (c := a1) (c1 := 0) (by rcases ha with rfl | rfl <;> decide) (by decide) (by omega) (by omega) rfl, zC_pq zC_r (fun j => (show [2, 1200].contains (if j = 0 then 1200 else 2) = true by split <;> rfl)), zU_pq zU_r rfl⟩
  · refine wz_i0 (i3O (n := 8800) (i3A (i3M (show (4400 : Int32) = i3 4400 from rfl) (rfl : i3 a1 = i3 a1)) (rfl : i3 n = i3 n)) (by omega) (by omega) (by omega)) ?_
    refine wz_i0 (i3O (n := 4400) (rfl : i3 n = i3 n) (by omega) (by omega) (by omega)) ?_
    obtain ⟨Z2, hZ2⟩ := zx (zpq Z 81 0 0 (4400 * a1) 2 0 0 0 (n + 1))
    have hz := hZ2.trans (zpq_s (by decide) h0 (by omega : n = 0 + n) (by omega : (4400 * a1) + n = (4400 * a1) + n))
    intro μ9 e9
    replace e9 := e9.trans (zm_wI (ν := ν) hz (show ((0 : Nat) : Int) = 0 from rfl) (show ((0 : Nat) : Int) = 0 from rfl) (i3I (y := n) (rfl : i3 n = i3 n) (by omega) (by omega) (by omega)) (zm_rd (ν := ν) (k := 81) (show ((0 : Nat) : Int) = 0 from rfl) (show ((0 : Nat) : Int) = 0 from rfl) (i3I (y := (4400 * a1) + n) (i3A (i3M (show (4400 : Int32) = i3 4400 from rfl) (rfl : i3 a1 = i3 a1)) (rfl : i3 n = i3 n)) (by omega) (by omega) (by omega))))
    subst e9
    obtain ⟨m2, rfl⟩ : ∃ m2, m = m2 + 1 := ⟨m - 1, by omega⟩
    exact wz_k1 ⟨m2, by omega, n + 1, (zconso rfl (zconso (zvo (rfl : i3 a1 = i3 a1)) (zconso (zvo (i3A (rfl : i3 n = i3 n) (show (1 : Int32) = i3 1 from rfl))) rfl))), by rw [hZ2], by omega, by omega, by omega⟩
/-- the lot at a place goes, those behind it move up, the last one is nothing -/
def zps (Z : qz_Z) (d n : Int) : qz_Z := fun k b i j => if k = 2 ∧ b = 0 ∧ i = 0 ∧ d ≤ j ∧ j < d + n then Z 2 0 0 (j + 3) else Z k b i j
def zpz (Z : qz_Z) (d n : Int) : qz_Z := fun k b i j => if k = 2 ∧ b = 0 ∧ i = 0 ∧ d ≤ j ∧ j < d + n then 0 else Z k b i j
theorem zps_0 {Z : qz_Z} {d : Int} : zps Z d 0 = Z := by
  funext k b i j
  exact if_neg (fun q => by omega)
theorem zpz_0 {Z : qz_Z} {d : Int} : zpz Z d 0 = Z := by
  funext k b i j
  exact if_neg (fun q => by omega)
theorem zps_s {Z : qz_Z} {d n x y : Int} (hn : 0 ≤ n) (hx : x = d + n) (hy : y = d + n + 3) : zps Z d (n + 1) = zu (zps Z d n) 2 0 0 x (zps Z d n 2 0 0 y) := by
  subst hx hy
  have e : zps Z d n 2 0 0 (d + n + 3) = Z 2 0 0 (d + n + 3) := if_neg (fun q => by omega)
  rw [e]
  funext k b i j
  show (if k = 2 ∧ b = 0 ∧ i = 0 ∧ d ≤ j ∧ j < d + (n + 1) then Z 2 0 0 (j + 3) else Z k b i j) = (if k = 2 ∧ b = 0 ∧ i = 0 ∧ j = d + n then Z 2 0 0 (d + n + 3) else if k = 2 ∧ b = 0 ∧ i = 0 ∧ d ≤ j ∧ j < d + n then Z 2 0 0 (j + 3) else Z k b i j)
  by_cases c : k = 2 ∧ b = 0 ∧ i = 0
  · obtain ⟨rfl, rfl, rfl⟩ := c
    by_cases q : j = d + n
    · subst q
      rw [if_pos ⟨rfl, rfl, rfl, by omega, by omega⟩, if_pos ⟨rfl, rfl, rfl, rfl⟩]
    · rw [if_neg (c := _ ∧ _ ∧ _ ∧ j = d + n) (fun h => q h.2.2.2)]
      by_cases g : d ≤ j ∧ j < d + n
      · rw [if_pos ⟨rfl, rfl, rfl, g.1, by omega⟩, if_pos ⟨rfl, rfl, rfl, g⟩]
      · rw [if_neg (fun h => g ⟨h.2.2.2.1, by omega⟩), if_neg (fun h => g h.2.2.2)]
  · rw [if_neg (fun h => c ⟨h.1, h.2.1, h.2.2.1⟩), if_neg (fun h => c ⟨h.1, h.2.1, h.2.2.1⟩), if_neg (fun h => c ⟨h.1, h.2.1, h.2.2.1⟩)]
theorem zpz_s {Z : qz_Z} {d n x : Int} (hn : 0 ≤ n) (hx : x = d + n) : zpz Z d (n + 1) = zu (zpz Z d n) 2 0 0 x 0 := by
  subst hx
  funext k b i j
  show (if k = 2 ∧ b = 0 ∧ i = 0 ∧ d ≤ j ∧ j < d + (n + 1) then 0 else Z k b i j) = (if k = 2 ∧ b = 0 ∧ i = 0 ∧ j = d + n then 0 else if k = 2 ∧ b = 0 ∧ i = 0 ∧ d ≤ j ∧ j < d + n then 0 else Z k b i j)
  by_cases c : k = 2 ∧ b = 0 ∧ i = 0
  · obtain ⟨rfl, rfl, rfl⟩ := c
    by_cases q : j = d + n
    · subst q
      rw [if_pos ⟨rfl, rfl, rfl, by omega, by omega⟩, if_pos ⟨rfl, rfl, rfl, rfl⟩]
    · rw [if_neg (c := _ ∧ _ ∧ _ ∧ j = d + n) (fun h => q h.2.2.2)]
      by_cases g : d ≤ j ∧ j < d + n
      · rw [if_pos ⟨rfl, rfl, rfl, g.1, by omega⟩, if_pos ⟨rfl, rfl, rfl, g⟩]
      · rw [if_neg (fun h => g ⟨h.2.2.2.1, by omega⟩), if_neg (fun h => g h.2.2.2)]
  · rw [if_neg (fun h => c ⟨h.1, h.2.1, h.2.2.1⟩), if_neg (fun h => c ⟨h.1, h.2.1, h.2.2.1⟩), if_neg (fun h => c ⟨h.1, h.2.1, h.2.2.1⟩)]
def zf_312 (Z : qz_Z) (a1 a2 : Int) : qz_Z := zpz (zps (zu Z 2 0 0 (3015 + 60 * a1) (Z 2 0 0 (3015 + 60 * a1) - 1)) (3022 + 60 * a1 + 3 * a2) (3 * (Z 2 0 0 (3015 + 60 * a1) - 1 - a2))) (3022 + 60 * a1 + 3 * (Z 2 0 0 (3015 + 60 * a1) - 1)) 3
theorem z312_n {Z : qz_Z} {a1 a2 : Int} {k : Nat} {b i j : Int} (h : ¬ (k = 2 ∧ b = 0 ∧ i = 0)) : zf_312 Z a1 a2 k b i j = Z k b i j := by
  show (if _ then 0 else if _ then _ else if _ then _ else Z k b i j) = Z k b i j
  rw [if_neg (fun q => h ⟨q.1, q.2.1, q.2.2.1⟩), if_neg (fun q => h ⟨q.1, q.2.1, q.2.2.1⟩), if_neg (fun q => h ⟨q.1, q.2.1, q.2.2.1⟩)]
theorem z312_at {Z : qz_Z} {a1 a2 : Int} (h1 : 0 ≤ a1 ∧ a1 ≤ 1) (h2 : 0 ≤ a2) (hl : a2 < Z 2 0 0 (3015 + 60 * a1)) (hL : Z 2 0 0 (3015 + 60 * a1) ≤ 12) (j : Int) : zf_312 Z a1 a2 2 0 0 j = if j = 3015 + 60 * a1 then Z 2 0 0 (3015 + 60 * a1) - 1 else if 3022 + 60 * a1 + 3 * a2 ≤ j ∧ j < (3022 + 60 * a1 + 3 * (Z 2 0 0 (3015 + 60 * a1) - 1)) then Z 2 0 0 (j + 3) else if (3022 + 60 * a1 + 3 * (Z 2 0 0 (3015 + 60 * a1) - 1)) ≤ j ∧ j < (3022 + 60 * a1 + 3 * (Z 2 0 0 (3015 + 60 * a1) - 1)) + 3 then 0 else Z 2 0 0 j := by
  have e1 : ∀ x, x ≠ 3015 + 60 * a1 → (zu Z 2 0 0 (3015 + 60 * a1) (Z 2 0 0 (3015 + 60 * a1) - 1)) 2 0 0 x = Z 2 0 0 x := fun x hx => zu_ne rfl (fun q => hx q.2.2.2)
  show (if (2 : Nat) = 2 ∧ (0 : Int) = 0 ∧ (0 : Int) = 0 ∧ (3022 + 60 * a1 + 3 * (Z 2 0 0 (3015 + 60 * a1) - 1)) ≤ j ∧ j < (3022 + 60 * a1 + 3 * (Z 2 0 0 (3015 + 60 * a1) - 1)) + 3 then 0 else if (2 : Nat) = 2 ∧ (0 : Int) = 0 ∧ (0 : Int) = 0 ∧ (3022 + 60 * a1 + 3 * a2) ≤ j ∧ j < (3022 + 60 * a1 + 3 * a2) + 3 * (Z 2 0 0 (3015 + 60 * a1) - 1 - a2) then (zu Z 2 0 0 (3015 + 60 * a1) (Z 2 0 0 (3015 + 60 * a1) - 1)) 2 0 0 (j + 3) else (zu Z 2 0 0 (3015 + 60 * a1) (Z 2 0 0 (3015 + 60 * a1) - 1)) 2 0 0 j) = _
  by_cases q : j = 3015 + 60 * a1
  · subst q
    rw [if_neg (fun g => by omega), if_neg (fun g => by omega), if_pos rfl]
    exact zu_at rfl
  · rw [if_neg (c := j = 3015 + 60 * a1) q]
    by_cases g : (3022 + 60 * a1 + 3 * a2) ≤ j ∧ j < (3022 + 60 * a1 + 3 * (Z 2 0 0 (3015 + 60 * a1) - 1))
    · rw [if_neg (fun x => by omega), if_pos ⟨rfl, rfl, rfl, g.1, by omega⟩, if_pos g]
      exact e1 _ (by omega)
    · rw [if_neg (c := (3022 + 60 * a1 + 3 * a2) ≤ j ∧ j < (3022 + 60 * a1 + 3 * (Z 2 0 0 (3015 + 60 * a1) - 1))) g]
      by_cases w : (3022 + 60 * a1 + 3 * (Z 2 0 0 (3015 + 60 * a1) - 1)) ≤ j ∧ j < (3022 + 60 * a1 + 3 * (Z 2 0 0 (3015 + 60 * a1) - 1)) + 3
      · rw [if_pos ⟨rfl, rfl, rfl, w⟩, if_pos w]
      · rw [if_neg (fun x => w x.2.2.2), if_neg (fun x => g ⟨x.2.2.2.1, by omega⟩), if_neg w]
        exact e1 _ q
theorem zM_312 {s : zSM} {Z : qz_Z} {a1 a2 : Int} (h : zM s Z) (h1 : 0 ≤ a1 ∧ a1 ≤ 1) (h2 : 0 ≤ a2) (hl : a2 < Z 2 0 0 (3015 + 60 * a1)) (hL : Z 2 0 0 (3015 + 60 * a1) ≤ 12) : zM s (zf_312 Z a1 a2) := by
  have at1 := z312_at (Z := Z) h1 h2 hl hL
  have ne1 : ∀ {k : Nat} {b i j : Int}, k ≠ 2 → zf_312 Z a1 a2 k b i j = Z k b i j := fun hk => z312_n (fun q => hk q.1)
  have lo : ∀ j, j < 3010 ∨ 3130 ≤ j → zf_312 Z a1 a2 2 0 0 j = Z 2 0 0 j := fun j hj => by
    rw [at1, if_neg (by omega), if_neg (by omega), if_neg (by omega)]
  refine ⟨⟨⟨fun k' b' i' j' hk' => ?_, fun k' b' i' j' => ?_, fun n hn => ?_, fun hn => ?_⟩, ⟨fun b => ?_, fun b q => ?_, fun b i => ?_⟩⟩, zY_mk ?_ (fun p hp hn => zYr_e (h.2 p hp) (fun j => ne1 hn))⟩
  · by_cases c : k' = 2 ∧ b' = 0 ∧ i' = 0
    · obtain ⟨rfl, rfl, rfl⟩ := c
      rw [at1]
      split
      · next q =>
        subst q
        have := zM_k h 2 0 0 (3015 + 60 * a1) (lo := 0) (hi := 12) (by decide) (zs_3010_5 (x := a1) (by omega) (by omega) (by omega))
        rw [zs_3010_5 (x := a1) rfl (by omega) (by omega)]
        show (0 : Int) ≤ Z 2 0 0 (3015 + 60 * a1) - 1 ∧ Z 2 0 0 (3015 + 60 * a1) - 1 ≤ 12
        omega
      · split
        · next q =>
          rw [← zs_l3 (j := j') (by omega) (by omega)]
          exact h.1.1.1 2 0 0 (j' + 3) (by decide)
        · split
          · exact zr_0 _ _
          · exact h.1.1.1 2 0 0 j' (by decide)
    · rw [z312_n c]; exact h.1.1.1 _ _ _ _ hk'
  · by_cases c : k' = 2 ∧ b' = 0 ∧ i' = 0
    · obtain ⟨rfl, rfl, rfl⟩ := c
      rw [at1]
      split
      · have := h.1.1.2.1 2 0 0 (3015 + 60 * a1)
        omega
      · split
        · exact h.1.1.2.1 _ _ _ _
        · split
          · omega
          · exact h.1.1.2.1 _ _ _ _
    · rw [z312_n c]; exact h.1.1.2.1 _ _ _ _
  · rw [ne1 (by decide), ne1 (by decide)]; exact h.1.1.2.2.1 n hn
  · rw [ne1 (by decide)]; exact h.1.1.2.2.2 hn
  · rw [ne1 (by decide), ne1 (by decide)]; exact h.1.2.1 b
  · rw [ne1 (by decide), ne1 (by decide)]; exact h.1.2.2.1 b q
  · rw [ne1 (by decide)]; exact h.1.2.2.2 b i
  · have g := zY_2 h.2
    have s3 : ∀ c : Int, 0 ≤ c → c ≤ 1 → zf_312 Z a1 a2 2 0 0 (3013 + 60 * c) = Z 2 0 0 (3013 + 60 * c) := fun c _ _ => by
      rw [at1, if_neg (by omega), if_neg (by omega), if_neg (by omega)]
    refine ⟨?_, fun q h0 h3 => ?_, fun q h0 h3 => ?_, fun q h0 h3 => ?_, fun q h0 h3 => ?_, fun c p h0 h3 h4 h5 h6 => ?_, fun c h0 h3 => ?_, fun c h0 h3 => ?_, fun i h0 h3 => ?_⟩
    · show 0 ≤ zf_312 Z a1 a2 2 0 0 3814 ∧ zf_312 Z a1 a2 2 0 0 3814 ≤ _
      rw [lo 3814 (by omega)]; exact g.1
    · show zf_312 Z a1 a2 2 0 0 (2019 + 16 * q) = 1 → 0 ≤ zf_312 Z a1 a2 2 0 0 (2020 + 16 * q)
      rw [lo _ (by omega), lo _ (by omega)]; exact g.2.1 q h0 h3
    · show q < zf_312 Z a1 a2 2 0 0 102 → zf_312 Z a1 a2 2 0 0 (210 + 20 * q) ≤ 1 → 0 ≤ zf_312 Z a1 a2 2 0 0 (211 + 20 * q)
      rw [lo _ (by omega), lo _ (by omega), lo _ (by omega)]; exact g.2.2.1 q h0 h3
    · show q < zf_312 Z a1 a2 2 0 0 2000 → 1 ≤ zf_312 Z a1 a2 2 0 0 (2013 + 16 * q)
      rw [lo _ (by omega), lo _ (by omega)]; exact g.2.2.2.1 q h0 h3
    · show 0 ≤ zf_312 Z a1 a2 2 0 0 (1216 + 12 * q) ∧ zf_312 Z a1 a2 2 0 0 (1216 + 12 * q) ≤ _
      rw [lo _ (by omega)]; exact g.2.2.2.2.1 q h0 h3
    · have h6' : p < zf_312 Z a1 a2 2 0 0 (3015 + 60 * c) := h6
      show 1 ≤ zf_312 Z a1 a2 2 0 0 (3024 + 60 * c + 3 * p) ∧ zf_312 Z a1 a2 2 0 0 (3024 + 60 * c + 3 * p) ≤ zf_312 Z a1 a2 2 0 0 (3023 + 60 * c + 3 * p) ∧ zf_312 Z a1 a2 2 0 0 (3023 + 60 * c + 3 * p) ≤ zf_312 Z a1 a2 2 0 0 (3024 + 60 * c + 3 * p) + 200 * zf_312 Z a1 a2 2 0 0 (3013 + 60 * c) ∧ 1 ≤ zf_312 Z a1 a2 2 0 0 (3013 + 60 * c)
      rw [s3 c h0 h3]
      by_cases e : c = a1
      · subst e
        rw [at1, if_pos rfl] at h6'
        by_cases w : p < a2
        · rw [at1 (3024 + 60 * c + 3 * p), at1 (3023 + 60 * c + 3 * p), if_neg (by omega), if_neg (by omega), if_neg (by omega), if_neg (by omega), if_neg (by omega), if_neg (by omega)]
          exact g.2.2.2.2.2.1 c p h0 h3 h4 h5 (show p < Z 2 0 0 (3015 + 60 * c) by omega)
        · rw [at1 (3024 + 60 * c + 3 * p), at1 (3023 + 60 * c + 3 * p), if_neg (by omega), if_pos (by omega), if_neg (by omega), if_pos (by omega), show 3024 + 60 * c + 3 * p + 3 = 3024 + 60 * c + 3 * (p + 1) by omega, show 3023 + 60 * c + 3 * p + 3 = 3023 + 60 * c + 3 * (p + 1) by omega]
          exact g.2.2.2.2.2.1 c (p + 1) h0 h3 (by omega) (by omega) (show p + 1 < Z 2 0 0 (3015 + 60 * c) by omega)
      · have e5 : ∀ j, 3010 + 60 * c ≤ j → j < 3070 + 60 * c → zf_312 Z a1 a2 2 0 0 j = Z 2 0 0 j := fun j _ _ => by
          rw [at1, if_neg (by omega), if_neg (by omega), if_neg (by omega)]
        rw [e5 (3015 + 60 * c) (by omega) (by omega)] at h6'
        rw [e5 (3024 + 60 * c + 3 * p) (by omega) (by omega), e5 (3023 + 60 * c + 3 * p) (by omega) (by omega)]
        exact g.2.2.2.2.2.1 c p h0 h3 h4 h5 h6'
    · show c < zf_312 Z a1 a2 2 0 0 3000 → 1 ≤ zf_312 Z a1 a2 2 0 0 (3013 + 60 * c)
      rw [lo 3000 (by omega), s3 c h0 h3]; exact g.2.2.2.2.2.2.1 c h0 h3
    · show zf_312 Z a1 a2 2 0 0 3000 ≤ c → zf_312 Z a1 a2 2 0 0 (3015 + 60 * c) ≤ 0
      rw [lo 3000 (by omega)]
      intro h4
      have w : Z 2 0 0 (3015 + 60 * c) ≤ 0 := g.2.2.2.2.2.2.2.1 c h0 h3 h4
      by_cases e : c = a1
      · subst e
        omega
      · rw [at1, if_neg (by omega), if_neg (by omega), if_neg (by omega)]
        exact w
    · show i < zf_312 Z a1 a2 2 0 0 3815 → zf_312 Z a1 a2 2 0 0 (3850 + 8 * i) < zf_312 Z a1 a2 2 0 0 2000
      rw [lo 3815 (by omega), lo 2000 (by omega), lo _ (by omega)]
      exact g.2.2.2.2.2.2.2.2 i h0 h3
theorem sp_312 {s : zSM} {Z : qz_Z} {ν : qz_N} (hZ : zM s Z) {a1 : Int} (ga1 : 0 ≤ a1 ∧ a1 ≤ 1) {a2 : Int} (ga2 : 0 ≤ a2 ∧ a2 ≤ 11) (gx0 : a2 < Z 2 0 0 (3015 + 60 * a1)) (hM : s.2 + 0 ≤ 1000000000) : ∃ P : qz_Z, P = zf_312 Z a1 a2 ∧ (qf_312 [.inr (.inr (some (1, 0, 0))), .inl (i3 a1), .inl (i3 a2)] (zm Z ν) = some (zm P ν, .inl none) ∧ zM s P ∧ zC [2] Z P ∧ zU [] Z P) := by
  obtain ⟨P, hP⟩ := zx (zf_312 Z a1 a2)
  have hL := zM_k hZ 2 0 0 (3015 + 60 * a1) (lo := 0) (hi := 12) (by decide) (zs_3010_5 (x := a1) (by omega) (by omega) (by omega))
  refine zc_V (Q := fun P => zM s P ∧ zC [2] Z P ∧ zU [] Z P) hP (fw_312 (i3 a1) (i3 a2) _ _ ?_)
  refine wz_i0 (i3O (n := 4400) (i3A (i3A (show (3010 : Int32) = i3 3010 from rfl) (i3M (show (60 : Int32) = i3 60 from rfl) (rfl : i3 a1 = i3 a1))) (show (5 : Int32) = i3 5 from rfl)) (by omega) (by omega) (by omega)) ?_
  refine wz_i0 (i3O (n := 4400) (i3A (i3A (show (3010 : Int32) = i3 3010 from rfl) (i3M (show (60 : Int32) = i3 60 from rfl) (rfl : i3 a1 = i3 a1))) (show (5 : Int32) = i3 5 from rfl)) (by omega) (by omega) (by omega)) ?_
  obtain ⟨Z1, hZ1⟩ := zx (zu Z 2 0 0 (3015 + 60 * a1) (Z 2 0 0 (3015 + 60 * a1) - 1))
  have rd : ∀ (W : qz_Z), qz_im (zm W ν) 2 0 0 (((3010 : Int32) + ((60 : Int32) * i3 a1)) + (5 : Int32)).toNatClampNeg = i3 (W 2 0 0 (3015 + 60 * a1)) := fun W => zm_rd (Z := W) (ν := ν) (k := 2) (show ((0 : Nat) : Int) = 0 from rfl) (show ((0 : Nat) : Int) = 0 from rfl) (i3I (y := 3015 + 60 * a1) (i3A (i3A (show (3010 : Int32) = i3 3010 from rfl) (i3M (show (60 : Int32) = i3 60 from rfl) (rfl : i3 a1 = i3 a1))) (show (5 : Int32) = i3 5 from rfl)) (by omega) (by omega) (by omega))
  have l1 : qz_im (zm Z ν) 2 0 0 (((3010 : Int32) + ((60 : Int32) * i3 a1)) + (5 : Int32)).toNatClampNeg - (1 : Int32) = i3 (Z 2 0 0 (3015 + 60 * a1) - 1) := i3S (rd Z) (show (1 : Int32) = i3 1 from rfl)
  intro μ9 e9
  replace e9 := e9.trans (zm_wI (Z := Z) (ν := ν) hZ1 (show ((0 : Nat) : Int) = 0 from rfl) (show ((0 : Nat) : Int) = 0 from rfl) (i3I (y := 3015 + 60 * a1) (i3A (i3A (show (3010 : Int32) = i3 3010 from rfl) (i3M (show (60 : Int32) = i3 60 from rfl) (rfl : i3 a1 = i3 a1))) (show (5 : Int32) = i3 5 from rfl)) (by omega) (by omega) (by omega)) l1)
  subst e9
  rw [l1]
  obtain ⟨l, hl⟩ : ∃ l, l = Z 2 0 0 (3015 + 60 * a1) - 1 := ⟨_, rfl⟩
  rw [← hl]
  refine wz_lp sb_312_1 (fun m x => ∃ n : Int, qz_fg [true, true, false, true, true] x.1 = [some (.inr (.inr (some (1, 0, 0)))), some (.inl (i3 a1)), none, some (.inl (i3 l)), some (.inl (i3 (3022 + 60 * a1 + 3 * a2 + n)))] ∧ x.2 = ([], zm (zps Z1 (3022 + 60 * a1 + 3 * a2) n) ν) ∧ 0 ≤ n ∧ n ≤ 3 * (l - a2) ∧ m = (3 * (l - a2) - n).toNat) ?_ 65536 ((3 * (l - a2)).toNat) _ (by omega) ⟨0, (zconso rfl (zconso (zvo (rfl : i3 a1 = i3 a1)) (zconso rfl (zconso (zvo (rfl : i3 l = i3 l)) (zconso (zvo (Eq.trans (i3A (i3A (i3A (i3A (show (3010 : Int32) = i3 3010 from rfl) (i3M (show (60 : Int32) = i3 60 from rfl) (rfl : i3 a1 = i3 a1))) (show (12 : Int32) = i3 12 from rfl)) (i3M (show (3 : Int32) = i3 3 from rfl) (rfl : i3 a2 = i3 a2))) (show (0 : Int32) = i3 0 from rfl)) (congrArg i3 (by omega)))) rfl))))), by rw [zps_0], by omega, by omega, by omega⟩
  rintro m ⟨LL, st, μ⟩ ⟨n, hLL, hx, h0, h1, hm⟩
  cases hx
  refine fb_312_1 (i3 a1) (i3 l) (i3 (3022 + 60 * a1 + 3 * a2 + n)) _ _ _ _ hLL ?_
  refine wz_br (i3Le (i3A (i3A (i3A (i3A (show (3010 : Int32) = i3 3010 from rfl) (i3M (show (60 : Int32) = i3 60 from rfl) (rfl : i3 a1 = i3 a1))) (show (12 : Int32) = i3 12 from rfl)) (i3M (show (3 : Int32) = i3 3 from rfl) (rfl : i3 l = i3 l))) (show (0 : Int32) = i3 0 from rfl)) (rfl : i3 (3022 + 60 * a1 + 3 * a2 + n) = i3 (3022 + 60 * a1 + 3 * a2 + n)) (by omega) (by omega) (by omega) (by omega)) (fun q => ?_) (fun q => ?_)
  · have hn : n = 3 * (l - a2) := by omega
    subst hn
    refine fc_312_4 (i3 a1) (i3 l) _ _ _ _ (zconso rfl (zconso (zvo (rfl : i3 a1 = i3 a1)) (zconso rfl (zconso (zvo (rfl : i3 l = i3 l)) (zconso rfl rfl))))) ?_
    refine wz_lp sb_312_2 (fun m x => ∃ n : Int, qz_fg [true, true, false, true, true] x.1 = [some (.inr (.inr (some (1, 0, 0)))), some (.inl (i3 a1)), none, some (.inl (i3 l)), some (.inl (i3 n))] ∧ x.2 = ([], zm (zpz (zps Z1 (3022 + 60 * a1 + 3 * a2) (3 * (l - a2))) (3022 + 60 * a1 + 3 * l) n) ν) ∧ 0 ≤ n ∧ n ≤ 3 ∧ m = (3 - n).toNat) ?_ 65536 3 _ (by omega) ⟨0, (zconso rfl (zconso (zvo (rfl : i3 a1 = i3 a1)) (zconso rfl (zconso (zvo (rfl : i3 l = i3 l)) (zconso (zvo (show (0 : Int32) = i3 0 from rfl)) rfl))))), by rw [zpz_0], by omega, by omega, by omega⟩
    rintro m ⟨LL, st, μ⟩ ⟨n, hLL, hx, h0, h1, hm⟩
    cases hx
    refine fb_312_2 (i3 a1) (i3 l) (i3 n) _ _ _ _ hLL ?_
    refine wz_br (i3Le (show (3 : Int32) = i3 3 from rfl) (rfl : i3 n = i3 n) (by omega) (by omega) (by omega) (by omega)) (fun q => ?_) (fun q => ?_)
    · have hn : n = 3 := by omega
      subst hn
      refine fc_312_3 _ _ _ _ (by rfl) ?_
      subst hl hZ1
      have hM' := zM_312 hZ ga1 ga2.1 gx0 hL.2
      exact zlV hP ⟨hM', fun k b i j hk => by
        by_cases c : k = 2 ∧ b = 0 ∧ i = 0
        · obtain ⟨rfl, rfl, rfl⟩ := c
          have hj : j = 0 := by
            by_cases q : j = 0
            · exact q
            · have w : ([2] : List Nat).contains (if j = 0 then 1200 else 2) = false := hk
              rw [if_neg q] at w
              cases w
          subst hj
          show zf_312 Z a1 a2 2 0 0 0 = Z 2 0 0 0
          rw [z312_at ga1 ga2.1 gx0 hL.2, if_neg (by omega), if_neg (by omega), if_neg (by omega)]
        · exact z312_n c, fun k b i j hk _ => z312_n (fun q => by obtain ⟨rfl, rfl, rfl⟩ := q; cases hk)⟩
    · refine wz_i0 (i3O (n := 4400) (i3A (i3A (i3A (i3A (show (3010 : Int32) = i3 3010 from rfl) (i3M (show (60 : Int32) = i3 60 from rfl) (rfl : i3 a1 = i3 a1))) (show (12 : Int32) = i3 12 from rfl)) (i3M (show (3 : Int32) = i3 3 from rfl) (rfl : i3 l = i3 l))) (rfl : i3 n = i3 n)) (by omega) (by omega) (by omega)) ?_
      obtain ⟨Z2, hZ2⟩ := zx (zpz (zps Z1 (3022 + 60 * a1 + 3 * a2) (3 * (l - a2))) (3022 + 60 * a1 + 3 * l) (n + 1))
      have hz := hZ2.trans (zpz_s (x := 3022 + 60 * a1 + 3 * l + n) h0 rfl)
      intro μ9 e9
      replace e9 := e9.trans (zm_wI (ν := ν) hz (show ((0 : Nat) : Int) = 0 from rfl) (show ((0 : Nat) : Int) = 0 from rfl) (i3I (y := 3022 + 60 * a1 + 3 * l + n) (i3A (i3A (i3A (i3A (show (3010 : Int32) = i3 3010 from rfl) (i3M (show (60 : Int32) = i3 60 from rfl) (rfl : i3 a1 = i3 a1))) (show (12 : Int32) = i3 12 from rfl)) (i3M (show (3 : Int32) = i3 3 from rfl) (rfl : i3 l = i3 l))) (rfl : i3 n = i3 n)) (by omega) (by omega) (by omega)) (show (0 : Int32) = i3 0 from rfl))
      subst e9
      obtain ⟨m2, rfl⟩ : ∃ m2, m = m2 + 1 := ⟨m - 1, by omega⟩
      exact wz_k1 ⟨m2, by omega, n + 1, (zconso rfl (zconso (zvo (rfl : i3 a1 = i3 a1)) (zconso rfl (zconso (zvo (rfl : i3 l = i3 l)) (zconso (zvo (i3A (rfl : i3 n = i3 n) (show (1 : Int32) = i3 1 from rfl))) rfl))))), by rw [hZ2], by omega, by omega, by omega⟩
  · refine wz_i0 (i3O (n := 4400) (i3A (rfl : i3 (3022 + 60 * a1 + 3 * a2 + n) = i3 (3022 + 60 * a1 + 3 * a2 + n)) (show (3 : Int32) = i3 3 from rfl)) (by omega) (by omega) (by omega)) ?_
    refine wz_i0 (i3O (n := 4400) (rfl : i3 (3022 + 60 * a1 + 3 * a2 + n) = i3 (3022 + 60 * a1 + 3 * a2 + n)) (by omega) (by omega) (by omega)) ?_
    obtain ⟨Z2, hZ2⟩ := zx (zps Z1 (3022 + 60 * a1 + 3 * a2) (n + 1))
    have hz := hZ2.trans (zps_s (x := 3022 + 60 * a1 + 3 * a2 + n) (y := 3022 + 60 * a1 + 3 * a2 + n + 3) h0 rfl rfl)
    intro μ9 e9
    replace e9 := e9.trans (zm_wI (ν := ν) hz (show ((0 : Nat) : Int) = 0 from rfl) (show ((0 : Nat) : Int) = 0 from rfl) (i3I (y := 3022 + 60 * a1 + 3 * a2 + n) (rfl : i3 (3022 + 60 * a1 + 3 * a2 + n) = i3 (3022 + 60 * a1 + 3 * a2 + n)) rfl (by omega) (by omega)) (zm_rd (ν := ν) (k := 2) (show ((0 : Nat) : Int) = 0 from rfl) (show ((0 : Nat) : Int) = 0 from rfl) (i3I (y := 3022 + 60 * a1 + 3 * a2 + n + 3) (i3A (rfl : i3 (3022 + 60 * a1 + 3 * a2 + n) = i3 (3022 + 60 * a1 + 3 * a2 + n)) (show (3 : Int32) = i3 3 from rfl)) rfl (by omega) (by omega))))
    subst e9
    obtain ⟨m2, rfl⟩ : ∃ m2, m = m2 + 1 := ⟨m - 1, by omega⟩
    exact wz_k1 ⟨m2, by omega, n + 1, (zconso rfl (zconso (zvo (rfl : i3 a1 = i3 a1)) (zconso rfl (zconso (zvo (rfl : i3 l = i3 l)) (zconso (zvo (Eq.trans (i3A (rfl : i3 (3022 + 60 * a1 + 3 * a2 + n) = i3 (3022 + 60 * a1 + 3 * a2 + n)) (show (1 : Int32) = i3 1 from rfl)) (congrArg i3 (by omega)))) rfl))))), by rw [hZ2], by omega, by omega, by omega⟩
theorem zn_312 {Z Z1 : qz_Z} {a1 a2 : Int} (hz : Z1 = zf_312 Z a1 a2) (h1 : 0 ≤ a1 ∧ a1 ≤ 1) (h2 : 0 ≤ a2) (h3 : a2 < Z 2 0 0 (3015 + 60 * a1) ∧ Z 2 0 0 (3015 + 60 * a1) ≤ 12) {j : Int} (hj : j < 3010) : Z1 2 0 0 j = Z 2 0 0 j := by
  rw [hz, z312_at h1 h2 h3.1 h3.2, if_neg (by omega), if_neg (by omega), if_neg (by omega)]
/-- a deed that isn't laid down: the reference is quiet -/
def zq0 (Z : qz_Z) (_ _ _ _ _ _ _ : Int) : qz_Z := Z
theorem zl_q {α β : Type} {v w : α} {k : α → β} {P : β} (h : zE P (zlet v k)) (e : v = w) : zE P (k w) := by
  subst e
  exact h
