/-! THE RECORD of the reference: undo (541). -/
def yun0 (Z : qz_Z) : qz_Z := zu (zu Z 1 0 0 2 0) 1 0 0 34 (Z 1 0 0 34 - 1)
def yun1 (Z : qz_Z) : qz_Z := zu (zpq (yun0 Z) 101 0 0 (4400 * (Z 1 0 0 34 - 1)) 2 0 0 0 4400) 1 0 0 37 (Z 1 0 0 37 - 1)
def yun2 (Z : qz_Z) (r : qz_R) : qz_Z := if Z r.1 r.2.1 r.2.2 (7 * (Z 1 0 0 37 - 1)) ≠ 29 then zu (yun1 Z) 1 0 0 39 (Z 1 0 0 39) else zu (yun1 Z) 1 0 0 39 (Z r.1 r.2.1 r.2.2 (7 * (Z 1 0 0 37 - 1) + 1))
/-- undo: the memory, what it tells -/
def yun (Z : qz_Z) (r : qz_R) : qz_Z × Int := if Z 1 0 0 34 ≤ 0 then (zu Z 1 0 0 2 1, 0) else (yun2 Z r, Z 1 0 0 34 - 1)
theorem yun0_ne {Z : qz_Z} {k : Nat} {b i j : Int} (h : ¬ (k = 1 ∧ (j = 2 ∨ j = 34))) : yun0 Z k b i j = Z k b i j := by
  unfold yun0
  rw [zu_ne rfl (fun q => h ⟨q.1, .inr q.2.2.2⟩), zu_ne rfl (fun q => h ⟨q.1, .inl q.2.2.2⟩)]
theorem yun1_ne {Z : qz_Z} {k : Nat} {b i j : Int} (h : ¬ (k = 1 ∧ (j = 2 ∨ j = 34 ∨ j = 37))) (h2 : k ≠ 2) : yun1 Z k b i j = Z k b i j := by
  unfold yun1
  rw [zu_ne rfl (fun q => h ⟨q.1, .inr (.inr q.2.2.2)⟩), zpq_ne h2, yun0_ne (fun q => h ⟨q.1, by rcases q.2 with q | q; exact .inl q; exact .inr (.inl q)⟩)]
theorem yun1_2 {Z : qz_Z} {j : Int} (h0 : 0 ≤ j) (h1 : j < 4400) : yun1 Z 2 0 0 j = Z 101 0 0 (4400 * (Z 1 0 0 34 - 1) + j) := by
  unfold yun1
  rw [zu_ne rfl (fun q => absurd q.1 (by decide))]
  show (if (2 : Nat) = 2 ∧ (0 : Int) = 0 ∧ (0 : Int) = 0 ∧ 0 ≤ j ∧ j < 0 + 4400 then yun0 Z 101 0 0 (j - 0 + 4400 * (Z 1 0 0 34 - 1)) else yun0 Z 2 0 0 j) = _
  rw [if_pos ⟨rfl, rfl, rfl, h0, by omega⟩, yun0_ne (fun q => absurd q.1 (by decide)), show j - 0 + 4400 * (Z 1 0 0 34 - 1) = 4400 * (Z 1 0 0 34 - 1) + j by omega]
set_option maxRecDepth 20000 in
theorem sp_541 {s : zSM} {Z : qz_Z} {ν : qz_N} {r : qz_R} {len : Nat} (hZ : zM s Z) (hr : zRr ν r len) (e36 : ν.2.1 1 0 0 36 = some r) (h37 : 0 < Z 1 0 0 34 → 1 ≤ Z 1 0 0 37) (h7 : 7 * Z 1 0 0 37 ≤ len) : qf_541 [.inr (.inr (some (1, 0, 0)))] (zm Z ν) = some (zm (yun Z r).1 ν, .inl (some (.inl (i3 (yun Z r).2)))) := by
  have hl := hr.2.1
  have k1 : r.1 ≠ 1 ∧ r.1 ≠ 2 := by
    rcases hr.1 with h | h | ⟨h, _⟩ <;> omega
  have r34 := zM_k hZ 1 0 0 34 (lo := 0) (hi := 8) (by decide) rfl
  have e34 := zm_rd (Z := Z) (ν := ν) (k := 1) (b := 0) (i := 0) (j := 34) (show ((0 : Nat) : Int) = 0 from rfl) (show ((0 : Nat) : Int) = 0 from rfl) (show ((34 : Nat) : Int) = 34 from rfl)
  refine wz_call_eq (fw_541 _ _ ?_)
  refine wz_br (i3Le e34 (show (0 : Int32) = i3 0 from rfl) (by omega) (by omega) (by omega) (by omega)) (fun q => ?_) (fun q => ?_)
  · have eY : yun Z r = (zu Z 1 0 0 2 1, 0) := if_pos q
    intro μ1 e1
    replace e1 := e1.trans (zm_wI (ν := ν) (rfl : zu Z 1 0 0 2 1 = _) (show ((0 : Nat) : Int) = 0 from rfl) (show ((0 : Nat) : Int) = 0 from rfl) (show ((2 : Nat) : Int) = 2 from rfl) (show (1 : Int32) = i3 1 from rfl))
    subst e1
    rw [eY]
    exact ⟨rfl, rfl⟩
  have h37' := h37 (by omega)
  have eY : yun Z r = (yun2 Z r, Z 1 0 0 34 - 1) := if_neg q
  intro μ2 e2
  replace e2 := e2.trans (zm_wI (ν := ν) (rfl : zu Z 1 0 0 2 0 = _) (show ((0 : Nat) : Int) = 0 from rfl) (show ((0 : Nat) : Int) = 0 from rfl) (show ((2 : Nat) : Int) = 2 from rfl) (show (0 : Int32) = i3 0 from rfl))
  subst e2
  have f34 := zm_rd (Z := zu Z 1 0 0 2 0) (ν := ν) (k := 1) (b := 0) (i := 0) (j := 34) (show ((0 : Nat) : Int) = 0 from rfl) (show ((0 : Nat) : Int) = 0 from rfl) (show ((34 : Nat) : Int) = 34 from rfl)
  rw [zu_ne rfl (fun q => absurd q.2.2.2 (by decide))] at f34
  intro μ3 e3
  replace e3 := e3.trans (zm_wI (ν := ν) (rfl : yun0 Z = zu (zu Z 1 0 0 2 0) 1 0 0 34 (Z 1 0 0 34 - 1)) (show ((0 : Nat) : Int) = 0 from rfl) (show ((0 : Nat) : Int) = 0 from rfl) (show ((34 : Nat) : Int) = 34 from rfl) (i3S f34 (show (1 : Int32) = i3 1 from rfl)))
  subst e3
  have v34 : yun0 Z 1 0 0 34 = Z 1 0 0 34 - 1 := zu_at rfl
  refine wz_lp sb_541_1 (fun m x => ∃ n : Int, qz_fg [true, true] x.1 = [some (.inr (.inr (some (1, 0, 0)))), some (.inl (i3 n))] ∧ x.2 = ([], zm (zpq (yun0 Z) 101 0 0 (4400 * (Z 1 0 0 34 - 1)) 2 0 0 0 n) ν) ∧ 0 ≤ n ∧ n ≤ 4400 ∧ m = (4400 - n).toNat) ?_ 65536 4400 _ (by omega) ⟨0, (zconso rfl (zconso (zvo (show (0 : Int32) = i3 0 from rfl)) rfl)), by rw [zpq_0], by omega, by omega, by omega⟩
  rintro m ⟨L, st, μ⟩ ⟨n, hL, hx, h0, h1, hm⟩
  cases hx
  have q34 : zpq (yun0 Z) 101 0 0 (4400 * (Z 1 0 0 34 - 1)) 2 0 0 0 n 1 0 0 34 = Z 1 0 0 34 - 1 := (zpq_ne (by decide)).trans v34
  have g34 := zm_rd (Z := zpq (yun0 Z) 101 0 0 (4400 * (Z 1 0 0 34 - 1)) 2 0 0 0 n) (ν := ν) (k := 1) (b := 0) (i := 0) (j := 34) (show ((0 : Nat) : Int) = 0 from rfl) (show ((0 : Nat) : Int) = 0 from rfl) (show ((34 : Nat) : Int) = 34 from rfl)
  rw [q34] at g34
  refine fb_541_1 (i3 n) _ _ _ _ hL ?_
  refine wz_br (i3Le (show (4400 : Int32) = i3 4400 from rfl) (rfl : i3 n = i3 n) (by omega) (by omega) (by omega) (by omega)) (fun qn => ?_) (fun qn => ?_)
  · have hn : n = 4400 := by omega
    subst hn
    refine fc_541_2 _ _ _ _ (by rfl) ?_
    have q37 : zpq (yun0 Z) 101 0 0 (4400 * (Z 1 0 0 34 - 1)) 2 0 0 0 4400 1 0 0 37 = Z 1 0 0 37 := (zpq_ne (by decide)).trans (yun0_ne (fun q => absurd q.2 (by decide)))
    have g37 := zm_rd (Z := zpq (yun0 Z) 101 0 0 (4400 * (Z 1 0 0 34 - 1)) 2 0 0 0 4400) (ν := ν) (k := 1) (b := 0) (i := 0) (j := 37) (show ((0 : Nat) : Int) = 0 from rfl) (show ((0 : Nat) : Int) = 0 from rfl) (show ((37 : Nat) : Int) = 37 from rfl)
    rw [q37] at g37
    intro μ4 e4
    replace e4 := e4.trans (zm_wI (ν := ν) (rfl : yun1 Z = zu (zpq (yun0 Z) 101 0 0 (4400 * (Z 1 0 0 34 - 1)) 2 0 0 0 4400) 1 0 0 37 (Z 1 0 0 37 - 1)) (show ((0 : Nat) : Int) = 0 from rfl) (show ((0 : Nat) : Int) = 0 from rfl) (show ((37 : Nat) : Int) = 37 from rfl) (i3S g37 (show (1 : Int32) = i3 1 from rfl)))
    subst e4
    have v37 : yun1 Z 1 0 0 37 = Z 1 0 0 37 - 1 := zu_at rfl
    have k37 := zm_rd (Z := yun1 Z) (ν := ν) (k := 1) (b := 0) (i := 0) (j := 37) (show ((0 : Nat) : Int) = 0 from rfl) (show ((0 : Nat) : Int) = 0 from rfl) (show ((37 : Nat) : Int) = 37 from rfl)
    rw [v37] at k37
    have x37 := i3M (show (7 : Int32) = i3 7 from rfl) k37
    obtain ⟨t1, t2⟩ := hr.2.2 (yun1 Z)
    have nr : ∀ a, yun1 Z r.1 r.2.1 r.2.2 a = Z r.1 r.2.1 r.2.2 a := fun a => yun1_ne (fun q => k1.1 q.1) k1.2
    have w34 : yun1 Z 1 0 0 34 = Z 1 0 0 34 - 1 := (zu_ne rfl (fun q => absurd q.2.2.2 (by decide))).trans q34
    have d := zm_rd (Z := yun1 Z) (ν := ν) (k := r.1) (b := r.2.1) (i := r.2.2) (j := ((7 : Int32) * (zm (yun1 Z) ν).1 1 0 0 37).toNatClampNeg) rfl rfl (i3I (y := 7 * (Z 1 0 0 37 - 1)) x37 rfl (by omega) (by omega))
    rw [nr] at d
    have rg := hZ.1.1.2.1 r.1 r.2.1 r.2.2 (7 * (Z 1 0 0 37 - 1))
    refine wz_rko e36 ?_
    refine wz_i1 (by rw [t1]; rfl) ?_
    refine wz_i0 (by rw [t2]; exact i3O (n := len) x37 (by omega) (by omega) (by omega)) ?_
    refine wz_br (i3NE d (show (29 : Int32) = i3 29 from rfl) (by omega) (by omega) (by omega) (by omega)) (fun qc => ?_) (fun qc => ?_)
    · have e2 : yun2 Z r = zu (yun1 Z) 1 0 0 39 (Z 1 0 0 39) := if_pos qc
      have k39 := zm_rd (Z := yun1 Z) (ν := ν) (k := 1) (b := 0) (i := 0) (j := 39) (show ((0 : Nat) : Int) = 0 from rfl) (show ((0 : Nat) : Int) = 0 from rfl) (show ((39 : Nat) : Int) = 39 from rfl)
      rw [yun1_ne (fun q => absurd q.2 (by decide)) (by decide)] at k39
      intro μ5 e5
      replace e5 := e5.trans (zm_wI (ν := ν) e2 (show ((0 : Nat) : Int) = 0 from rfl) (show ((0 : Nat) : Int) = 0 from rfl) (show ((39 : Nat) : Int) = 39 from rfl) k39)
      subst e5
      rw [eY]
      refine ⟨rfl, ?_⟩
      have v := zm_rd (Z := yun2 Z r) (ν := ν) (k := 1) (b := 0) (i := 0) (j := 34) (show ((0 : Nat) : Int) = 0 from rfl) (show ((0 : Nat) : Int) = 0 from rfl) (show ((34 : Nat) : Int) = 34 from rfl)
      rw [e2, zu_ne rfl (fun q => absurd q.2.2.2 (by decide)), w34] at v
      rw [e2, v]
    · have e2 : yun2 Z r = zu (yun1 Z) 1 0 0 39 (Z r.1 r.2.1 r.2.2 (7 * (Z 1 0 0 37 - 1) + 1)) := if_neg qc
      have y37 := i3A x37 (show (1 : Int32) = i3 1 from rfl)
      have d2 := zm_rd (Z := yun1 Z) (ν := ν) (k := r.1) (b := r.2.1) (i := r.2.2) (j := ((7 : Int32) * (zm (yun1 Z) ν).1 1 0 0 37 + 1).toNatClampNeg) rfl rfl (i3I (y := 7 * (Z 1 0 0 37 - 1) + 1) y37 rfl (by omega) (by omega))
      rw [nr] at d2
      refine wz_rko e36 ?_
      refine wz_i1 (by rw [t1]; rfl) ?_
      refine wz_i0 (by rw [t2]; exact i3O (n := len) y37 (by omega) (by omega) (by omega)) ?_
      intro μ5 e5
      replace e5 := e5.trans (zm_wI (ν := ν) e2 (show ((0 : Nat) : Int) = 0 from rfl) (show ((0 : Nat) : Int) = 0 from rfl) (show ((39 : Nat) : Int) = 39 from rfl) d2)
      subst e5
      rw [eY]
      refine ⟨rfl, ?_⟩
      have v := zm_rd (Z := yun2 Z r) (ν := ν) (k := 1) (b := 0) (i := 0) (j := 34) (show ((0 : Nat) : Int) = 0 from rfl) (show ((0 : Nat) : Int) = 0 from rfl) (show ((34 : Nat) : Int) = 34 from rfl)
      rw [e2, zu_ne rfl (fun q => absurd q.2.2.2 (by decide)), w34] at v
      rw [e2, v]
  · refine wz_i0 (i3O (n := 35200) (i3A (i3M g34 (show (4400 : Int32) = i3 4400 from rfl)) (rfl : i3 n = i3 n)) (by omega) (by omega) (by omega)) ?_
    refine wz_i0 (i3O (n := 4400) (rfl : i3 n = i3 n) (by omega) (by omega) (by omega)) ?_
    obtain ⟨Z2, hZ2⟩ := zx (zpq (yun0 Z) 101 0 0 (4400 * (Z 1 0 0 34 - 1)) 2 0 0 0 (n + 1))
    have hz := hZ2.trans (zpq_s (by decide) h0 (by omega : n = 0 + n) (by omega : 4400 * (Z 1 0 0 34 - 1) + n = 4400 * (Z 1 0 0 34 - 1) + n))
    intro μ9 e9
    replace e9 := e9.trans (zm_wI (ν := ν) hz (show ((0 : Nat) : Int) = 0 from rfl) (show ((0 : Nat) : Int) = 0 from rfl) (i3I (y := n) (rfl : i3 n = i3 n) (by omega) (by omega) (by omega)) (zm_rd (ν := ν) (k := 101) (show ((0 : Nat) : Int) = 0 from rfl) (show ((0 : Nat) : Int) = 0 from rfl) (i3I (y := 4400 * (Z 1 0 0 34 - 1) + n) (i3A (i3M g34 (show (4400 : Int32) = i3 4400 from rfl)) (rfl : i3 n = i3 n)) (by omega) (by omega) (by omega))))
    subst e9
    obtain ⟨m2, rfl⟩ : ∃ m2, m = m2 + 1 := ⟨m - 1, by omega⟩
    exact wz_k1 ⟨m2, by omega, n + 1, (zconso rfl (zconso (zvo (i3A (rfl : i3 n = i3 n) (show (1 : Int32) = i3 1 from rfl))) rfl)), by rw [hZ2], by omega, by omega, by omega⟩
theorem zM_un {s : zSM} {Z : qz_Z} {r : qz_R} (hZ : zM s Z) (h37 : 0 < Z 1 0 0 34 → 1 ≤ Z 1 0 0 37) : zM s (yun Z r).1 := by
  have r34 := zM_k hZ 1 0 0 34 (lo := 0) (hi := 8) (by decide) rfl
  have rg := hZ.1.1.2.1
  by_cases q : Z 1 0 0 34 ≤ 0
  · have eY : yun Z r = (zu Z 1 0 0 2 1, 0) := if_pos q
    rw [eY]
    exact zM_u hZ rfl (by decide) (lo := -2147483648) (hi := 2147483647) rfl ⟨by omega, by omega⟩ ⟨by decide, by decide⟩ (.inr (by decide)) rfl
  have eY : yun Z r = (yun2 Z r, Z 1 0 0 34 - 1) := if_neg q
  have h37' := h37 (by omega)
  rw [eY]
  have m1 : zM s (zu Z 1 0 0 2 0) := zM_u hZ rfl (by decide) (lo := -2147483648) (hi := 2147483647) rfl ⟨by omega, by omega⟩ ⟨by decide, by decide⟩ (.inr (by decide)) rfl
  have m2 : zM s (yun0 Z) := zM_u m1 rfl (by decide) (lo := 0) (hi := 8) rfl ⟨by omega, by omega⟩ ⟨by decide, by decide⟩ (.inr (by decide)) rfl
  have me : (101, Z 1 0 0 34 - 1) ∈ zYs := by
    have c8 : Z 1 0 0 34 = 1 ∨ Z 1 0 0 34 = 2 ∨ Z 1 0 0 34 = 3 ∨ Z 1 0 0 34 = 4 ∨ Z 1 0 0 34 = 5 ∨ Z 1 0 0 34 = 6 ∨ Z 1 0 0 34 = 7 ∨ Z 1 0 0 34 = 8 := by omega
    rcases c8 with e | e | e | e | e | e | e | e <;> (rw [e]; decide)
  have m3 := zM_pq (Z1 := zpq (yun0 Z) 101 0 0 (4400 * (Z 1 0 0 34 - 1)) 2 0 0 0 4400) (c := Z 1 0 0 34 - 1) (c1 := 0) m2 me (by decide) rfl rfl rfl
  have g37 := rg 1 0 0 37
  have m4 : zM s (yun1 Z) := zM_u m3 rfl (by decide) (lo := -2147483648) (hi := 2147483647) rfl ⟨by omega, by omega⟩ ⟨by decide, by decide⟩ (.inr (by decide)) rfl
  show zM s (yun2 Z r)
  unfold yun2
  split
  · exact zM_u m4 rfl (by decide) (lo := -2147483648) (hi := 2147483647) rfl (rg _ _ _ _) ⟨by decide, by decide⟩ (.inr (by decide)) rfl
  · exact zM_u m4 rfl (by decide) (lo := -2147483648) (hi := 2147483647) rfl (rg _ _ _ _) ⟨by decide, by decide⟩ (.inr (by decide)) rfl
