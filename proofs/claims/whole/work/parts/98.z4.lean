/-! THE RECORD of the reference: again (257), signs laid down (564). -/
theorem sp_424_f {Z : qz_Z} {ν : qz_N} {a : Int} (ha : -2147483648 ≤ a ∧ a ≤ 2147483647) (h : a < 0 ∨ 1 < a) : qf_424 [.inr (.inr (some (1, 0, 0))), .inl (i3 a)] (zm Z ν) = some (zm (zu Z 1 0 0 2 1) ν, .inl (some (.inl (i3 0)))) := by
  refine wz_call_eq (fw_424 (i3 a) _ _ ?_)
  refine wz_br (i3L (rfl : i3 a = i3 a) (show (0 : Int32) = i3 0 from rfl) (by omega) (by omega) (by omega) (by omega)) (fun q => ?_) (fun q => ?_)
  · exact wz_wIo (j' := 2) (e := 1) rfl rfl ⟨rfl, rfl⟩
  refine wz_br (i3L (show (1 : Int32) = i3 1 from rfl) (rfl : i3 a = i3 a) (by omega) (by omega) (by omega) (by omega)) (fun q2 => ?_) (fun q2 => ?_)
  · exact wz_wIo (j' := 2) (e := 1) rfl rfl ⟨rfl, rfl⟩
  · exact absurd h (by omega)
theorem sp_257_f {Z : qz_Z} {ν : qz_N} {a : Int} (ha : -2147483648 ≤ a ∧ a ≤ 2147483647) (h : a < 0 ∨ 1 < a) : qf_257 [.inr (.inr (some (1, 0, 0))), .inl (i3 a)] (zm Z ν) = some (zm (zu Z 1 0 0 2 1) ν, .inl (some (.inl (i3 0)))) := by
  refine wz_call_eq (fw_257 (i3 a) _ _ ?_)
  refine wz_br (i3L (rfl : i3 a = i3 a) (show (0 : Int32) = i3 0 from rfl) (by omega) (by omega) (by omega) (by omega)) (fun q => ?_) (fun q => ?_)
  · exact wz_wIo (j' := 2) (e := 1) rfl rfl ⟨rfl, rfl⟩
  refine wz_br (i3L (show (1 : Int32) = i3 1 from rfl) (rfl : i3 a = i3 a) (by omega) (by omega) (by omega) (by omega)) (fun q2 => ?_) (fun q2 => ?_)
  · exact wz_wIo (j' := 2) (e := 1) rfl rfl ⟨rfl, rfl⟩
  · exact absurd h (by omega)
/-- again: the row, the record, the signs -/
def yag0 (Z : qz_Z) (a : Int) : qz_Z := zpq (zu (zu Z 1 0 0 2 0) 1 0 0 2 0) 104 0 0 (4400 * a) 2 0 0 0 4400
def yag1 (Z : qz_Z) (a : Int) : qz_Z := zu (zu (yag0 Z a) 1 0 0 37 (Z 109 0 0 a)) 1 0 0 39 (Z 110 0 0 a)
def nag0 (Z : qz_Z) (ν : qz_N) (a : Int) : qz_N := nwr (nal ν 50 1 (7 * Z 109 0 0 a + 70).toNat 1 (7 * Z 109 0 0 a + 70).toNat) 1 0 0 36 (some (200, ν.2.2.2.1, 0))
def nag (Z : qz_Z) (ν : qz_N) (a : Int) : qz_N := nwr (nal (nag0 Z ν a) 50 1 (Z 110 0 0 a + 64).toNat 1 (Z 110 0 0 a + 64).toNat) 1 0 0 38 (some (200, ν.2.2.2.1 + 1, 0))
def yag2 (Z : qz_Z) (ν : qz_N) (x1 x3 : qz_R) (a : Int) : qz_Z := zxr (zxr (yag1 Z a) ν x1 (7 * Z 109 0 0 a)) (nag0 Z ν a) x3 (Z 110 0 0 a)
def yag (Z : qz_Z) (ν : qz_N) (x1 x3 : qz_R) (a : Int) : qz_Z := zu (yag2 Z ν x1 x3 a) 1 0 0 34 0
theorem yag0_ne {Z : qz_Z} {a : Int} {k : Nat} {b i j : Int} (h : k ≠ 2) (h1 : ¬ (k = 1 ∧ j = 2)) : yag0 Z a k b i j = Z k b i j := by
  unfold yag0
  rw [zpq_ne h, zu_ne rfl (fun q => h1 ⟨q.1, q.2.2.2⟩), zu_ne rfl (fun q => h1 ⟨q.1, q.2.2.2⟩)]
theorem yag1_37 {Z : qz_Z} {a : Int} : yag1 Z a 1 0 0 37 = Z 109 0 0 a := by
  unfold yag1
  rw [zu_ne rfl (fun q => absurd q.2.2.2 (by decide)), zu_at rfl]
theorem yag1_39 {Z : qz_Z} {a : Int} : yag1 Z a 1 0 0 39 = Z 110 0 0 a := by
  unfold yag1
  rw [zu_at rfl]
set_option maxRecDepth 20000 in
theorem sp_257_0n {Z : qz_Z} {ν : qz_N} (hi : Z 111 0 0 0 ≠ 1) (hr : -2147483648 ≤ Z 111 0 0 0 ∧ Z 111 0 0 0 ≤ 2147483647) : qf_257 [.inr (.inr (some (1, 0, 0))), .inl (i3 0)] (zm Z ν) = some (zm (zu (zu Z 1 0 0 2 0) 1 0 0 2 2) ν, .inl (some (.inl (i3 0)))) := by
  refine wz_call_eq (fw_257 (i3 0) _ _ ?_)
  refine wz_i0 (by decide) ?_
  refine wz_i0 (by decide) ?_
  refine wz_wIo (j' := 2) (e := 0) rfl rfl ?_
  refine wz_i0 (by decide) ?_
  have d : (zm (zu Z 1 0 0 2 0) ν).1 111 0 0 (i3 0).toNatClampNeg = i3 (Z 111 0 0 0) := zm_f (j' := 0) rfl (zu_ne rfl (fun q => absurd q.1 (by decide)))
  refine wz_i1 (Eq.trans (i3NE d (show (1 : Int32) = i3 1 from rfl) (by omega) (by omega) (by omega) (by omega)) (decide_eq_true hi)) ?_
  exact wz_wIo (j' := 2) (e := 2) rfl rfl ⟨rfl, rfl⟩
set_option maxRecDepth 20000 in
theorem sp_257_0 {Z : qz_Z} {ν : qz_N} {x1 x3 : qz_R} {len len8 : Nat} (hi : Z 111 0 0 0 = 1) (h1r : zRr ν x1 len) (h3r : zRr ν x3 len8) (e41 : ν.2.1 1 0 0 41 = some x1) (e43 : ν.2.1 1 0 0 43 = some x3) (h37 : 0 ≤ Z 109 0 0 0) (h7 : 7 * Z 109 0 0 0 ≤ len) (hl : len ≤ 60000) (h39 : 0 ≤ Z 110 0 0 0) (h9 : Z 110 0 0 0 ≤ len8) (hl8 : len8 ≤ 60000) : qf_257 [.inr (.inr (some (1, 0, 0))), .inl (i3 0)] (zm Z ν) = some (zm (yag Z ν x1 x3 0) (nag Z ν 0), .inl (some (.inl (i3 (Z 109 0 0 0))))) := by
  refine wz_call_eq (fw_257 (i3 0) _ _ ?_)
  refine wz_i0 (by decide) ?_
  refine wz_i0 (by decide) ?_
  refine wz_wIo (j' := 2) (e := 0) rfl rfl ?_
  refine wz_i0 (by decide) ?_
  have d : (zm (zu Z 1 0 0 2 0) ν).1 111 0 0 (i3 0).toNatClampNeg = i3 1 := zm_f (j' := 0) rfl ((zu_ne rfl (fun q => absurd q.1 (by decide))).trans hi)
  refine wz_i0 (Eq.trans (i3NE d (show (1 : Int32) = i3 1 from rfl) (by omega) (by omega) (by omega) (by omega)) (decide_eq_false (by omega))) ?_
  refine wz_wIo (j' := 2) (e := 0) rfl rfl ?_
  refine wz_lp sb_257_1 (fun m x => ∃ n : Int, qz_fg [true, true, true] x.1 = [some (.inr (.inr (some (1, 0, 0)))), some (.inl (i3 0)), some (.inl (i3 n))] ∧ x.2 = ([], zm (zpq (zu (zu Z 1 0 0 2 0) 1 0 0 2 0) 104 0 0 (4400 * 0) 2 0 0 0 n) ν) ∧ 0 ≤ n ∧ n ≤ 4400 ∧ m = (4400 - n).toNat) ?_ 65536 4400 _ (by omega) ⟨0, (zconso rfl (zconso rfl (zconso (zvo (show (0 : Int32) = i3 0 from rfl)) rfl))), by rw [zpq_0], by omega, by omega, by omega⟩
  rintro m ⟨L, st, μ⟩ ⟨n, hL, hx, h0, h1, hm⟩
  cases hx
  refine fb_257_1 (i3 0) (i3 n) _ _ _ _ hL ?_
  refine wz_br (i3Le (show (4400 : Int32) = i3 4400 from rfl) (rfl : i3 n = i3 n) (by omega) (by omega) (by omega) (by omega)) (fun qn => ?_) (fun qn => ?_)
  · have hn : n = 4400 := by omega
    subst hn
    refine fc_257_2 (i3 0) _ _ _ _ (by rfl) ?_
    refine wz_i0 (by decide) ?_
    refine wz_wIo (j' := 37) (e := Z 109 0 0 0) rfl (zm_f (j' := 0) rfl (yag0_ne (Z := Z) (a := 0) (by decide) (fun q => absurd q.1 (by decide)))) ?_
    refine wz_i0 (by decide) ?_
    refine wz_wIo (j' := 39) (e := Z 110 0 0 0) rfl (zm_f (j' := 0) rfl ((zu_ne rfl (fun q => absurd q.1 (by decide))).trans (yag0_ne (Z := Z) (a := 0) (by decide) (fun q => absurd q.1 (by decide))))) ?_
    refine wz_i0 (by decide) ?_
    refine wz_rko e41 ?_
    have k37 : (zm (yag1 Z 0) ν).1 1 0 0 37 = i3 (Z 109 0 0 0) := zm_f (j' := 37) rfl yag1_37
    have x37 := i3M (show (7 : Int32) = i3 7 from rfl) k37
    have x70 := i3A x37 (show (70 : Int32) = i3 70 from rfl)
    have c5 := sp_565 (Z := yag1 Z 0) (many := 7 * Z 109 0 0 0) (size := 7 * Z 109 0 0 0 + 70) h1r (by omega) (by omega) (by omega) (by omega) (by omega)
    refine wz_cR_of (zas (zcons rfl (zcons (zvi x37) (zcons (zvi x70) rfl))) c5) ?_
    refine wz_wRo ?_
    refine wz_i0 (by decide) ?_
    have hr9 : zRr (nag0 Z ν 0) x3 len8 := zRr_w (zRr_a h3r)
    have e9 : (nag0 Z ν 0).2.1 1 0 0 43 = some x3 := (nwr_ne (by decide)).trans ((nal_r (by decide)).trans e43)
    refine wz_rko e9 ?_
    have k39 : (zm (zxr (yag1 Z 0) ν x1 (7 * Z 109 0 0 0)) (nag0 Z ν 0)).1 1 0 0 39 = i3 (Z 110 0 0 0) := zm_f (j' := 39) rfl ((zxr_ne (by decide)).trans yag1_39)
    have x64 := i3A k39 (show (64 : Int32) = i3 64 from rfl)
    have c6 := sp_565 (Z := zxr (yag1 Z 0) ν x1 (7 * Z 109 0 0 0)) (many := Z 110 0 0 0) (size := Z 110 0 0 0 + 64) hr9 (by omega) (by omega) (by omega) (by omega) (by omega)
    refine wz_cR_of (zas (zcons rfl (zcons (zvi k39) (zcons (zvi x64) rfl))) c6) ?_
    refine wz_wRo ?_
    refine wz_wIo (j' := 34) (e := 0) rfl rfl ?_
    refine ⟨rfl, ?_⟩
    have z37 : yag2 Z ν x1 x3 0 1 0 0 37 = Z 109 0 0 0 := by
      unfold yag2
      rw [zxr_ne (by decide), zxr_ne (by decide), yag1_37]
    exact congrArg (fun v => Sum.inl (some (Sum.inl v))) (zm_f (j' := 37) rfl ((zu_ne rfl (fun q => absurd q.2.2.2 (by decide))).trans z37))
  · refine wz_i0 (i3O (n := 8800) (i3A (i3M (show (4400 : Int32) = i3 4400 from rfl) (rfl : i3 0 = i3 0)) (rfl : i3 n = i3 n)) (by omega) (by omega) (by omega)) ?_
    refine wz_i0 (i3O (n := 4400) (rfl : i3 n = i3 n) (by omega) (by omega) (by omega)) ?_
    obtain ⟨Z2, hZ2⟩ := zx (zpq (zu (zu Z 1 0 0 2 0) 1 0 0 2 0) 104 0 0 (4400 * 0) 2 0 0 0 (n + 1))
    have hz := hZ2.trans (zpq_s (by decide) h0 (by omega : n = 0 + n) (by omega : 4400 * 0 + n = 4400 * 0 + n))
    intro μ9 e9
    replace e9 := e9.trans (zm_wI (ν := ν) hz (show ((0 : Nat) : Int) = 0 from rfl) (show ((0 : Nat) : Int) = 0 from rfl) (i3I (y := n) (rfl : i3 n = i3 n) (by omega) (by omega) (by omega)) (zm_rd (ν := ν) (k := 104) (show ((0 : Nat) : Int) = 0 from rfl) (show ((0 : Nat) : Int) = 0 from rfl) (i3I (y := 4400 * 0 + n) (i3A (i3M (show (4400 : Int32) = i3 4400 from rfl) (rfl : i3 0 = i3 0)) (rfl : i3 n = i3 n)) (by omega) (by omega) (by omega))))
    subst e9
    obtain ⟨m2, rfl⟩ : ∃ m2, m = m2 + 1 := ⟨m - 1, by omega⟩
    exact wz_k1 ⟨m2, by omega, n + 1, (zconso rfl (zconso rfl (zconso (zvo (i3A (rfl : i3 n = i3 n) (show (1 : Int32) = i3 1 from rfl))) rfl))), by rw [hZ2], by omega, by omega, by omega⟩
set_option maxRecDepth 20000 in
theorem sp_257_1n {Z : qz_Z} {ν : qz_N} (hi : Z 111 0 0 1 ≠ 1) (hr : -2147483648 ≤ Z 111 0 0 1 ∧ Z 111 0 0 1 ≤ 2147483647) : qf_257 [.inr (.inr (some (1, 0, 0))), .inl (i3 1)] (zm Z ν) = some (zm (zu (zu Z 1 0 0 2 0) 1 0 0 2 2) ν, .inl (some (.inl (i3 0)))) := by
  refine wz_call_eq (fw_257 (i3 1) _ _ ?_)
  refine wz_i0 (by decide) ?_
  refine wz_i0 (by decide) ?_
  refine wz_wIo (j' := 2) (e := 0) rfl rfl ?_
  refine wz_i0 (by decide) ?_
  have d : (zm (zu Z 1 0 0 2 0) ν).1 111 0 0 (i3 1).toNatClampNeg = i3 (Z 111 0 0 1) := zm_f (j' := 1) rfl (zu_ne rfl (fun q => absurd q.1 (by decide)))
  refine wz_i1 (Eq.trans (i3NE d (show (1 : Int32) = i3 1 from rfl) (by omega) (by omega) (by omega) (by omega)) (decide_eq_true hi)) ?_
  exact wz_wIo (j' := 2) (e := 2) rfl rfl ⟨rfl, rfl⟩
set_option maxRecDepth 20000 in
theorem sp_257_1 {Z : qz_Z} {ν : qz_N} {x1 x3 : qz_R} {len len8 : Nat} (hi : Z 111 0 0 1 = 1) (h1r : zRr ν x1 len) (h3r : zRr ν x3 len8) (e42 : ν.2.1 1 0 0 42 = some x1) (e44 : ν.2.1 1 0 0 44 = some x3) (h37 : 0 ≤ Z 109 0 0 1) (h7 : 7 * Z 109 0 0 1 ≤ len) (hl : len ≤ 60000) (h39 : 0 ≤ Z 110 0 0 1) (h9 : Z 110 0 0 1 ≤ len8) (hl8 : len8 ≤ 60000) : qf_257 [.inr (.inr (some (1, 0, 0))), .inl (i3 1)] (zm Z ν) = some (zm (yag Z ν x1 x3 1) (nag Z ν 1), .inl (some (.inl (i3 (Z 109 0 0 1))))) := by
  refine wz_call_eq (fw_257 (i3 1) _ _ ?_)
  refine wz_i0 (by decide) ?_
  refine wz_i0 (by decide) ?_
  refine wz_wIo (j' := 2) (e := 0) rfl rfl ?_
  refine wz_i0 (by decide) ?_
  have d : (zm (zu Z 1 0 0 2 0) ν).1 111 0 0 (i3 1).toNatClampNeg = i3 1 := zm_f (j' := 1) rfl ((zu_ne rfl (fun q => absurd q.1 (by decide))).trans hi)
  refine wz_i0 (Eq.trans (i3NE d (show (1 : Int32) = i3 1 from rfl) (by omega) (by omega) (by omega) (by omega)) (decide_eq_false (by omega))) ?_
  refine wz_wIo (j' := 2) (e := 0) rfl rfl ?_
  refine wz_lp sb_257_1 (fun m x => ∃ n : Int, qz_fg [true, true, true] x.1 = [some (.inr (.inr (some (1, 0, 0)))), some (.inl (i3 1)), some (.inl (i3 n))] ∧ x.2 = ([], zm (zpq (zu (zu Z 1 0 0 2 0) 1 0 0 2 0) 104 0 0 (4400 * 1) 2 0 0 0 n) ν) ∧ 0 ≤ n ∧ n ≤ 4400 ∧ m = (4400 - n).toNat) ?_ 65536 4400 _ (by omega) ⟨0, (zconso rfl (zconso rfl (zconso (zvo (show (0 : Int32) = i3 0 from rfl)) rfl))), by rw [zpq_0], by omega, by omega, by omega⟩
  rintro m ⟨L, st, μ⟩ ⟨n, hL, hx, h0, h1, hm⟩
  cases hx
  refine fb_257_1 (i3 1) (i3 n) _ _ _ _ hL ?_
  refine wz_br (i3Le (show (4400 : Int32) = i3 4400 from rfl) (rfl : i3 n = i3 n) (by omega) (by omega) (by omega) (by omega)) (fun qn => ?_) (fun qn => ?_)
  · have hn : n = 4400 := by omega
    subst hn
    refine fc_257_2 (i3 1) _ _ _ _ (by rfl) ?_
    refine wz_i0 (by decide) ?_
    refine wz_wIo (j' := 37) (e := Z 109 0 0 1) rfl (zm_f (j' := 1) rfl (yag0_ne (Z := Z) (a := 1) (by decide) (fun q => absurd q.1 (by decide)))) ?_
    refine wz_i0 (by decide) ?_
    refine wz_wIo (j' := 39) (e := Z 110 0 0 1) rfl (zm_f (j' := 1) rfl ((zu_ne rfl (fun q => absurd q.1 (by decide))).trans (yag0_ne (Z := Z) (a := 1) (by decide) (fun q => absurd q.1 (by decide))))) ?_
    refine wz_i1 (by decide) ?_
    refine wz_rko e42 ?_
    have k37 : (zm (yag1 Z 1) ν).1 1 0 0 37 = i3 (Z 109 0 0 1) := zm_f (j' := 37) rfl yag1_37
    have x37 := i3M (show (7 : Int32) = i3 7 from rfl) k37
    have x70 := i3A x37 (show (70 : Int32) = i3 70 from rfl)
    have c5 := sp_565 (Z := yag1 Z 1) (many := 7 * Z 109 0 0 1) (size := 7 * Z 109 0 0 1 + 70) h1r (by omega) (by omega) (by omega) (by omega) (by omega)
    refine wz_cR_of (zas (zcons rfl (zcons (zvi x37) (zcons (zvi x70) rfl))) c5) ?_
    refine wz_wRo ?_
    refine wz_i1 (by decide) ?_
    have hr9 : zRr (nag0 Z ν 1) x3 len8 := zRr_w (zRr_a h3r)
    have e9 : (nag0 Z ν 1).2.1 1 0 0 44 = some x3 := (nwr_ne (by decide)).trans ((nal_r (by decide)).trans e44)
    refine wz_rko e9 ?_
    have k39 : (zm (zxr (yag1 Z 1) ν x1 (7 * Z 109 0 0 1)) (nag0 Z ν 1)).1 1 0 0 39 = i3 (Z 110 0 0 1) := zm_f (j' := 39) rfl ((zxr_ne (by decide)).trans yag1_39)
    have x64 := i3A k39 (show (64 : Int32) = i3 64 from rfl)
    have c6 := sp_565 (Z := zxr (yag1 Z 1) ν x1 (7 * Z 109 0 0 1)) (many := Z 110 0 0 1) (size := Z 110 0 0 1 + 64) hr9 (by omega) (by omega) (by omega) (by omega) (by omega)
    refine wz_cR_of (zas (zcons rfl (zcons (zvi k39) (zcons (zvi x64) rfl))) c6) ?_
    refine wz_wRo ?_
    refine wz_wIo (j' := 34) (e := 0) rfl rfl ?_
    refine ⟨rfl, ?_⟩
    have z37 : yag2 Z ν x1 x3 1 1 0 0 37 = Z 109 0 0 1 := by
      unfold yag2
      rw [zxr_ne (by decide), zxr_ne (by decide), yag1_37]
    exact congrArg (fun v => Sum.inl (some (Sum.inl v))) (zm_f (j' := 37) rfl ((zu_ne rfl (fun q => absurd q.2.2.2 (by decide))).trans z37))
  · refine wz_i0 (i3O (n := 8800) (i3A (i3M (show (4400 : Int32) = i3 4400 from rfl) (rfl : i3 1 = i3 1)) (rfl : i3 n = i3 n)) (by omega) (by omega) (by omega)) ?_
    refine wz_i0 (i3O (n := 4400) (rfl : i3 n = i3 n) (by omega) (by omega) (by omega)) ?_
    obtain ⟨Z2, hZ2⟩ := zx (zpq (zu (zu Z 1 0 0 2 0) 1 0 0 2 0) 104 0 0 (4400 * 1) 2 0 0 0 (n + 1))
    have hz := hZ2.trans (zpq_s (by decide) h0 (by omega : n = 0 + n) (by omega : 4400 * 1 + n = 4400 * 1 + n))
    intro μ9 e9
    replace e9 := e9.trans (zm_wI (ν := ν) hz (show ((0 : Nat) : Int) = 0 from rfl) (show ((0 : Nat) : Int) = 0 from rfl) (i3I (y := n) (rfl : i3 n = i3 n) (by omega) (by omega) (by omega)) (zm_rd (ν := ν) (k := 104) (show ((0 : Nat) : Int) = 0 from rfl) (show ((0 : Nat) : Int) = 0 from rfl) (i3I (y := 4400 * 1 + n) (i3A (i3M (show (4400 : Int32) = i3 4400 from rfl) (rfl : i3 1 = i3 1)) (rfl : i3 n = i3 n)) (by omega) (by omega) (by omega))))
    subst e9
    obtain ⟨m2, rfl⟩ : ∃ m2, m = m2 + 1 := ⟨m - 1, by omega⟩
    exact wz_k1 ⟨m2, by omega, n + 1, (zconso rfl (zconso rfl (zconso (zvo (i3A (rfl : i3 n = i3 n) (show (1 : Int32) = i3 1 from rfl))) rfl))), by rw [hZ2], by omega, by omega, by omega⟩
theorem zM_kpa {s : zSM} {Z : qz_Z} {ν : qz_N} {r r8 : qz_R} {a : Int} (h : zM s Z) (hs : s.1 = none) (ha : a = 0 ∨ a = 1) : zM s (ykp Z ν r r8 a) := by
  have rg := h.1.1.2.1
  have m1 : zM s (zu Z 1 0 0 2 0) := zM_u h rfl (by decide) (lo := -2147483648) (hi := 2147483647) rfl ⟨by omega, by omega⟩ ⟨by decide, by decide⟩ (.inr (by decide)) rfl
  have m2 : zM s (ykp0 Z a) := zM_pq (c := 0) (c1 := a) m1 (by decide) (by rcases ha with rfl | rfl <;> decide) rfl rfl rfl
  have m3 : zM s (ykp1 Z ν r r8 a) := zM_xr (zM_xr m2 hs) hs
  rcases ha with rfl | rfl
  · exact zM_u (zM_u (zM_u m3 rfl (by decide) (lo := -2147483648) (hi := 2147483647) rfl (rg _ _ _ _) ⟨by decide, by decide⟩ (.inl (by decide)) rfl) rfl (by decide) (lo := -2147483648) (hi := 2147483647) rfl (rg _ _ _ _) ⟨by decide, by decide⟩ (.inl (by decide)) rfl) rfl (by decide) (lo := 0) (hi := 1) rfl ⟨by omega, by omega⟩ ⟨by decide, by decide⟩ (.inl (by decide)) rfl
  · exact zM_u (zM_u (zM_u m3 rfl (by decide) (lo := -2147483648) (hi := 2147483647) rfl (rg _ _ _ _) ⟨by decide, by decide⟩ (.inl (by decide)) rfl) rfl (by decide) (lo := -2147483648) (hi := 2147483647) rfl (rg _ _ _ _) ⟨by decide, by decide⟩ (.inl (by decide)) rfl) rfl (by decide) (lo := 0) (hi := 1) rfl ⟨by omega, by omega⟩ ⟨by decide, by decide⟩ (.inl (by decide)) rfl
theorem zM_ag {s : zSM} {Z : qz_Z} {ν : qz_N} {x1 x3 : qz_R} {a : Int} (h : zM s Z) (hs : s.1 = none) (ha : a = 0 ∨ a = 1) : zM s (yag Z ν x1 x3 a) := by
  have rg := h.1.1.2.1
  have m1 : zM s (zu Z 1 0 0 2 0) := zM_u h rfl (by decide) (lo := -2147483648) (hi := 2147483647) rfl ⟨by omega, by omega⟩ ⟨by decide, by decide⟩ (.inr (by decide)) rfl
  have m1' : zM s (zu (zu Z 1 0 0 2 0) 1 0 0 2 0) := zM_u m1 rfl (by decide) (lo := -2147483648) (hi := 2147483647) rfl ⟨by omega, by omega⟩ ⟨by decide, by decide⟩ (.inr (by decide)) rfl
  have m2 : zM s (yag0 Z a) := zM_pq (c := a) (c1 := 0) m1' (by rcases ha with rfl | rfl <;> decide) (by decide) rfl rfl rfl
  have m3 : zM s (yag1 Z a) := zM_u (zM_u m2 rfl (by decide) (lo := -2147483648) (hi := 2147483647) rfl (rg _ _ _ _) ⟨by decide, by decide⟩ (.inr (by decide)) rfl) rfl (by decide) (lo := -2147483648) (hi := 2147483647) rfl (rg _ _ _ _) ⟨by decide, by decide⟩ (.inr (by decide)) rfl
  exact zM_u (zM_xr (zM_xr m3 hs) hs) rfl (by decide) (lo := 0) (hi := 8) rfl ⟨by omega, by omega⟩ ⟨by decide, by decide⟩ (.inr (by decide)) rfl
