/-! THE RECORD of the reference: keep (424), again (257). -/
theorem nwr_ne {ν : qz_N} {k b i j k' b' i' j' : Nat} {v : Option qz_R} (h : ¬ (k' = k ∧ b' = b ∧ i' = i ∧ j' = j)) : (nwr ν k b i j v).2.1 k' b' i' j' = ν.2.1 k' b' i' j' := if_neg h
theorem wz_wRo {Z : qz_Z} {ν : qz_N} {j : Nat} {v : Option qz_R} {K : qz_M → Prop} (h : K (zm Z (nwr ν 1 0 0 j v))) : wz_wr (qz_wR (zm Z ν) (1, 0, 0) j v) K := by
  intro μ e
  replace e : μ = zm Z (nwr ν 1 0 0 j v) := e
  subst e
  exact h
theorem wz_wIo {Z : qz_Z} {ν : qz_N} {k j : Nat} {v : Int32} {j' e : Int} {K : qz_M → Prop} (hj : (j : Int) = j') (hv : v = i3 e) (h : K (zm (zu Z k 0 0 j' e) ν)) : wz_wr (qz_wI (zm Z ν) (k, 0, 0) j v) K := by
  intro μ q
  replace q := q.trans (zm_wI (ν := ν) (rfl : zu Z k 0 0 j' e = _) (show ((0 : Nat) : Int) = 0 from rfl) (show ((0 : Nat) : Int) = 0 from rfl) hj hv)
  subst q
  exact h
theorem zm_f {Z : qz_Z} {ν : qz_N} {k j : Nat} {j' e : Int} (hj : (j : Int) = j') (he : Z k 0 0 j' = e) : (zm Z ν).1 k 0 0 j = i3 e := by
  rw [← he]
  exact zm_rd (show ((0 : Nat) : Int) = 0 from rfl) (show ((0 : Nat) : Int) = 0 from rfl) hj
theorem zxr_ne {Z : qz_Z} {ν : qz_N} {r : qz_R} {m : Int} {k : Nat} {b i j : Int} (h : k ≠ 200) : zxr Z ν r m k b i j = Z k b i j := by
  unfold zxr
  rw [zpq_ne h, zzr_ne (fun q => h q.1)]
theorem zM_xr {s : zSM} {Z : qz_Z} {ν : qz_N} {r : qz_R} {m : Int} (h : zM s Z) (hs : s.1 = none) : zM s (zxr Z ν r m) := zM_rec h hs (fun k b i j n2 _ _ _ => zxr_ne n2) (zi32_pq (zi32_z h.1.1.2.1))
theorem zxr_at {Z : qz_Z} {ν : qz_N} {r : qz_R} {m : Int} {len : Nat} (hr : zRr ν r len) {j : Int} (h0 : 0 ≤ j) (h1 : j < m) : zxr Z ν r m 200 ν.2.2.2.1 0 j = Z r.1 r.2.1 r.2.2 j := by
  unfold zxr
  show (if (200 : Nat) = 200 ∧ (ν.2.2.2.1 : Int) = ν.2.2.2.1 ∧ (0 : Int) = 0 ∧ 0 ≤ j ∧ j < 0 + m then zzr Z ν.2.2.2.1 r.1 r.2.1 r.2.2 (j - 0 + 0) else _) = _
  rw [if_pos ⟨rfl, rfl, rfl, h0, by omega⟩, show j - 0 + 0 = j by omega]
  refine zzr_ne (fun q => ?_)
  rcases hr.1 with h | h | ⟨_, h⟩
  · omega
  · omega
  · have := q.2
    omega
/-- keep: the row, the record, the signs -/
def ykp0 (Z : qz_Z) (a : Int) : qz_Z := zpq (zu Z 1 0 0 2 0) 2 0 0 0 104 0 0 (4400 * a) 4400
def nkp0 (Z : qz_Z) (ν : qz_N) : qz_N := nal ν 50 1 (7 * Z 1 0 0 37).toNat 1 (7 * Z 1 0 0 37).toNat
def nkp1 (Z : qz_Z) (ν : qz_N) : qz_N := nal (nkp0 Z ν) 50 1 (Z 1 0 0 39).toNat 1 (Z 1 0 0 39).toNat
def ykp1 (Z : qz_Z) (ν : qz_N) (r r8 : qz_R) (a : Int) : qz_Z := zxr (zxr (ykp0 Z a) ν r (7 * Z 1 0 0 37)) (nkp0 Z ν) r8 (Z 1 0 0 39)
def ykp (Z : qz_Z) (ν : qz_N) (r r8 : qz_R) (a : Int) : qz_Z := zu (zu (zu (ykp1 Z ν r r8 a) 109 0 0 a (Z 1 0 0 37)) 110 0 0 a (Z 1 0 0 39)) 111 0 0 a 1
def nkp (Z : qz_Z) (ν : qz_N) (x1 x2 x3 x4 : qz_R) : qz_N := nwr (nwr (nwr (nwr (nkp1 Z ν) 1 0 0 41 (some x1)) 1 0 0 42 (some x2)) 1 0 0 43 (some x3)) 1 0 0 44 (some x4)
theorem ykp0_ne {Z : qz_Z} {a : Int} {k : Nat} {b i j : Int} (h : k ≠ 104) (h1 : ¬ (k = 1 ∧ j = 2)) : ykp0 Z a k b i j = Z k b i j := by
  unfold ykp0
  rw [zpq_ne h, zu_ne rfl (fun q => h1 ⟨q.1, q.2.2.2⟩)]
theorem ykp1_ne {Z : qz_Z} {ν : qz_N} {r r8 : qz_R} {a : Int} {k : Nat} {b i j : Int} (h : k ≠ 104) (h1 : ¬ (k = 1 ∧ j = 2)) (h2 : k ≠ 200) : ykp1 Z ν r r8 a k b i j = Z k b i j := by
  unfold ykp1
  rw [zxr_ne h2, zxr_ne h2, ykp0_ne h h1]
theorem nkp_r {Z : qz_Z} {ν : qz_N} {j : Nat} : (nkp1 Z ν).2.1 1 0 0 j = ν.2.1 1 0 0 j := by
  unfold nkp1 nkp0
  rw [nal_r (by decide), nal_r (by decide)]
set_option maxRecDepth 20000 in
theorem sp_424_0 {Z : qz_Z} {ν : qz_N} {r r8 r1 r2 r3 r4 : qz_R} {len len8 : Nat} (hr : zRr ν r len) (hr8 : zRr ν r8 len8) (e36 : ν.2.1 1 0 0 36 = some r) (e38 : ν.2.1 1 0 0 38 = some r8) (e41 : ν.2.1 1 0 0 41 = some r1) (e42 : ν.2.1 1 0 0 42 = some r2) (e43 : ν.2.1 1 0 0 43 = some r3) (e44 : ν.2.1 1 0 0 44 = some r4) (h37 : 0 ≤ Z 1 0 0 37) (h7 : 7 * Z 1 0 0 37 ≤ len) (hl : len ≤ 60000) (h39 : 0 ≤ Z 1 0 0 39) (h9 : Z 1 0 0 39 ≤ len8) (hl8 : len8 ≤ 60000) : qf_424 [.inr (.inr (some (1, 0, 0))), .inl (i3 0)] (zm Z ν) = some (zm (ykp Z ν r r8 0) (nkp Z ν (200, ν.2.2.2.1, 0) r2 (200, ν.2.2.2.1 + 1, 0) r4), .inl (some (.inl (i3 (Z 1 0 0 37))))) := by
  refine wz_call_eq (fw_424 (i3 0) _ _ ?_)
  refine wz_i0 (by decide) ?_
  refine wz_i0 (by decide) ?_
  refine wz_wIo (j' := 2) (e := 0) rfl rfl ?_
  refine wz_lp sb_424_1 (fun m x => ∃ n : Int, qz_fg [true, true, true, false] x.1 = [some (.inr (.inr (some (1, 0, 0)))), some (.inl (i3 0)), some (.inl (i3 n)), none] ∧ x.2 = ([], zm (zpq (zu Z 1 0 0 2 0) 2 0 0 0 104 0 0 (4400 * 0) n) ν) ∧ 0 ≤ n ∧ n ≤ 4400 ∧ m = (4400 - n).toNat) ?_ 65536 4400 _ (by omega) ⟨0, (zconso rfl (zconso rfl (zconso (zvo (show (0 : Int32) = i3 0 from rfl)) rfl))), by rw [zpq_0], by omega, by omega, by omega⟩
  rintro m ⟨L, st, μ⟩ ⟨n, hL, hx, h0, h1, hm⟩
  cases hx
  refine fb_424_1 (i3 0) (i3 n) _ _ _ _ hL ?_
  refine wz_br (i3Le (show (4400 : Int32) = i3 4400 from rfl) (rfl : i3 n = i3 n) (by omega) (by omega) (by omega) (by omega)) (fun qn => ?_) (fun qn => ?_)
  · have hn : n = 4400 := by omega
    subst hn
    refine fc_424_2 (i3 0) _ _ _ _ (by rfl) ?_
    have k37 : (zm (ykp0 Z 0) ν).1 1 0 0 37 = i3 (Z 1 0 0 37) := zm_f (j' := 37) rfl (ykp0_ne (by decide) (fun q => absurd q.2 (by decide)))
    have x37 := i3M (show (7 : Int32) = i3 7 from rfl) k37
    have c5 := sp_565 (Z := ykp0 Z 0) (many := 7 * Z 1 0 0 37) (size := 7 * Z 1 0 0 37) hr (by omega) (by omega) (by omega) (by omega) (by omega)
    refine wz_rko e36 ?_
    refine wz_cR_of (zas (zcons rfl (zcons (zvi x37) (zcons (zvi x37) rfl))) c5) ?_
    have hr9 : zRr (nkp0 Z ν) r8 len8 := zRr_a hr8
    have e38' : (nkp0 Z ν).2.1 1 0 0 38 = some r8 := (nal_r (by decide)).trans e38
    refine wz_rko e38' ?_
    have c6 := sp_565 (Z := zxr (ykp0 Z 0) ν r (7 * Z 1 0 0 37)) (many := Z 1 0 0 39) (size := Z 1 0 0 39) hr9 (by omega) (by omega) (by omega) (by omega) (by omega)
    have k39 : (zm (zxr (ykp0 Z 0) ν r (7 * Z 1 0 0 37)) (nkp0 Z ν)).1 1 0 0 39 = i3 (Z 1 0 0 39) := zm_f (j' := 39) rfl ((zxr_ne (by decide)).trans (ykp0_ne (by decide) (fun q => absurd q.2 (by decide))))
    refine wz_cR_of (zas (zcons rfl (zcons (zvi k39) (zcons (zvi k39) rfl))) c6) ?_
    refine wz_i0 (by decide) ?_
    refine wz_wRo ?_
    refine wz_i1 (by decide) ?_
    refine wz_rko (((nwr_ne (by decide)).trans nkp_r).trans e42) ?_
    refine wz_wRo ?_
    refine wz_i0 (by decide) ?_
    refine wz_wRo ?_
    refine wz_i1 (by decide) ?_
    refine wz_rko (((nwr_ne (by decide)).trans ((nwr_ne (by decide)).trans ((nwr_ne (by decide)).trans nkp_r))).trans e44) ?_
    refine wz_wRo ?_
    have z37 : ykp1 Z ν r r8 0 1 0 0 37 = Z 1 0 0 37 := ykp1_ne (by decide) (fun q => absurd q.2 (by decide)) (by decide)
    have z39 : ykp1 Z ν r r8 0 1 0 0 39 = Z 1 0 0 39 := ykp1_ne (by decide) (fun q => absurd q.2 (by decide)) (by decide)
    have n1 : ∀ (X : qz_Z) (k : Nat) (a v j : Int), k ≠ 1 → zu X k 0 0 a v 1 0 0 j = X 1 0 0 j := fun X k a v j h => zu_ne rfl (fun q => h q.1.symm)
    refine wz_i0 (by decide) ?_
    refine wz_wIo (j' := 0) (e := Z 1 0 0 37) rfl (zm_f (j' := 37) rfl z37) ?_
    refine wz_i0 (by decide) ?_
    refine wz_wIo (j' := 0) (e := Z 1 0 0 39) rfl (zm_f (j' := 39) rfl ((n1 _ _ _ _ _ (by decide)).trans z39)) ?_
    refine wz_i0 (by decide) ?_
    refine wz_wIo (j' := 0) (e := 1) rfl rfl ?_
    refine ⟨rfl, ?_⟩
    exact congrArg (fun v => Sum.inl (some (Sum.inl v))) (zm_f (j' := 37) rfl ((n1 _ _ _ _ _ (by decide)).trans ((n1 _ _ _ _ _ (by decide)).trans ((n1 _ _ _ _ _ (by decide)).trans z37))))
  · refine wz_i0 (i3O (n := 4400) (rfl : i3 n = i3 n) (by omega) (by omega) (by omega)) ?_
    refine wz_i0 (i3O (n := 8800) (i3A (i3M (show (4400 : Int32) = i3 4400 from rfl) (rfl : i3 0 = i3 0)) (rfl : i3 n = i3 n)) (by omega) (by omega) (by omega)) ?_
    obtain ⟨Z2, hZ2⟩ := zx (zpq (zu Z 1 0 0 2 0) 2 0 0 0 104 0 0 (4400 * 0) (n + 1))
    have hz := hZ2.trans (zpq_s (by decide) h0 (by omega : 4400 * 0 + n = 4400 * 0 + n) (by omega : n = 0 + n))
    intro μ9 e9
    replace e9 := e9.trans (zm_wI (ν := ν) hz (show ((0 : Nat) : Int) = 0 from rfl) (show ((0 : Nat) : Int) = 0 from rfl) (i3I (y := 4400 * 0 + n) (i3A (i3M (show (4400 : Int32) = i3 4400 from rfl) (rfl : i3 0 = i3 0)) (rfl : i3 n = i3 n)) (by omega) (by omega) (by omega)) (zm_rd (ν := ν) (k := 2) (show ((0 : Nat) : Int) = 0 from rfl) (show ((0 : Nat) : Int) = 0 from rfl) (i3I (y := n) (rfl : i3 n = i3 n) (by omega) (by omega) (by omega))))
    subst e9
    obtain ⟨m2, rfl⟩ : ∃ m2, m = m2 + 1 := ⟨m - 1, by omega⟩
    exact wz_k1 ⟨m2, by omega, n + 1, (zconso rfl (zconso rfl (zconso (zvo (i3A (rfl : i3 n = i3 n) (show (1 : Int32) = i3 1 from rfl))) rfl))), by rw [hZ2], by omega, by omega, by omega⟩
set_option maxRecDepth 20000 in
theorem sp_424_1 {Z : qz_Z} {ν : qz_N} {r r8 r1 r2 r3 r4 : qz_R} {len len8 : Nat} (hr : zRr ν r len) (hr8 : zRr ν r8 len8) (e36 : ν.2.1 1 0 0 36 = some r) (e38 : ν.2.1 1 0 0 38 = some r8) (e41 : ν.2.1 1 0 0 41 = some r1) (e42 : ν.2.1 1 0 0 42 = some r2) (e43 : ν.2.1 1 0 0 43 = some r3) (e44 : ν.2.1 1 0 0 44 = some r4) (h37 : 0 ≤ Z 1 0 0 37) (h7 : 7 * Z 1 0 0 37 ≤ len) (hl : len ≤ 60000) (h39 : 0 ≤ Z 1 0 0 39) (h9 : Z 1 0 0 39 ≤ len8) (hl8 : len8 ≤ 60000) : qf_424 [.inr (.inr (some (1, 0, 0))), .inl (i3 1)] (zm Z ν) = some (zm (ykp Z ν r r8 1) (nkp Z ν r1 (200, ν.2.2.2.1, 0) r3 (200, ν.2.2.2.1 + 1, 0)), .inl (some (.inl (i3 (Z 1 0 0 37))))) := by
  refine wz_call_eq (fw_424 (i3 1) _ _ ?_)
  refine wz_i0 (by decide) ?_
  refine wz_i0 (by decide) ?_
  refine wz_wIo (j' := 2) (e := 0) rfl rfl ?_
  refine wz_lp sb_424_1 (fun m x => ∃ n : Int, qz_fg [true, true, true, false] x.1 = [some (.inr (.inr (some (1, 0, 0)))), some (.inl (i3 1)), some (.inl (i3 n)), none] ∧ x.2 = ([], zm (zpq (zu Z 1 0 0 2 0) 2 0 0 0 104 0 0 (4400 * 1) n) ν) ∧ 0 ≤ n ∧ n ≤ 4400 ∧ m = (4400 - n).toNat) ?_ 65536 4400 _ (by omega) ⟨0, (zconso rfl (zconso rfl (zconso (zvo (show (0 : Int32) = i3 0 from rfl)) rfl))), by rw [zpq_0], by omega, by omega, by omega⟩
  rintro m ⟨L, st, μ⟩ ⟨n, hL, hx, h0, h1, hm⟩
  cases hx
  refine fb_424_1 (i3 1) (i3 n) _ _ _ _ hL ?_
  refine wz_br (i3Le (show (4400 : Int32) = i3 4400 from rfl) (rfl : i3 n = i3 n) (by omega) (by omega) (by omega) (by omega)) (fun qn => ?_) (fun qn => ?_)
  · have hn : n = 4400 := by omega
    subst hn
    refine fc_424_2 (i3 1) _ _ _ _ (by rfl) ?_
    have k37 : (zm (ykp0 Z 1) ν).1 1 0 0 37 = i3 (Z 1 0 0 37) := zm_f (j' := 37) rfl (ykp0_ne (by decide) (fun q => absurd q.2 (by decide)))
    have x37 := i3M (show (7 : Int32) = i3 7 from rfl) k37
    have c5 := sp_565 (Z := ykp0 Z 1) (many := 7 * Z 1 0 0 37) (size := 7 * Z 1 0 0 37) hr (by omega) (by omega) (by omega) (by omega) (by omega)
    refine wz_rko e36 ?_
    refine wz_cR_of (zas (zcons rfl (zcons (zvi x37) (zcons (zvi x37) rfl))) c5) ?_
    have hr9 : zRr (nkp0 Z ν) r8 len8 := zRr_a hr8
    have e38' : (nkp0 Z ν).2.1 1 0 0 38 = some r8 := (nal_r (by decide)).trans e38
    refine wz_rko e38' ?_
    have c6 := sp_565 (Z := zxr (ykp0 Z 1) ν r (7 * Z 1 0 0 37)) (many := Z 1 0 0 39) (size := Z 1 0 0 39) hr9 (by omega) (by omega) (by omega) (by omega) (by omega)
    have k39 : (zm (zxr (ykp0 Z 1) ν r (7 * Z 1 0 0 37)) (nkp0 Z ν)).1 1 0 0 39 = i3 (Z 1 0 0 39) := zm_f (j' := 39) rfl ((zxr_ne (by decide)).trans (ykp0_ne (by decide) (fun q => absurd q.2 (by decide))))
    refine wz_cR_of (zas (zcons rfl (zcons (zvi k39) (zcons (zvi k39) rfl))) c6) ?_
    refine wz_i1 (by decide) ?_
    refine wz_rko (nkp_r.trans e41) ?_
    refine wz_wRo ?_
    refine wz_i0 (by decide) ?_
    refine wz_wRo ?_
    refine wz_i1 (by decide) ?_
    refine wz_rko (((nwr_ne (by decide)).trans ((nwr_ne (by decide)).trans nkp_r)).trans e43) ?_
    refine wz_wRo ?_
    refine wz_i0 (by decide) ?_
    refine wz_wRo ?_
    have z37 : ykp1 Z ν r r8 1 1 0 0 37 = Z 1 0 0 37 := ykp1_ne (by decide) (fun q => absurd q.2 (by decide)) (by decide)
    have z39 : ykp1 Z ν r r8 1 1 0 0 39 = Z 1 0 0 39 := ykp1_ne (by decide) (fun q => absurd q.2 (by decide)) (by decide)
    have n1 : ∀ (X : qz_Z) (k : Nat) (a v j : Int), k ≠ 1 → zu X k 0 0 a v 1 0 0 j = X 1 0 0 j := fun X k a v j h => zu_ne rfl (fun q => h q.1.symm)
    refine wz_i0 (by decide) ?_
    refine wz_wIo (j' := 1) (e := Z 1 0 0 37) rfl (zm_f (j' := 37) rfl z37) ?_
    refine wz_i0 (by decide) ?_
    refine wz_wIo (j' := 1) (e := Z 1 0 0 39) rfl (zm_f (j' := 39) rfl ((n1 _ _ _ _ _ (by decide)).trans z39)) ?_
    refine wz_i0 (by decide) ?_
    refine wz_wIo (j' := 1) (e := 1) rfl rfl ?_
    refine ⟨rfl, ?_⟩
    exact congrArg (fun v => Sum.inl (some (Sum.inl v))) (zm_f (j' := 37) rfl ((n1 _ _ _ _ _ (by decide)).trans ((n1 _ _ _ _ _ (by decide)).trans ((n1 _ _ _ _ _ (by decide)).trans z37))))
  · refine wz_i0 (i3O (n := 4400) (rfl : i3 n = i3 n) (by omega) (by omega) (by omega)) ?_
    refine wz_i0 (i3O (n := 8800) (i3A (i3M (show (4400 : Int32) = i3 4400 from rfl) (rfl : i3 1 = i3 1)) (rfl : i3 n = i3 n)) (by omega) (by omega) (by omega)) ?_
    obtain ⟨Z2, hZ2⟩ := zx (zpq (zu Z 1 0 0 2 0) 2 0 0 0 104 0 0 (4400 * 1) (n + 1))
    have hz := hZ2.trans (zpq_s (by decide) h0 (by omega : 4400 * 1 + n = 4400 * 1 + n) (by omega : n = 0 + n))
    intro μ9 e9
    replace e9 := e9.trans (zm_wI (ν := ν) hz (show ((0 : Nat) : Int) = 0 from rfl) (show ((0 : Nat) : Int) = 0 from rfl) (i3I (y := 4400 * 1 + n) (i3A (i3M (show (4400 : Int32) = i3 4400 from rfl) (rfl : i3 1 = i3 1)) (rfl : i3 n = i3 n)) (by omega) (by omega) (by omega)) (zm_rd (ν := ν) (k := 2) (show ((0 : Nat) : Int) = 0 from rfl) (show ((0 : Nat) : Int) = 0 from rfl) (i3I (y := n) (rfl : i3 n = i3 n) (by omega) (by omega) (by omega))))
    subst e9
    obtain ⟨m2, rfl⟩ : ∃ m2, m = m2 + 1 := ⟨m - 1, by omega⟩
    exact wz_k1 ⟨m2, by omega, n + 1, (zconso rfl (zconso rfl (zconso (zvo (i3A (rfl : i3 n = i3 n) (show (1 : Int32) = i3 1 from rfl))) rfl))), by rw [hZ2], by omega, by omega, by omega⟩
