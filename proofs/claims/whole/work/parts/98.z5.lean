/-! THE RECORD of the reference: the slate's signs (564). -/
/-- the signs are copied, then the deed is laid down -/
def zsg (Z : qz_Z) (r8 : qz_R) (many : Int) : qz_Z := zpq Z 112 0 0 0 r8.1 r8.2.1 r8.2.2 (Z 1 0 0 39) many
set_option maxRecDepth 20000 in
theorem sl_564 {Z Z' : qz_Z} {ν ν' : qz_N} {r8 : qz_R} {len8 : Nat} {many : Int} {μ' : qz_M} {o' : qz_Oc} (hr : zRr ν r8 len8) (e38 : ν.2.1 1 0 0 38 = some r8) (m0 : 0 ≤ many ∧ many ≤ 120) (h39 : 0 ≤ Z 1 0 0 39) (h9 : Z 1 0 0 39 + many ≤ len8) (hf : qf_563 [.inr (.inr (some (1, 0, 0))), .inl (i3 29), .inl (i3 (Z 1 0 0 39)), .inl (i3 (Z 1 0 0 39 + many)), .inl (i3 0), .inl (i3 0), .inl (i3 0), .inl (i3 0)] (zm (zsg Z r8 many) ν) = some (zm Z' ν', .inl none)) (z39 : Z' 1 0 0 39 = Z 1 0 0 39) {L : qz_L} (hL : qz_fg [true, true, true] L = [some (.inr (.inr (some (1, 0, 0)))), some (.inl (i3 many)), some (.inl (i3 0))]) : wz_loop qb_564_1 65536 (wz_sk gc_564_2 wz_k0 (fun μ2 o2 => μ2 = zm (zu Z' 1 0 0 39 (Z 1 0 0 39 + many)) ν' ∧ o2 = .inl none)) (fun μ2 o2 => μ2 = zm (zu Z' 1 0 0 39 (Z 1 0 0 39 + many)) ν' ∧ o2 = .inl none) (L, [], zm Z ν) := by
  have hl := hr.2.1
  have k1 : r8.1 ≠ 1 ∧ 112 ≠ r8.1 := by
    rcases hr.1 with h | h | ⟨h, _⟩ <;> omega
  refine wz_lp sb_564_1 (fun m x => ∃ n : Int, qz_fg [true, true, true] x.1 = [some (.inr (.inr (some (1, 0, 0)))), some (.inl (i3 many)), some (.inl (i3 n))] ∧ x.2 = ([], zm (zsg Z r8 n) ν) ∧ 0 ≤ n ∧ n ≤ many ∧ m = (many - n).toNat) ?_ 65536 many.toNat _ (by omega) ⟨0, hL, by unfold zsg; rw [zpq_0], by omega, by omega, by omega⟩
  rintro m ⟨L, st, μ⟩ ⟨n, hL, hx, h0, h1, hm⟩
  cases hx
  have q39 : ∀ n, zsg Z r8 n 1 0 0 39 = Z 1 0 0 39 := fun n => zpq_ne (Ne.symm k1.1)
  have k39 : (zm (zsg Z r8 n) ν).1 1 0 0 39 = i3 (Z 1 0 0 39) := zm_f (j' := 39) rfl (q39 n)
  refine fb_564_1 (i3 many) (i3 n) _ _ _ _ hL ?_
  refine wz_br (i3Le (rfl : i3 many = i3 many) (rfl : i3 n = i3 n) (by omega) (by omega) (by omega) (by omega)) (fun qn => ?_) (fun qn => ?_)
  · have hn : n = many := by omega
    subst hn
    refine fc_564_2 (i3 n) _ _ _ _ (by rfl) ?_
    have xm := i3A k39 (rfl : i3 n = i3 n)
    refine wz_cV_of (zas (zcons rfl (zcons (zvi (show (29 : Int32) = i3 29 from rfl)) (zcons (zvi k39) (zcons (zvi xm) (zcons (zvi (show (0 : Int32) = i3 0 from rfl)) (zcons (zvi (show (0 : Int32) = i3 0 from rfl)) (zcons (zvi (show (0 : Int32) = i3 0 from rfl)) (zcons (zvi (show (0 : Int32) = i3 0 from rfl)) rfl)))))))) hf) ?_
    refine wz_wIo (j' := 39) (e := Z 1 0 0 39 + n) rfl (i3A (zm_f (j' := 39) rfl z39) (rfl : i3 n = i3 n)) ?_
    exact ⟨rfl, rfl⟩
  · obtain ⟨t1, t2⟩ := hr.2.2 (zsg Z r8 n)
    have xi := i3A k39 (rfl : i3 n = i3 n)
    refine wz_rko e38 ?_
    refine wz_i0 (i3O (n := 120) (rfl : i3 n = i3 n) (by omega) (by omega) (by omega)) ?_
    refine wz_i1 (by rw [t1]; rfl) ?_
    refine wz_i0 (by rw [t2]; exact i3O (n := len8) xi (by omega) (by omega) (by omega)) ?_
    obtain ⟨Z2, hZ2⟩ := zx (zsg Z r8 (n + 1))
    have hz : Z2 = zu (zsg Z r8 n) r8.1 r8.2.1 r8.2.2 (Z 1 0 0 39 + n) (zsg Z r8 n 112 0 0 n) := hZ2.trans (zpq_s k1.2 h0 (by omega : Z 1 0 0 39 + n = Z 1 0 0 39 + n) (by omega : n = 0 + n))
    intro μ9 e9
    replace e9 := e9.trans (zm_wI (ν := ν) hz rfl rfl (i3I (y := Z 1 0 0 39 + n) xi (by omega) (by omega) (by omega)) (zm_rd (ν := ν) (k := 112) (show ((0 : Nat) : Int) = 0 from rfl) (show ((0 : Nat) : Int) = 0 from rfl) (i3I (y := n) (rfl : i3 n = i3 n) (by omega) (by omega) (by omega))))
    subst e9
    obtain ⟨m2, rfl⟩ : ∃ m2, m = m2 + 1 := ⟨m - 1, by omega⟩
    exact wz_k1 ⟨m2, by omega, n + 1, (zconso rfl (zconso rfl (zconso (zvo (i3A (rfl : i3 n = i3 n) (show (1 : Int32) = i3 1 from rfl))) rfl))), by rw [hZ2], by omega, by omega, by omega⟩
/-- where the row of the signs has room -/
theorem sp_564a {Z Z' : qz_Z} {ν ν' : qz_N} {r8 : qz_R} {len8 : Nat} {many : Int} (hr : zRr ν r8 len8) (e38 : ν.2.1 1 0 0 38 = some r8) (m0 : 0 ≤ many ∧ many ≤ 120) (h39 : 0 ≤ Z 1 0 0 39) (h9 : Z 1 0 0 39 + many ≤ len8) (hf : qf_563 [.inr (.inr (some (1, 0, 0))), .inl (i3 29), .inl (i3 (Z 1 0 0 39)), .inl (i3 (Z 1 0 0 39 + many)), .inl (i3 0), .inl (i3 0), .inl (i3 0), .inl (i3 0)] (zm (zsg Z r8 many) ν) = some (zm Z' ν', .inl none)) (z39 : Z' 1 0 0 39 = Z 1 0 0 39) : qf_564 [.inr (.inr (some (1, 0, 0))), .inl (i3 many)] (zm Z ν) = some (zm (zu Z' 1 0 0 39 (Z 1 0 0 39 + many)) ν', .inl none) := by
  have hl := hr.2.1
  have k39 : (zm Z ν).1 1 0 0 39 = i3 (Z 1 0 0 39) := zm_f (j' := 39) rfl rfl
  obtain ⟨t1, t2⟩ := hr.2.2 Z
  refine wz_call_eq (fw_564 (i3 many) _ _ ?_)
  refine wz_rko e38 ?_
  refine wz_i1 (by rw [t1]; rfl) ?_
  refine wz_i1 ?_ ?_
  · rw [t2, i3_ofNat]
    exact (i3Le (i3A k39 (rfl : i3 many = i3 many)) (rfl : i3 (len8 : Int) = i3 (len8 : Int)) (by omega) (by omega) (by omega) (by omega)).trans (decide_eq_true h9)
  exact sl_564 (μ' := zm Z ν) (o' := .inl none) hr e38 m0 h39 h9 hf z39 (by rfl)
/-- where it becomes longer -/
def zn38 (ν : qz_N) (len8 : Nat) (many : Int) : qz_N := nwr (nal ν 50 1 (2 * (len8 : Int) + many).toNat 1 (2 * (len8 : Int) + many).toNat) 1 0 0 38 (some (200, ν.2.2.2.1, 0))
theorem sp_564b {Z Z' : qz_Z} {ν ν' : qz_N} {r8 : qz_R} {len8 : Nat} {many : Int} (hr : zRr ν r8 len8) (e38 : ν.2.1 1 0 0 38 = some r8) (m0 : 0 ≤ many ∧ many ≤ 120) (h39 : 0 ≤ Z 1 0 0 39) (h9 : Z 1 0 0 39 ≤ len8) (h10 : len8 < Z 1 0 0 39 + many) (hl8 : len8 ≤ 60000) (hf : qf_563 [.inr (.inr (some (1, 0, 0))), .inl (i3 29), .inl (i3 (Z 1 0 0 39)), .inl (i3 (Z 1 0 0 39 + many)), .inl (i3 0), .inl (i3 0), .inl (i3 0), .inl (i3 0)] (zm (zsg (zxr Z ν r8 (Z 1 0 0 39)) (200, ν.2.2.2.1, 0) many) (zn38 ν len8 many)) = some (zm Z' ν', .inl none)) (z39 : Z' 1 0 0 39 = Z 1 0 0 39) : qf_564 [.inr (.inr (some (1, 0, 0))), .inl (i3 many)] (zm Z ν) = some (zm (zu Z' 1 0 0 39 (Z 1 0 0 39 + many)) ν', .inl none) := by
  have k39 : (zm Z ν).1 1 0 0 39 = i3 (Z 1 0 0 39) := zm_f (j' := 39) rfl rfl
  obtain ⟨t1, t2⟩ := hr.2.2 Z
  have x39 : zxr Z ν r8 (Z 1 0 0 39) 1 0 0 39 = Z 1 0 0 39 := zxr_ne (by decide)
  refine wz_call_eq (fw_564 (i3 many) _ _ ?_)
  refine wz_rko e38 ?_
  refine wz_i1 (by rw [t1]; rfl) ?_
  refine wz_i0 ?_ ?_
  · rw [t2, i3_ofNat]
    exact (i3Le (i3A k39 (rfl : i3 many = i3 many)) (rfl : i3 (len8 : Int) = i3 (len8 : Int)) (by omega) (by omega) (by omega) (by omega)).trans (decide_eq_false (by omega))
  refine wz_rko e38 ?_
  refine wz_rko e38 ?_
  refine wz_i1 (by rw [t1]; rfl) ?_
  have x2 : (2 : Int32) * Int32.ofNat (qz_len (zm Z ν) r8) + i3 many = i3 (2 * (len8 : Int) + many) := by
    rw [t2, i3_ofNat]
    exact i3A (i3M (show (2 : Int32) = i3 2 from rfl) rfl) rfl
  have c5 := sp_565 (Z := Z) (many := Z 1 0 0 39) (size := 2 * (len8 : Int) + many) hr (by omega) (by omega) (by omega) (by omega) (by omega)
  refine wz_cR_of (zas (zcons rfl (zcons (zvi k39) (zcons (zvi x2) rfl))) c5) ?_
  refine wz_wRo ?_
  have hr2 : zRr (zn38 ν len8 many) (200, ν.2.2.2.1, 0) (2 * (len8 : Int) + many).toNat := zRr_w (zRr_n (by omega))
  have g := sl_564 (Z := zxr Z ν r8 (Z 1 0 0 39)) (ν := zn38 ν len8 many) (ν' := ν') (Z' := Z') (many := many) (μ' := zm Z ν) (o' := .inl none) hr2 nwr_at m0 (by omega) (by omega) (by rw [x39]; exact hf) (z39.trans x39.symm) (L := [some (.inr (.inr (some (1, 0, 0)))), some (.inl (i3 many)), some (.inl (0 : Int32))]) (by rfl)
  rw [x39] at g
  exact g
