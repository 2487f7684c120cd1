/-! BEST, the class's -/
theorem wz_lks {k : wz_K} {I : qz_X → Prop} {n : Nat} {x : qz_X} (h : k (n + 1) x) : wz_lk k I (n + 2) x := h
theorem be_163 {Z : qz_Z} {ν : qz_N} {n0 n3 : Nat} {G : Int → Int} (d0 : ν.2.2.1 n0 = (50, 1, 3)) (d3 : ν.2.2.1 n3 = (50, 1, 3)) (h0 : ∀ j, 0 ≤ j → j < 3 → Z 200 n0 0 j = -1) (hG : ∀ j, 0 ≤ j → j < 3 → Z 200 n3 0 j = G j) (hb : ∀ j, 0 ≤ j → j < 3 → 0 ≤ G j ∧ G j ≤ 6) : qf_163 [.inr (.inr (some (10, 0, 0))), .inr (.inr (some (200, n0, 0))), .inr (.inr (some (200, n3, 0)))] (zm Z ν) = some (zm Z ν, .inl (some (.inl (i3 (if G 0 ≤ 0 ∧ G 1 ≤ 0 ∧ G 2 ≤ 0 then 1 else 0))))) := by
  refine wz_call_eq (fw_163 _ _ _ _ _ ?_)
  have t0 : qz_tag (zm Z ν) (200, n0, 0) = 50 := zt_tag d0 (by decide)
  have t3 : qz_tag (zm Z ν) (200, n3, 0) = 50 := zt_tag d3 (by decide)
  have l0 : qz_len (zm Z ν) (200, n0, 0) = 3 := zt_len d0
  have l3 : qz_len (zm Z ν) (200, n3, 0) = 3 := zt_len d3
  refine wz_lp sb_163_1 (fun m x => ∃ (n v : Int), 0 ≤ n ∧ n + m = 3 ∧ (v = 1 ∧ (∀ j, 0 ≤ j → j < n → G j ≤ 0) ∨ v = 0 ∧ ¬ (G 0 ≤ 0 ∧ G 1 ≤ 0 ∧ G 2 ≤ 0)) ∧ qz_fg [true, true, true, true, true, false] x.1 = [some (.inr (.inr (some (10, 0, 0)))), some (.inr (.inr (some (200, n0, 0)))), some (.inr (.inr (some (200, n3, 0)))), some (.inl (i3 v)), some (.inl (i3 n)), none] ∧ x.2 = ([], zm Z ν)) ?_ 65536 3 _ (by omega) ⟨0, 1, by omega, by omega, .inl ⟨rfl, fun j a b => by omega⟩, rfl, rfl⟩
  rintro m ⟨L, st, μ⟩ ⟨n, v, hn0, hnm, hv, hL, hx⟩
  cases hx
  refine fb_163_1 _ _ _ _ _ _ _ _ _ hL ?_
  have hv01 : v = 0 ∨ v = 1 := by omega
  have out : (3 ≤ n ∨ v = 0) → gc_163_2 wz_k0 (fun μ2 o2 => μ2 = zm Z ν ∧ o2 = .inl (some (.inl (i3 (if G 0 ≤ 0 ∧ G 1 ≤ 0 ∧ G 2 ≤ 0 then 1 else 0))))) ([some (.inr (.inr (some (10, 0, 0)))), some (.inr (.inr (some (200, n0, 0)))), some (.inr (.inr (some (200, n3, 0)))), some (.inl (i3 v)), some (.inl (i3 n)), none], [], zm Z ν) := by
    intro h
    refine fc_163_2 _ _ _ _ _ rfl (wz_i1 (i3B rfl (by omega)) ⟨rfl, ?_⟩)
    rcases hv with ⟨rfl, hj⟩ | ⟨rfl, hj⟩
    · rw [if_pos ⟨hj 0 (by omega) (by omega), hj 1 (by omega) (by omega), hj 2 (by omega) (by omega)⟩]
    · rw [if_neg hj]
  refine wz_br (i3Le (show (3 : Int32) = i3 3 from rfl) (rfl : i3 n = i3 n) (by omega) (by omega) (by omega) (by omega)) (fun q => wz_lk0 (wz_sk0 (out (.inl q)))) (fun q => ?_)
  refine wz_br (i3E (rfl : i3 v = i3 v) (show (0 : Int32) = i3 0 from rfl) (by omega) (by omega) (by omega) (by omega)) (fun q2 => wz_lk0 (wz_sk0 (out (.inr q2)))) (fun q2 => ?_)
  have o3 : pz_out (i3 n) 3 = false := i3O rfl hn0 (by show n < (3 : Int); omega) (by decide)
  have b := hb n hn0 (by omega)
  have rg : qz_im (zm Z ν) 200 n3 0 (i3 n).toNatClampNeg = i3 (G n) := Eq.trans (zm_rd (k := 200) rfl rfl (i3I rfl rfl (by omega) (by omega))) (congrArg i3 (hG n hn0 (by omega)))
  have r0 : qz_im (zm Z ν) 200 n0 0 (i3 n).toNatClampNeg = i3 (-1) := Eq.trans (zm_rd (k := 200) rfl rfl (i3I rfl rfl (by omega) (by omega))) (congrArg i3 (h0 n hn0 (by omega)))
  rcases hv with ⟨rfl, hj⟩ | ⟨rfl, hj⟩
  · refine wz_i1 (by rw [t3]; rfl) (wz_i0 (by rw [l3]; exact o3) ?_)
    refine wz_br (i3Le rg (show (0 : Int32) = i3 0 from rfl) (by omega) (by omega) (by omega) (by omega)) (fun q3 => wz_k1 ⟨m - 1, by omega, n + 1, 1, by omega, by omega, .inl ⟨rfl, fun j a b => ?_⟩, ?_, rfl⟩) (fun q3 => ?_)
    · by_cases e : j = n
      · subst e; exact q3
      · exact hj j a (by omega)
    · show [_, _, _, _, some (Sum.inl (i3 n + 1)), none] = _
      rw [show (1 : Int32) = i3 1 from rfl, i3_add] <;> rfl
    · refine wz_i1 (by rw [t3]; rfl) (wz_i0 (by rw [l3]; exact o3) (wz_i1 (by rw [t0]; rfl) (wz_i0 (by rw [l0]; exact o3) (wz_i1 (Eq.trans (i3E r0 (show (-1 : Int32) = i3 (-1) from rfl) (by omega) (by omega) (by omega) (by omega)) (decide_eq_true rfl)) (wz_k1 ⟨m - 1, by omega, n + 1, 0, by omega, by omega, .inr ⟨rfl, fun q4 => q3 ?_⟩, ?_, rfl⟩)))))
      · rcases (show n = 0 ∨ n = 1 ∨ n = 2 by omega) with rfl | rfl | rfl
        · exact q4.1
        · exact q4.2.1
        · exact q4.2.2
      · show [_, _, _, some (Sum.inl (0 : Int32)), some (Sum.inl (i3 n + 1)), none] = _
        rw [show (1 : Int32) = i3 1 from rfl, i3_add]
        rfl
  · exact absurd rfl q2
theorem be_164 {Z : qz_Z} {ν : qz_N} {n3 : Nat} {r : Int} (d3 : ν.2.2.1 n3 = (50, 1, 3)) (hG : ∀ j, 0 ≤ j → j < 3 → Z 200 n3 0 j = 0) (hr : 0 ≤ r ∧ r ≤ 6) : qf_164 [.inr (.inr (some (200, n3, 0))), .inl (i3 r), .inl (2 : Int32)] (zm Z ν) = some (zm Z ν, .inl (some (.inl (i3 0)))) := by
  refine wz_call_eq (fw_164 _ _ _ _ _ ?_)
  have t3 : qz_tag (zm Z ν) (200, n3, 0) = 50 := zt_tag d3 (by decide)
  have l3 : qz_len (zm Z ν) (200, n3, 0) = 3 := zt_len d3
  refine wz_lp sb_164_1 (fun m x => ∃ (n : Int), 0 ≤ n ∧ n + m = 3 ∧ qz_fg [true, true, true, true, true] x.1 = [some (.inr (.inr (some (200, n3, 0)))), some (.inl (i3 r)), some (.inl (2 : Int32)), some (.inl (i3 0)), some (.inl (i3 n))] ∧ x.2 = ([], zm Z ν)) ?_ 65536 3 _ (by omega) ⟨0, by omega, by omega, rfl, rfl⟩
  rintro m ⟨L, st, μ⟩ ⟨n, hn0, hnm, hL, hx⟩
  cases hx
  refine fb_164_1 _ _ _ _ _ _ _ _ _ hL ?_
  refine wz_br (i3L (show (2 : Int32) = i3 2 from rfl) (rfl : i3 n = i3 n) (by omega) (by omega) (by omega) (by omega)) (fun q => wz_lk0 (wz_sk0 (fc_164_2 _ _ _ _ _ rfl ⟨rfl, rfl⟩))) (fun q => ?_)
  have o3 : pz_out (i3 n) 3 = false := i3O rfl hn0 (by show n < (3 : Int); omega) (by decide)
  have rg : qz_im (zm Z ν) 200 n3 0 (i3 n).toNatClampNeg = i3 0 := Eq.trans (zm_rd (k := 200) rfl rfl (i3I rfl rfl (by omega) (by omega))) (congrArg i3 (hG n hn0 (by omega)))
  refine wz_i1 (by rw [t3]; rfl) (wz_i0 (by rw [l3]; exact o3) (wz_i1 (Eq.trans (i3NE (i3S rg (show (1 : Int32) = i3 1 from rfl)) (rfl : i3 r = i3 r) (by omega) (by omega) (by omega) (by omega)) (decide_eq_true (by omega))) (wz_k1 ⟨m - 1, by omega, n + 1, by omega, by omega, ?_, rfl⟩)))
  show [_, _, _, _, some (Sum.inl (i3 n + 1))] = _
  rw [show (1 : Int32) = i3 1 from rfl, i3_add] <;> rfl
theorem be_170 {Z : qz_Z} {ν : qz_N} {n0 n1 n2 n3 : Nat} (d0 : ν.2.2.1 n0 = (50, 1, 3)) (d1 : ν.2.2.1 n1 = (50, 1, 24)) (d3 : ν.2.2.1 n3 = (50, 1, 3)) (h0 : ∀ j, 0 ≤ j → j < 3 → Z 200 n0 0 j = -1) (h1 : ∀ j, Z 200 n1 0 j = 0) (hG : ∀ j, 0 ≤ j → j < 3 → Z 200 n3 0 j = 0) : qf_170 [.inr (.inr (some (200, n0, 0))), .inr (.inr (some (200, n3, 0))), .inr (.inr (some (200, n1, 0))), .inr (.inr (some (200, n2, 0)))] (zm Z ν) = some (zm Z ν, .inl (some (.inl (i3 0)))) := by
  refine wz_call_eq (fw_170 _ _ _ _ _ _ ?_)
  have t0 : qz_tag (zm Z ν) (200, n0, 0) = 50 := zt_tag d0 (by decide)
  have l0 : qz_len (zm Z ν) (200, n0, 0) = 3 := zt_len d0
  have t1 : qz_tag (zm Z ν) (200, n1, 0) = 50 := zt_tag d1 (by decide)
  have l1 : qz_len (zm Z ν) (200, n1, 0) = 24 := zt_len d1
  refine wz_lp sb_170_1 (fun m x => ∃ (n : Int), 0 ≤ n ∧ n + m = 6 ∧ qz_fg [true, true, true, true, true, true, false, false] x.1 = [some (.inr (.inr (some (200, n0, 0)))), some (.inr (.inr (some (200, n3, 0)))), some (.inr (.inr (some (200, n1, 0)))), some (.inr (.inr (some (200, n2, 0)))), some (.inl (i3 0)), some (.inl (i3 n)), none, none] ∧ x.2 = ([], zm Z ν)) ?_ 65536 6 _ (by omega) ⟨0, by omega, by omega, rfl, rfl⟩
  rintro m ⟨L, st, μ⟩ ⟨n, hn0, hnm, hL, hx⟩
  cases hx
  refine fb_170_1 _ _ _ _ _ _ _ _ _ _ hL ?_
  refine wz_br (i3Le (show (6 : Int32) = i3 6 from rfl) (rfl : i3 n = i3 n) (by omega) (by omega) (by omega) (by omega)) (fun q => wz_lk0 (wz_sk0 (fc_170_4 _ _ _ _ _ _ _ _ rfl ?_))) (fun q => ?_)
  · refine wz_lp sb_170_2 (fun m x => ∃ (n : Int), 0 ≤ n ∧ n + m = 3 ∧ qz_fg [true, true, false, true, true, true, false, false] x.1 = [some (.inr (.inr (some (200, n0, 0)))), some (.inr (.inr (some (200, n3, 0)))), none, some (.inr (.inr (some (200, n2, 0)))), some (.inl (i3 0)), some (.inl (i3 n)), none, none] ∧ x.2 = ([], zm Z ν)) ?_ 65536 3 _ (by omega) ⟨0, by omega, by omega, rfl, rfl⟩
    rintro m2 ⟨L2, st2, μ2⟩ ⟨n5, hn5, hnm5, hL2, hx2⟩
    cases hx2
    refine fb_170_2 _ _ _ _ _ _ _ _ _ hL2 ?_
    refine wz_br (i3Le (show (3 : Int32) = i3 3 from rfl) (rfl : i3 n5 = i3 n5) (by omega) (by omega) (by omega) (by omega)) (fun q => wz_lk0 (wz_sk0 (fc_170_3 _ _ _ _ _ rfl ⟨rfl, rfl⟩))) (fun q => ?_)
    have o3 : pz_out (i3 n5) 3 = false := i3O rfl hn5 (by show n5 < (3 : Int); omega) (by decide)
    have r0 : qz_im (zm Z ν) 200 n0 0 (i3 n5).toNatClampNeg = i3 (-1) := Eq.trans (zm_rd (k := 200) rfl rfl (i3I rfl rfl (by omega) (by omega))) (congrArg i3 (h0 n5 hn5 (by omega)))
    refine wz_i1 (by rw [t0]; rfl) (wz_i0 (by rw [l0]; exact o3) (wz_i1 (Eq.trans (i3E r0 (show (-1 : Int32) = i3 (-1) from rfl) (by omega) (by omega) (by omega) (by omega)) (decide_eq_true rfl)) (wz_k1 ⟨m2 - 1, by omega, n5 + 1, by omega, by omega, ?_, rfl⟩)))
    show [_, _, none, _, _, some (Sum.inl (i3 n5 + 1)), none, none] = _
    rw [show (1 : Int32) = i3 1 from rfl, i3_add] <;> rfl
  · refine wz_cI_of (be_164 d3 hG (by omega)) ?_
    have ex : i3 n * (4 : Int32) + i3 0 = i3 (n * 4) := (i3A (i3M rfl (show (4 : Int32) = i3 4 from rfl)) rfl).trans (congrArg i3 (by omega))
    rw [ex]
    have r1 : qz_im (zm Z ν) 200 n1 0 (i3 (n * 4)).toNatClampNeg = i3 0 := Eq.trans (zm_rd (k := 200) rfl rfl (i3I rfl rfl (by omega) (by omega))) (congrArg i3 (h1 _))
    refine wz_i1 (by rw [t1]; rfl) (wz_i0 (by rw [l1]; exact i3O rfl (by omega) (by show _ < (24 : Int); omega) (by decide)) (wz_k1 ⟨m - 1, by omega, n + 1, by omega, by omega, ?_, rfl⟩))
    show [_, _, _, _, some (Sum.inl (i3 0 + qz_im (zm Z ν) 200 n1 0 (i3 (n * 4)).toNatClampNeg)), some (Sum.inl (i3 n + 1)), none, none] = _
    rw [r1, show (1 : Int32) = i3 1 from rfl, i3_add, i3_add]
    rfl
theorem be_167 {Z : qz_Z} {ν : qz_N} {a : Int32} {r : qz_R} (h3 : Z 11 0 0 3 = 0) : qf_167 [.inr (.inr (some (10, 0, 0))), .inl a, .inr (.inr (some r))] (zm Z ν) = some (zm Z ν, .inl (some (.inl (i3 0)))) := by
  refine wz_call_eq (fw_167 _ _ _ _ _ ?_)
  refine wz_l0 sb_167_1 (fb_167_1 0 a r (i3 0) (i3 0) (i3 0) _ _ _ _ rfl ?_)
  refine wz_i1 (Eq.trans (i3Le (Eq.trans (zm_rd (Z := Z) (ν := ν) (k := 11) rfl rfl rfl) (congrArg i3 h3)) (rfl : i3 0 = i3 0) (by omega) (by omega) (by omega) (by omega)) (decide_eq_true (by omega))) ?_
  exact wz_lk0 (wz_sk0 (fc_167_2 _ _ _ _ _ rfl ⟨rfl, rfl⟩))
theorem be_166 {Z : qz_Z} {ν : qz_N} {a : Int32} {n0 : Nat} {r3 r4 : qz_R} (d0 : ν.2.2.1 n0 = (50, 1, 3)) (h3 : Z 11 0 0 3 = 0) (h0 : ∀ j, 0 ≤ j → j < 3 → Z 200 n0 0 j = -1) : qf_166 [.inr (.inr (some (10, 0, 0))), .inl a, .inr (.inr (some (200, n0, 0))), .inr (.inr (some r3)), .inr (.inr (some r4))] (zm Z ν) = some (zm Z ν, .inl none) := by
  refine wz_call_eq (fw_166 _ _ _ _ _ _ _ ?_)
  have t0 : qz_tag (zm Z ν) (200, n0, 0) = 50 := zt_tag d0 (by decide)
  have l0 : qz_len (zm Z ν) (200, n0, 0) = 3 := zt_len d0
  refine wz_l0 sb_166_3 (fb_166_3 0 a (200, n0, 0) r3 r4 (i3 0) _ _ _ _ rfl ?_)
  refine wz_i1 (Eq.trans (i3Le (Eq.trans (zm_rd (Z := Z) (ν := ν) (k := 11) rfl rfl rfl) (congrArg i3 h3)) (rfl : i3 0 = i3 0) (by omega) (by omega) (by omega) (by omega)) (decide_eq_true (by omega))) ?_
  refine wz_lk0 (wz_sk0 (fc_166_10 _ _ _ _ _ _ _ _ rfl ?_))
  refine wz_lp sb_166_8 (fun m x => ∃ (n : Int), 0 ≤ n ∧ n + m = 3 ∧ qz_fg [true, true, true, false, true, true, false, false] x.1 = [some (.inr (.inr (some (10, 0, 0)))), some (.inl a), some (.inr (.inr (some (200, n0, 0)))), none, some (.inr (.inr (some r4))), some (.inl (i3 n)), none, none] ∧ x.2 = ([], zm Z ν)) ?_ 65536 3 _ (by omega) ⟨0, by omega, by omega, rfl, rfl⟩
  rintro m ⟨L, st, μ⟩ ⟨n, hn0, hnm, hL, hx⟩
  cases hx
  refine fb_166_8 _ _ _ _ _ _ _ _ _ hL ?_
  refine wz_br (i3Le (show (3 : Int32) = i3 3 from rfl) (rfl : i3 n = i3 n) (by omega) (by omega) (by omega) (by omega)) (fun q => wz_lk0 (wz_sk0 (fc_166_9 _ _ _ _ rfl ⟨rfl, rfl⟩))) (fun q => ?_)
  have o3 : pz_out (i3 n) 3 = false := i3O rfl hn0 (by show n < (3 : Int); omega) (by decide)
  have r0 : qz_im (zm Z ν) 200 n0 0 (i3 n).toNatClampNeg = i3 (-1) := Eq.trans (zm_rd (k := 200) rfl rfl (i3I rfl rfl (by omega) (by omega))) (congrArg i3 (h0 n hn0 (by omega)))
  refine wz_i1 (by rw [t0]; rfl) (wz_i0 (by rw [l0]; exact o3) (wz_i1 (Eq.trans (i3E r0 (show (-1 : Int32) = i3 (-1) from rfl) (by omega) (by omega) (by omega) (by omega)) (decide_eq_true rfl)) (fc_166_7 _ _ _ _ _ _ _ _ _ rfl (wz_kbs (wz_k1 ⟨m - 1, by omega, n + 1, by omega, by omega, ?_, rfl⟩)))))
  show [_, _, _, none, _, some (Sum.inl (i3 n + 1)), none, none] = _
  rw [show (1 : Int32) = i3 1 from rfl, i3_add] <;> rfl
def beA (j : Int) : Int := if j = 0 then 0 else -1
theorem be_g (n : Int) (h0 : 0 ≤ n) (h1 : n < 343) : (n / 49 ≤ 0 ∧ n / 7 % 7 ≤ 0 ∧ n % 7 ≤ 0) ↔ n = 0 := by omega
/-- what stays through the ways -/
def beS (Z0 : qz_Z) (n : Nat) (Z : qz_Z) : Prop := zI none Z ∧ zJ [69] n Z0 Z ∧ (∀ j, 0 ≤ j → j < 3 → Z 200 n 0 j = -1) ∧ (∀ j, Z 200 (n + 1 : Nat) 0 j = 0)
theorem beS_g {Z0 Z Z1 : qz_Z} {n : Nat} {j v : Int} (h : beS Z0 n Z) (hz : Z1 = zu Z 200 (n + 3 : Nat) 0 j v) (hv : 0 ≤ v ∧ v ≤ 7) : beS Z0 n Z1 := by
  obtain ⟨h1, h2, h3, h4⟩ := h
  exact ⟨zI_200 h1 hz (by omega), zJ_u h2 hz (.inr ⟨rfl, by omega⟩), fun j a b => (zu_ne hz (by omega)).trans (h3 j a b), fun j => (zu_ne hz (by omega)).trans (h4 j)⟩
theorem beS_b {Z0 Z Z1 : qz_Z} {n : Nat} {j v : Int} (h : beS Z0 n Z) (hz : Z1 = zu Z 69 0 0 j v) (hv : -1 ≤ v ∧ v ≤ 7) : beS Z0 n Z1 := by
  obtain ⟨h1, h2, h3, h4⟩ := h
  exact ⟨zI_v h1 hz (by decide) (show (-2147483648 : Int) ≤ v ∧ v ≤ 2147483647 by omega) (by omega) (.inl (by decide)), zJ_u h2 hz (.inl rfl), fun j a b => (zu_ne hz (by omega)).trans (h3 j a b), fun j => (zu_ne hz (by omega)).trans (h4 j)⟩
theorem be_162 {Z : qz_Z} {ν : qz_N} (hZ : zI none Z) (h3 : Z 11 0 0 3 = 0) {a : Int32} : ∃ Z1 ν1, qf_162 [.inr (.inr (some (10, 0, 0))), .inl a, .inr (.inr (some (69, 0, 0)))] (zm Z ν) = some (zm Z1 ν1, .inl none) ∧ zI none Z1 ∧ zJ [69] ν.2.2.2.1 Z Z1 ∧ zG 4 114 ν ν1 ∧ ∀ j, 0 ≤ j → j < 4 → Z1 69 0 0 j = beA j := by
  have main : wz_call qf_162 [.inr (.inr (some (10, 0, 0))), .inl a, .inr (.inr (some (69, 0, 0)))] (zm Z ν) (fun μ2 o2 => ∃ Z1 ν1, μ2 = zm Z1 ν1 ∧ o2 = .inl none ∧ zI none Z1 ∧ zJ [69] ν.2.2.2.1 Z Z1 ∧ zG 4 114 ν ν1 ∧ ∀ j, 0 ≤ j → j < 4 → Z1 69 0 0 j = beA j) := by
    refine fw_162 _ _ _ _ ?_
    intro μ1 e1
    rw [zal] at e1
    subst e1
    obtain ⟨n, hn⟩ := zx ν.2.2.2.1
    obtain ⟨ν1, hν1⟩ := zx (nal ν 50 1 3 1 3)
    have d1 : ν1.2.2.1 n = (50, 1, 3) := by subst hν1 hn; exact nal_at
    have na1 : ν1.2.2.2.1 = n + 1 := by subst hν1 hn; rfl
    have g1 : zG 1 3 ν ν1 := by subst hν1; exact zG_al zG_r
    have en : qz_na (zm Z ν) = n := hn.symm
    rw [en, ← hν1, ← hn]
    have t1 : ∀ Z1, Nat.beq (qz_tag (zm Z1 ν1) (200, n, 0)) 50 = true := fun Z1 => by rw [zt_tag d1 (by decide)]; rfl
    have l1 : ∀ Z1, qz_len (zm Z1 ν1) (200, n, 0) = 3 := fun Z1 => zt_len d1
    have cm : (-1 : Int32) = i3 (-1) := rfl
    refine wz_i1 (t1 _) (wz_i0 (by rw [l1]; rfl) ?_)
    intro μ2 e2
    obtain ⟨Z2, hZ2⟩ := zx (zu (zzr Z n) 200 n 0 0 (-1))
    replace e2 := e2.trans (zm_wI (ν := ν1) hZ2 rfl rfl rfl cm)
    subst e2
    refine wz_i1 (t1 _) (wz_i0 (by rw [l1]; rfl) ?_)
    intro μ3 e3
    obtain ⟨Z3, hZ3⟩ := zx (zu Z2 200 n 0 1 (-1))
    replace e3 := e3.trans (zm_wI (ν := ν1) hZ3 rfl rfl rfl cm)
    subst e3
    refine wz_i1 (t1 _) (wz_i0 (by rw [l1]; rfl) ?_)
    intro μ4 e4
    obtain ⟨Z4, hZ4⟩ := zx (zu Z3 200 n 0 2 (-1))
    replace e4 := e4.trans (zm_wI (ν := ν1) hZ4 rfl rfl rfl cm)
    subst e4
    have I4 : zI none Z4 := zI_200 (zI_200 (zI_200 (zzr_I hZ) hZ2 (by omega)) hZ3 (by omega)) hZ4 (by omega)
    have J4 : zJ [69] n Z Z4 := zJ_u (zJ_u (zJ_u (zJ_z zJ_r (by omega)) hZ2 (.inr ⟨rfl, by omega⟩)) hZ3 (.inr ⟨rfl, by omega⟩)) hZ4 (.inr ⟨rfl, by omega⟩)
    have m4 : ∀ j, 0 ≤ j → j < 3 → Z4 200 n 0 j = -1 := fun j a b => by
      rw [zu_if hZ4, zu_if hZ3, zu_if hZ2]
      rcases (show j = 0 ∨ j = 1 ∨ j = 2 by omega) with rfl | rfl | rfl <;> rfl
    have e11 : ∀ Z9, zJ [69] n Z Z9 → Z9 11 0 0 3 = 0 := fun Z9 hJ => (hJ 11 0 0 3 (by decide) (fun q => absurd q.1 (by decide))).trans h3
    refine wz_cI_of (be_167 (e11 Z4 J4)) ?_
    intro μ5 e5
    rw [zal] at e5
    subst e5
    obtain ⟨ν2, hν2⟩ := zx (nal ν1 50 1 24 1 24)
    have na2 : ν2.2.2.2.1 = n + 2 := by subst hν2; show ν1.2.2.2.1 + 1 = _; omega
    have d2 : ν2.2.2.1 (n + 1) = (50, 1, 24) := by subst hν2; rw [← na1]; exact nal_at
    have en2 : qz_na (zm Z4 ν1) = n + 1 := na1
    rw [en2, na1, ← hν2]
    intro μ6 e6
    rw [zal] at e6
    subst e6
    obtain ⟨ν3, hν3⟩ := zx (nal ν2 50 1 84 1 84)
    have na3 : ν3.2.2.2.1 = n + 3 := by subst hν3; show ν2.2.2.2.1 + 1 = _; omega
    have en3 : qz_na (zm (zzr Z4 (n + 1)) ν2) = n + 2 := na2
    rw [en3, na2, ← hν3]
    obtain ⟨Z5, hZ5⟩ := zx (zzr (zzr Z4 (n + 1)) (n + 2))
    rw [← hZ5]
    have I5 : zI none Z5 := by rw [hZ5]; exact zzr_I (zzr_I I4)
    have J5 : zJ [69] n Z Z5 := by rw [hZ5]; exact zJ_z (zJ_z J4 (by omega)) (by omega)
    have m5 : ∀ j, 0 ≤ j → j < 3 → Z5 200 n 0 j = -1 := fun j a b => by rw [hZ5, zzr_ne (by omega), zzr_ne (by omega)]; exact m4 j a b
    have z5 : ∀ j, Z5 200 (n + 1 : Nat) 0 j = 0 := fun j => by rw [hZ5, zzr_ne (by omega)]; exact zzr_at
    have d13 : ν3.2.2.1 n = (50, 1, 3) := by subst hν3; rw [nal_ne (by omega)]; subst hν2; rw [nal_ne (by omega)]; exact d1
    refine wz_cV_of (be_166 d13 (e11 Z5 J5) m5) ?_
    intro μ7 e7
    obtain ⟨Z6, hZ6⟩ := zx (zu Z5 69 0 0 0 (-1))
    replace e7 := e7.trans (zm_wI (ν := ν3) hZ6 rfl rfl rfl cm)
    subst e7
    intro μ8 e8
    rw [zal] at e8
    subst e8
    obtain ⟨ν4, hν4⟩ := zx (nal ν3 50 1 3 1 3)
    have en4 : qz_na (zm Z6 ν3) = n + 3 := na3
    rw [en4, na3, ← hν4]
    obtain ⟨Z7, hZ7⟩ := zx (zzr Z6 (n + 3))
    rw [← hZ7]
    have k0 : ν4.2.2.1 n = (50, 1, 3) := by subst hν4; rw [nal_ne (by omega)]; exact d13
    have k1 : ν4.2.2.1 (n + 1) = (50, 1, 24) := by subst hν4; rw [nal_ne (by omega)]; subst hν3; rw [nal_ne (by omega)]; exact d2
    have k3 : ν4.2.2.1 (n + 3) = (50, 1, 3) := by subst hν4; rw [← na3]; exact nal_at
    have G4 : zG 4 114 ν ν4 := by
      subst hν4 hν3 hν2
      exact zG_al (zG_al (zG_al g1))
    have S6 : beS Z n Z6 := beS_b ⟨I5, J5, m5, z5⟩ hZ6 (by omega)
    have S7 : beS Z n Z7 := by
      rw [hZ7]
      exact ⟨zzr_I S6.1, zJ_z S6.2.1 (by omega), fun j a b => (zzr_ne (by omega)).trans (S6.2.2.1 j a b), fun j => (zzr_ne (by omega)).trans (S6.2.2.2 j)⟩
    have b7 : Z7 69 0 0 0 = -1 := by rw [hZ7, zzr_ne (fun q => absurd q.1 (by decide))]; exact zu_at hZ6
    clear hν4 hν3 hν2 hν1 hZ7 hZ6 hZ5
    have t3 : ∀ Z1, Nat.beq (qz_tag (zm Z1 ν4) (200, n + 3, 0)) 50 = true := fun Z1 => by rw [zt_tag k3 (by decide)]; rfl
    have l3 : ∀ Z1, qz_len (zm Z1 ν4) (200, n + 3, 0) = 3 := fun Z1 => zt_len k3
    have t0 : ∀ Z1, qz_tag (zm Z1 ν4) (200, n, 0) = 50 := fun Z1 => zt_tag k0 (by decide)
    have l0 : ∀ Z1, qz_len (zm Z1 ν4) (200, n, 0) = 3 := fun Z1 => zt_len k0
    refine wz_lp sb_162_3 (fun m x => ∃ (Z' : qz_Z) (w : Int), 0 ≤ w ∧ w + m = 343 ∧ qz_fg [true, false, true, true, true, true, true, true, true, false, false, false] x.1 = [some (.inr (.inr (some (10, 0, 0)))), none, some (.inr (.inr (some (69, 0, 0)))), some (.inr (.inr (some (200, n, 0)))), some (.inl (i3 0)), some (.inr (.inr (some (200, n + 1, 0)))), some (.inr (.inr (some (200, n + 2, 0)))), some (.inr (.inr (some (200, n + 3, 0)))), some (.inl (i3 w)), none, none, none] ∧ x.2 = ([], zm Z' ν4) ∧ beS Z n Z' ∧ (w = 0 → Z' 69 0 0 0 = -1) ∧ (1 ≤ w → ∀ j, 0 ≤ j → j < 4 → Z' 69 0 0 j = beA j)) ?_ 65536 343 _ (by omega) ⟨Z7, 0, by omega, by omega, rfl, rfl, S7, fun _ => b7, fun q => by omega⟩
    rintro m ⟨L, st, μ⟩ ⟨Z', w, hw0, hwm, hL, hx, S', B0, B1⟩
    cases hx
    refine fb_162_3 _ _ _ _ _ _ _ _ _ _ _ hL ?_
    refine wz_br (i3Le (show (343 : Int32) = i3 343 from rfl) (rfl : i3 w = i3 w) (by omega) (by omega) (by omega) (by omega)) (fun q => wz_lk0 (wz_sk0 (fc_162_4 _ _ _ _ rfl ⟨Z', ν4, rfl, rfl, S'.1, hn ▸ S'.2.1, G4, B1 (by omega)⟩))) (fun q => ?_)
    refine wz_i1 (t3 _) (wz_i0 (by rw [l3]; rfl) ?_)
    intro μ2 e2
    obtain ⟨Za, hZa⟩ := zx (zu Z' 200 (n + 3 : Nat) 0 0 (w / 49))
    replace e2 := e2.trans (zm_wI (ν := ν4) hZa rfl rfl rfl (i3D (rfl : i3 w = i3 w) (show (49 : Int32) = i3 49 from rfl) (by omega) (by omega) (by omega) (by omega)))
    subst e2
    refine wz_i1 (t3 _) (wz_i0 (by rw [l3]; rfl) ?_)
    intro μ3 e3
    obtain ⟨Zb, hZb⟩ := zx (zu Za 200 (n + 3 : Nat) 0 1 (w / 7 % 7))
    replace e3 := e3.trans (zm_wI (ν := ν4) hZb rfl rfl rfl (i3R (i3D (rfl : i3 w = i3 w) (show (7 : Int32) = i3 7 from rfl) (by omega) (by omega) (by omega) (by omega)) (show (7 : Int32) = i3 7 from rfl) (by omega) (by omega) (by omega) (by omega)))
    subst e3
    refine wz_i1 (t3 _) (wz_i0 (by rw [l3]; rfl) ?_)
    intro μ4 e4
    obtain ⟨Zc, hZc⟩ := zx (zu Zb 200 (n + 3 : Nat) 0 2 (w % 7))
    replace e4 := e4.trans (zm_wI (ν := ν4) hZc rfl rfl rfl (i3R (rfl : i3 w = i3 w) (show (7 : Int32) = i3 7 from rfl) (by omega) (by omega) (by omega) (by omega)))
    subst e4
    have Sc : beS Z n Zc := beS_g (beS_g (beS_g S' hZa (by omega)) hZb (by omega)) hZc (by omega)
    have bc : ∀ j, Zc 69 0 0 j = Z' 69 0 0 j := fun j => (zu_ne hZc (fun q => absurd q.1 (by decide))).trans ((zu_ne hZb (fun q => absurd q.1 (by decide))).trans (zu_ne hZa (fun q => absurd q.1 (by decide))))
    have gc : ∀ j, 0 ≤ j → j < 3 → Zc 200 (n + 3 : Nat) 0 j = (fun j => if j = 0 then w / 49 else if j = 1 then w / 7 % 7 else w % 7) j := fun j a b => by
      rw [zu_if hZc, zu_if hZb, zu_if hZa]
      rcases (show j = 0 ∨ j = 1 ∨ j = 2 by omega) with rfl | rfl | rfl <;> rfl
    clear hZa hZb hZc
    refine wz_cI_of (be_163 k0 k3 Sc.2.2.1 gc (fun j a b => ?_)) ?_
    · show 0 ≤ (if j = 0 then w / 49 else if j = 1 then w / 7 % 7 else w % 7) ∧ (if j = 0 then w / 49 else if j = 1 then w / 7 % 7 else w % 7) ≤ 6
      split
      · omega
      · split <;> omega
    have eg : (if (fun j : Int => if j = 0 then w / 49 else if j = 1 then w / 7 % 7 else w % 7) 0 ≤ 0 ∧ (fun j : Int => if j = 0 then w / 49 else if j = 1 then w / 7 % 7 else w % 7) 1 ≤ 0 ∧ (fun j : Int => if j = 0 then w / 49 else if j = 1 then w / 7 % 7 else w % 7) 2 ≤ 0 then (1 : Int) else 0) = if w = 0 then 1 else 0 := by
      have := be_g w hw0 (by omega)
      show (if w / 49 ≤ 0 ∧ w / 7 % 7 ≤ 0 ∧ w % 7 ≤ 0 then (1 : Int) else 0) = _
      by_cases e : w = 0
      · rw [if_pos e, if_pos (this.mpr e)]
      · rw [if_neg e, if_neg (fun q => e (this.mp q))]
    rw [eg]
    have nextL : ∀ (x9 x10 x11 : Option qz_V), qz_fg [true, false, true, true, true, true, true, true, true, false, false, false] [some (.inr (.inr (some (10, 0, 0)))), none, some (.inr (.inr (some (69, 0, 0)))), some (.inr (.inr (some (200, n, 0)))), some (.inl (i3 0)), some (.inr (.inr (some (200, n + 1, 0)))), some (.inr (.inr (some (200, n + 2, 0)))), some (.inr (.inr (some (200, n + 3, 0)))), some (.inl (i3 w + (1 : Int32))), x9, x10, x11] = [some (.inr (.inr (some (10, 0, 0)))), none, some (.inr (.inr (some (69, 0, 0)))), some (.inr (.inr (some (200, n, 0)))), some (.inl (i3 0)), some (.inr (.inr (some (200, n + 1, 0)))), some (.inr (.inr (some (200, n + 2, 0)))), some (.inr (.inr (some (200, n + 3, 0)))), some (.inl (i3 (w + 1))), none, none, none] := fun _ _ _ => by
      show [_, none, _, _, _, _, _, _, some (Sum.inl (i3 w + 1)), none, none, none] = _
      rw [show (1 : Int32) = i3 1 from rfl, i3_add] <;> rfl
    by_cases e : w = 0
    · subst e
      refine wz_i0 (by decide) ?_
      refine wz_cI_of (be_170 k0 k1 k3 Sc.2.2.1 Sc.2.2.2 (fun j a b => (gc j a b).trans ?_)) ?_
      · rcases (show j = 0 ∨ j = 1 ∨ j = 2 by omega) with rfl | rfl | rfl <;> rfl
      refine wz_i0 (Eq.trans (i3Le (i3A (rfl : i3 0 = i3 0) (rfl : i3 0 = i3 0)) (Eq.trans (zm_rd (k := 69) rfl rfl rfl) (congrArg i3 ((bc 0).trans (B0 rfl)))) (by omega) (by omega) (by omega) (by omega)) (decide_eq_false (by omega))) ?_
      intro μ5 e5
      obtain ⟨Zd, hZd⟩ := zx (zu Zc 69 0 0 0 0)
      replace e5 := e5.trans (zm_wI (ν := ν4) hZd rfl rfl rfl (i3A (rfl : i3 0 = i3 0) (rfl : i3 0 = i3 0)))
      subst e5
      have Sd : beS Z n Zd := beS_b Sc hZd (by omega)
      have gd : ∀ j, 0 ≤ j → j < 3 → Zd 200 (n + 3 : Nat) 0 j = 0 := fun j a b => (zu_ne hZd (fun q => absurd q.1 (by decide))).trans ((gc j a b).trans (by rcases (show j = 0 ∨ j = 1 ∨ j = 2 by omega) with rfl | rfl | rfl <;> rfl))
      have bd : Zd 69 0 0 0 = 0 := zu_at hZd
      clear hZd
      refine wz_lp sb_162_1 (fun m x => ∃ (Z2 : qz_Z) (u : Int), 0 ≤ u ∧ u + m = 3 ∧ qz_fg [true, false, true, true, true, true, true, true, true, false, true, false] x.1 = [some (.inr (.inr (some (10, 0, 0)))), none, some (.inr (.inr (some (69, 0, 0)))), some (.inr (.inr (some (200, n, 0)))), some (.inl (i3 0)), some (.inr (.inr (some (200, n + 1, 0)))), some (.inr (.inr (some (200, n + 2, 0)))), some (.inr (.inr (some (200, n + 3, 0)))), some (.inl (i3 0)), none, some (.inl (i3 u)), none] ∧ x.2 = ([], zm Z2 ν4) ∧ beS Z n Z2 ∧ (∀ j, 0 ≤ j → j < 3 → Z2 200 (n + 3 : Nat) 0 j = 0) ∧ Z2 69 0 0 0 = 0 ∧ ∀ j, 1 ≤ j → j ≤ u → Z2 69 0 0 j = -1) ?_ 65536 3 _ (by omega) ⟨Zd, 0, by omega, by omega, rfl, rfl, Sd, gd, bd, fun j a b => by omega⟩
      rintro m2 ⟨L2, st2, μ2⟩ ⟨Z2, u, hu0, hum, hL2, hx2, S2, g2, b2, c2⟩
      cases hx2
      refine fb_162_1 _ _ _ _ _ _ _ _ _ _ _ _ hL2 ?_
      refine wz_br (i3Le (show (3 : Int32) = i3 3 from rfl) (rfl : i3 u = i3 u) (by omega) (by omega) (by omega) (by omega)) (fun q => ?_) (fun q => ?_)
      · refine wz_lks (wz_kbs (n := 0) (wz_sk0 (fc_162_2 _ _ _ _ _ _ _ _ _ _ _ rfl (wz_kbs (wz_k1 ⟨m - 1, by omega, Z2, 0 + 1, by omega, by omega, nextL _ _ _, rfl, S2, fun q => by omega, fun _ j a b => ?_⟩)))))
        unfold beA
        by_cases e : j = 0
        · subst e
          rw [if_pos rfl]
          exact b2
        · rw [if_neg e]
          exact c2 j (by omega) (by omega)
      · have o3 : pz_out (i3 u) 3 = false := i3O rfl hu0 (by show u < (3 : Int); omega) (by decide)
        have r3 : qz_im (zm Z2 ν4) 200 (n + 3) 0 (i3 u).toNatClampNeg = i3 0 := Eq.trans (zm_rd (k := 200) rfl rfl (i3I rfl rfl (by omega) (by omega))) (congrArg i3 (g2 u hu0 (by omega)))
        have r0 : qz_im (zm Z2 ν4) 200 n 0 (i3 u).toNatClampNeg = i3 (-1) := Eq.trans (zm_rd (k := 200) rfl rfl (i3I rfl rfl (by omega) (by omega))) (congrArg i3 (S2.2.2.1 u hu0 (by omega)))
        refine wz_i1 (by rw [t3]; rfl) (wz_i0 (by rw [l3]; exact o3) (wz_i0 (Eq.trans (i3NE r3 (show (0 : Int32) = i3 0 from rfl) (by omega) (by omega) (by omega) (by omega)) (decide_eq_false (by omega))) (wz_i1 (by rw [t0]; rfl) (wz_i0 (by rw [l0]; exact o3) (wz_i0 (Eq.trans (i3NE r0 (show (-1 : Int32) = i3 (-1) from rfl) (by omega) (by omega) (by omega) (by omega)) (decide_eq_false (by omega))) ?_)))))
        rw [show i3 u + (1 : Int32) = i3 (u + 1) from i3A rfl rfl]
        refine wz_i0 (i3O rfl (by omega) (by show _ < (24 : Int); omega) (by decide)) ?_
        intro μ5 e5
        obtain ⟨Ze, hZe⟩ := zx (zu Z2 69 0 0 (u + 1) (-1))
        replace e5 := e5.trans (zm_wI (ν := ν4) hZe rfl rfl (i3I rfl rfl (by omega) (by omega)) cm)
        subst e5
        refine wz_k1 ⟨m2 - 1, by omega, Ze, u + 1, by omega, by omega, rfl, rfl, beS_b S2 hZe (by omega), fun j a b => (zu_ne hZe (fun q => absurd q.1 (by decide))).trans (g2 j a b), (zu_ne hZe (by omega)).trans b2, fun j a b => ?_⟩
        rw [zu_if hZe]
        by_cases e : j = u + 1
        · rw [if_pos e]
        · rw [if_neg e]
          exact c2 j a (by omega)
    · rw [if_neg e]
      refine wz_i1 (by decide) (fc_162_2 _ _ _ _ _ _ _ _ _ _ _ rfl (wz_kbs (wz_k1 ⟨m - 1, by omega, Zc, w + 1, by omega, by omega, nextL _ _ _, rfl, Sc, fun q => by omega, fun _ j a b => (bc j).trans (B1 (by omega) j a b)⟩)))
  obtain ⟨μ', o, e, Z1, ν1, rfl, rfl, hh⟩ := main
  exact ⟨Z1, ν1, e, hh⟩
abbrev beO (a1 a2 : Int) : Prop := (0 ≤ a1 ∧ a1 ≤ 48) ∧ (0 ≤ a2 ∧ a2 ≤ 3)
def zg_187 (a1 a2 : Int) : Int × Int := if beO a1 a2 then (beA a2, 0) else (0, 13)
def zg_291 (a1 a2 : Int) : Int × Int := if beO a1 a2 then (beA a2, 0) else (0, 1)
theorem sg_187 {Z : qz_Z} {ν : qz_N} (h : zNew Z ν) {a1 : Int} (g1 : -2147483648 ≤ a1 ∧ a1 ≤ 2147483647) {a2 : Int} (g2 : -2147483648 ≤ a2 ∧ a2 ≤ 2147483647) : ∃ (Z1 : qz_Z) (ν1 : qz_N) (v E : Int), (v, E) = zg_187 a1 a2 ∧ qf_187 [.inr (.inr (some (0, 0, 0))), .inl (i3 a1), .inl (i3 a2)] (zm Z ν) = some (zm Z1 ν1, zoX v E) ∧ (zSt Z1 ν1 ∧ ∀ j, Z1 200 0 0 j = Z 200 0 0 j) := by
  unfold zg_187
  have e13 : qz_im (zm Z ν) 11 0 0 13 = i3 0 := Eq.trans (zm_rd (k := 11) rfl rfl rfl) (congrArg i3 ((h.2.1 11 0 13 (by decide)).trans (by decide)))
  have cx : (if (671 : Int32) < i3 0 + (48 : Int32) then (671 : Int32) else i3 0 + (48 : Int32)) = i3 48 := by decide
  by_cases hO : beO a1 a2
  · rw [if_pos hO]
    obtain ⟨o1, o2⟩ := hO
    obtain ⟨Z1, ν1, hq, I1, J1, G1, A1⟩ := be_162 (ν := ν) h.1 ((h.2.1 11 0 3 (by decide)).trans (by decide)) (a := i3 a1)
    refine ⟨Z1, ν1, _, _, rfl, wz_call_eq (fw_187 _ _ _ _ ?_), zSt_J h I1 J1 G1 (by decide) (by decide) (by decide)⟩
    rw [e13, cx]
    refine wz_inR_y (rfl : i3 a1 = i3 a1) (rfl : i3 0 = i3 0) (rfl : i3 48 = i3 48) (by omega) (by omega) (by omega) (by omega) (by omega) (by omega) o1 ?_
    refine wz_inR_y (rfl : i3 a2 = i3 a2) (show (0 : Int32) = i3 0 from rfl) (show (3 : Int32) = i3 3 from rfl) (by omega) (by omega) (by omega) (by omega) (by omega) (by omega) o2 ?_
    refine wz_cV_of hq (wz_i0 (i3O rfl o2.1 (by show a2 < (24 : Int); omega) (by decide)) ⟨rfl, ?_⟩)
    exact zo _ _ (Eq.trans (zm_rd (k := 69) rfl rfl (i3I rfl rfl (by omega) (by omega))) (congrArg i3 (A1 a2 o2.1 (by omega))))
  · rw [if_neg hO]
    have hS := zSt_to (WS := []) (ν1 := nkk ν 1 6) h.2.2.1 h.2.2.2.1 ⟨by have := h.2.2.2.2.1; omega, by have := h.2.2.2.2.2; omega⟩ (zF_m h.2.1) h.1 zK_r (zN_k rfl) (by decide)
    refine ⟨Z, nkk ν 1 6, _, _, rfl, wz_call_eq (fw_187 _ _ _ _ ?_), hS⟩
    rw [e13, cx]
    refine wz_inR (rfl : i3 a1 = i3 a1) (rfl : i3 0 = i3 0) (rfl : i3 48 = i3 48) (by omega) (by omega) (by omega) (by omega) (by omega) (by omega) (fun o1 => ?_) (fun _ => ⟨rfl, rfl⟩)
    exact wz_inR_n (rfl : i3 a2 = i3 a2) (show (0 : Int32) = i3 0 from rfl) (show (3 : Int32) = i3 3 from rfl) (by omega) (by omega) (by omega) (by omega) (by omega) (by omega) (fun o2 => hO ⟨o1, o2⟩) ⟨rfl, rfl⟩
/-! BEST, the reference's -/
theorem be_351 {Z : qz_Z} {ν : qz_N} : ∃ Z1, qf_351 [.inr (.inr (some (1, 0, 0))), .inl (0 : Int32)] (zm Z ν) = some (zm Z1 ν, .inl none) ∧ (∀ k (b i j : Int), k ≠ 81 → Z1 k b i j = Z k b i j) := by
  have main : wz_call qf_351 [.inr (.inr (some (1, 0, 0))), .inl (0 : Int32)] (zm Z ν) (fun μ2 o2 => ∃ Z1, μ2 = zm Z1 ν ∧ o2 = .inl none ∧ (∀ k (b i j : Int), k ≠ 81 → Z1 k b i j = Z k b i j)) := by
    refine fw_351 _ _ _ ?_
    refine wz_lp sb_351_1 (fun m x => ∃ (Z' : qz_Z) (n : Int), 0 ≤ n ∧ n + m = 4400 ∧ qz_fg [true, true, true] x.1 = [some (.inr (.inr (some (1, 0, 0)))), some (.inl (0 : Int32)), some (.inl (i3 n))] ∧ x.2 = ([], zm Z' ν) ∧ (∀ k (b i j : Int), k ≠ 81 → Z' k b i j = Z k b i j)) ?_ 65536 4400 _ (by omega) ⟨Z, 0, by omega, by omega, rfl, rfl, fun _ _ _ _ _ => rfl⟩
    rintro m ⟨L, st, μ⟩ ⟨Z', n, hn0, hnm, hL, hx, hK⟩
    cases hx
    refine fb_351_1 _ _ _ _ _ _ hL ?_
    refine wz_br (i3Le (show (4400 : Int32) = i3 4400 from rfl) (rfl : i3 n = i3 n) (by omega) (by omega) (by omega) (by omega)) (fun q => wz_lk0 (wz_sk0 (fc_351_2 _ _ _ _ rfl ⟨Z', rfl, rfl, hK⟩))) (fun q => ?_)
    have ex : (4400 : Int32) * (0 : Int32) + i3 n = i3 n := (i3A (show (4400 : Int32) * (0 : Int32) = i3 0 from by decide) rfl).trans (congrArg i3 (by omega))
    rw [ex]
    refine wz_i0 (i3O rfl hn0 (by show n < (4400 : Int); omega) (by decide)) (wz_i0 (i3O rfl (by omega) (by show _ < (8800 : Int); omega) (by decide)) (kp_wI (fun Z5 h5 => ?_)))
    refine wz_k1 ⟨m - 1, by omega, Z5, n + 1, by omega, by omega, ?_, rfl, fun k b i j hk => (h5 k b i j hk).trans (hK k b i j hk)⟩
    show [_, _, some (Sum.inl (i3 n + 1))] = _
    rw [show (1 : Int32) = i3 1 from rfl, i3_add] <;> rfl
  obtain ⟨μ', o, e, Z1, rfl, rfl, hh⟩ := main
  exact ⟨Z1, e, hh⟩
theorem be_493 {Z : qz_Z} {ν : qz_N} : ∃ Z1, qf_493 [.inr (.inr (some (1, 0, 0))), .inl (0 : Int32)] (zm Z ν) = some (zm Z1 ν, .inl none) ∧ (∀ k (b i j : Int), k ≠ 2 → Z1 k b i j = Z k b i j) := by
  have main : wz_call qf_493 [.inr (.inr (some (1, 0, 0))), .inl (0 : Int32)] (zm Z ν) (fun μ2 o2 => ∃ Z1, μ2 = zm Z1 ν ∧ o2 = .inl none ∧ (∀ k (b i j : Int), k ≠ 2 → Z1 k b i j = Z k b i j)) := by
    refine fw_493 _ _ _ ?_
    refine wz_lp sb_493_1 (fun m x => ∃ (Z' : qz_Z) (n : Int), 0 ≤ n ∧ n + m = 4400 ∧ qz_fg [true, true, true] x.1 = [some (.inr (.inr (some (1, 0, 0)))), some (.inl (0 : Int32)), some (.inl (i3 n))] ∧ x.2 = ([], zm Z' ν) ∧ (∀ k (b i j : Int), k ≠ 2 → Z' k b i j = Z k b i j)) ?_ 65536 4400 _ (by omega) ⟨Z, 0, by omega, by omega, rfl, rfl, fun _ _ _ _ _ => rfl⟩
    rintro m ⟨L, st, μ⟩ ⟨Z', n, hn0, hnm, hL, hx, hK⟩
    cases hx
    refine fb_493_1 _ _ _ _ _ _ hL ?_
    refine wz_br (i3Le (show (4400 : Int32) = i3 4400 from rfl) (rfl : i3 n = i3 n) (by omega) (by omega) (by omega) (by omega)) (fun q => wz_lk0 (wz_sk0 (fc_493_2 _ _ _ _ rfl ⟨Z', rfl, rfl, hK⟩))) (fun q => ?_)
    have ex : (4400 : Int32) * (0 : Int32) + i3 n = i3 n := (i3A (show (4400 : Int32) * (0 : Int32) = i3 0 from by decide) rfl).trans (congrArg i3 (by omega))
    rw [ex]
    refine wz_i0 (i3O rfl (by omega) (by show _ < (8800 : Int); omega) (by decide)) (wz_i0 (i3O rfl hn0 (by show n < (4400 : Int); omega) (by decide)) (kp_wI (fun Z5 h5 => ?_)))
    refine wz_k1 ⟨m - 1, by omega, Z5, n + 1, by omega, by omega, ?_, rfl, fun k b i j hk => (h5 k b i j hk).trans (hK k b i j hk)⟩
    show [_, _, some (Sum.inl (i3 n + 1))] = _
    rw [show (1 : Int32) = i3 1 from rfl, i3_add] <;> rfl
  obtain ⟨μ', o, e, Z1, rfl, rfl, hh⟩ := main
  exact ⟨Z1, e, hh⟩
/-- counts of the reference's that stay 0 -/
def beC (Z : qz_Z) : Prop := Z 2 0 0 102 = 0 ∧ Z 2 0 0 1200 = 0 ∧ Z 2 0 0 2000 = 0
theorem be_471 {Z : qz_Z} {ν : qz_N} (h : beC Z) : qf_471 [.inr (.inr (some (1, 0, 0)))] (zm Z ν) = some (zm Z ν, .inl none) := by
  have r : ∀ j : Nat, Z 2 0 0 j = 0 → qz_im (zm Z ν) 2 0 0 j = i3 0 := fun j e => Eq.trans (zm_rd (k := 2) rfl rfl rfl) (congrArg i3 e)
  refine wz_call_eq (fw_471 _ _ ?_)
  refine wz_l0 sb_471_1 (fb_471_1 (i3 0) _ _ _ _ rfl ?_)
  refine wz_i1 (by rw [r 1200 h.2.1]; decide) (wz_lk0 (wz_sk0 (fc_471_6 _ _ _ _ rfl ?_)))
  refine wz_l0 sb_471_2 (fb_471_2 (i3 0) _ _ _ _ rfl ?_)
  refine wz_i1 (by rw [r 102 h.1]; decide) (wz_lk0 (wz_sk0 (fc_471_5 _ _ _ _ rfl ?_)))
  refine wz_l0 sb_471_3 (fb_471_3 (i3 0) _ _ _ _ rfl ?_)
  exact wz_i1 (by rw [r 2000 h.2.2]; decide) (wz_lk0 (wz_sk0 (fc_471_4 _ _ _ _ rfl ⟨rfl, rfl⟩)))
theorem be_469 {Z : qz_Z} {ν : qz_N} (h : beC Z) : qf_469 [.inr (.inr (some (1, 0, 0)))] (zm Z ν) = some (zm Z ν, .inl (some (.inl (i3 0)))) := by
  have r : ∀ j : Nat, Z 2 0 0 j = 0 → qz_im (zm Z ν) 2 0 0 j = i3 0 := fun j e => Eq.trans (zm_rd (k := 2) rfl rfl rfl) (congrArg i3 e)
  refine wz_call_eq (fw_469 _ _ ?_)
  refine wz_l0 sb_469_1 (fb_469_1 (i3 0) (i3 0) _ _ _ _ rfl ?_)
  exact wz_i1 (by rw [r 102 h.1]; decide) (wz_lk0 (wz_sk0 (fc_469_2 _ _ _ _ _ rfl ⟨rfl, rfl⟩)))
theorem be_464 {Z : qz_Z} {ν : qz_N} (h : Z 1 0 0 5 = 0) : qf_464 [.inr (.inr (some (1, 0, 0))), .inl (i3 0)] (zm Z ν) = some (zm Z ν, .inl (some (.inl (i3 1)))) := by
  have r : qz_im (zm Z ν) 1 0 0 5 = i3 0 := Eq.trans (zm_rd (k := 1) rfl rfl rfl) (congrArg i3 h)
  refine wz_call_eq (fw_464 _ _ _ ?_)
  refine wz_l0 sb_464_1 (fb_464_1 (i3 0) (i3 1) (i3 0) _ _ _ _ rfl ?_)
  exact wz_i1 (by rw [r]; decide) (wz_lk0 (wz_sk0 (fc_464_2 _ _ _ _ _ rfl (wz_i1 (by decide) ⟨rfl, rfl⟩))))
theorem be_491 {Z : qz_Z} {ν : qz_N} (h : Z 1 0 0 5 = 0) : qf_491 [.inr (.inr (some (1, 0, 0)))] (zm Z ν) = some (zm Z ν, .inl (some (.inl (i3 1)))) := by
  have r : qz_im (zm Z ν) 1 0 0 5 = i3 0 := Eq.trans (zm_rd (k := 1) rfl rfl rfl) (congrArg i3 h)
  refine wz_call_eq (fw_491 _ _ ?_)
  refine wz_l0 sb_491_1 (fb_491_1 (i3 1) (i3 0) _ _ _ _ rfl ?_)
  exact wz_i1 (by rw [r]; decide) (wz_lk0 (wz_sk0 (fc_491_2 _ _ _ _ _ rfl ⟨rfl, rfl⟩)))
theorem be_460 {Z : qz_Z} {ν : qz_N} (h : beC Z) (h0 : Z 2 0 0 0 = 0) {a : Int} (ha : 0 ≤ a ∧ a ≤ 48) : ∃ Z1, qf_460 [.inr (.inr (some (1, 0, 0))), .inl (i3 a)] (zm Z ν) = some (zm Z1 ν, .inl none) ∧ (∀ k (b i j : Int), k ≠ 2 → Z1 k b i j = Z k b i j) ∧ beC Z1 := by
  have main : wz_call qf_460 [.inr (.inr (some (1, 0, 0))), .inl (i3 a)] (zm Z ν) (fun μ2 o2 => ∃ Z1, μ2 = zm Z1 ν ∧ o2 = .inl none ∧ (∀ k (b i j : Int), k ≠ 2 → Z1 k b i j = Z k b i j) ∧ beC Z1) := by
    refine fw_460 _ _ _ ?_
    refine wz_lp sb_460_1 (fun m x => ∃ (Z' : qz_Z) (n : Int), 0 ≤ n ∧ n + m = a ∧ qz_fg [true, true] x.1 = [some (.inr (.inr (some (1, 0, 0)))), some (.inl (i3 a))] ∧ x.2 = ([], zm Z' ν) ∧ (∀ k (b i j : Int), k ≠ 2 → Z' k b i j = Z k b i j) ∧ beC Z' ∧ Z' 2 0 0 0 = n) ?_ 65536 a.toNat _ (by omega) ⟨Z, 0, by omega, by omega, rfl, rfl, fun _ _ _ _ _ => rfl, h, h0⟩
    rintro m ⟨L, st, μ⟩ ⟨Z', n, hn0, hnm, hL, hx, hK, hC, hN⟩
    cases hx
    refine fb_460_1 _ _ _ _ _ hL ?_
    have rn : qz_im (zm Z' ν) 2 0 0 0 = i3 n := Eq.trans (zm_rd (k := 2) rfl rfl rfl) (congrArg i3 hN)
    refine wz_br (i3Le (rfl : i3 a = i3 a) rn (by omega) (by omega) (by omega) (by omega)) (fun q => wz_lk0 (wz_sk0 (fc_460_2 _ _ _ _ rfl ⟨Z', rfl, rfl, hK, hC⟩))) (fun q => ?_)
    intro μ1 e1
    obtain ⟨Z5, hZ5⟩ := zx (zu Z' 2 0 0 0 (n + 1))
    replace e1 := e1.trans (zm_wI (ν := ν) hZ5 rfl rfl rfl (i3A rn (show (1 : Int32) = i3 1 from rfl)))
    subst e1
    have C5 : beC Z5 := ⟨(zu_ne hZ5 (by omega)).trans hC.1, (zu_ne hZ5 (by omega)).trans hC.2.1, (zu_ne hZ5 (by omega)).trans hC.2.2⟩
    exact wz_cV_of (be_471 C5) (wz_k1 ⟨m - 1, by omega, Z5, n + 1, by omega, by omega, rfl, rfl, fun k b i j hk => (zu_ne hZ5 (fun q => hk q.1)).trans (hK k b i j hk), C5, zu_at hZ5⟩)
  obtain ⟨μ', o, e, Z1, rfl, rfl, hh⟩ := main
  exact ⟨Z1, e, hh⟩
theorem be_468 {Z : qz_Z} {ν : qz_N} (h : Z 2 0 0 102 = 0) : qf_468 [.inr (.inr (some (1, 0, 0)))] (zm Z ν) = some (zm (zu Z 1 0 0 5 0) ν, .inl none) := by
  obtain ⟨Z1, hZ1⟩ := zx (zu Z 1 0 0 5 0)
  rw [← hZ1]
  refine wz_call_eq (fw_468 _ _ ?_)
  intro μ1 e1
  replace e1 := e1.trans (zm_wI (ν := ν) hZ1 rfl rfl rfl (show (0 : Int32) = i3 0 from rfl))
  subst e1
  have r : qz_im (zm Z1 ν) 2 0 0 102 = i3 0 := Eq.trans (zm_rd (k := 2) rfl rfl rfl) (congrArg i3 ((zu_ne hZ1 (fun q => absurd q.1 (by decide))).trans h))
  refine wz_l0 sb_468_1 (fb_468_1 (i3 0) _ _ _ _ rfl ?_)
  exact wz_i1 (by rw [r]; decide) (wz_lk0 (wz_sk0 (fc_468_2 _ _ _ _ rfl ⟨rfl, rfl⟩)))
theorem be_467 {Z : qz_Z} {ν : qz_N} (h : beC Z) (h0 : Z 2 0 0 0 = 0) {a : Int} (ha : 0 ≤ a ∧ a ≤ 48) : ∃ Z1, qf_467 [.inr (.inr (some (1, 0, 0))), .inl (i3 a)] (zm Z ν) = some (zm Z1 ν, .inl none) ∧ Z1 1 0 0 5 = 0 ∧ Z1 1 0 0 6 = 0 ∧ Z1 1 0 0 2 = Z 1 0 0 2 := by
  have main : wz_call qf_467 [.inr (.inr (some (1, 0, 0))), .inl (i3 a)] (zm Z ν) (fun μ2 o2 => ∃ Z1, μ2 = zm Z1 ν ∧ o2 = .inl none ∧ Z1 1 0 0 5 = 0 ∧ Z1 1 0 0 6 = 0 ∧ Z1 1 0 0 2 = Z 1 0 0 2) := by
    refine fw_467 _ _ _ ?_
    refine wz_cV_of (be_468 h.1) ?_
    obtain ⟨Z1, hZ1⟩ := zx (zu Z 1 0 0 5 0)
    rw [← hZ1]
    intro μ2 e2
    obtain ⟨Z2, hZ2⟩ := zx (zu Z1 1 0 0 6 (-1))
    replace e2 := e2.trans (zm_wI (ν := ν) hZ2 rfl rfl rfl (show (-1 : Int32) = i3 (-1) from rfl))
    subst e2
    have k2 : ∀ j, Z2 2 0 0 j = Z 2 0 0 j := fun j => (zu_ne hZ2 (fun q => absurd q.1 (by decide))).trans (zu_ne hZ1 (fun q => absurd q.1 (by decide)))
    have e5 : Z2 1 0 0 5 = 0 := (zu_ne hZ2 (by omega)).trans (zu_at hZ1)
    refine wz_cI_of (be_491 e5) ?_
    refine wz_lu sb_467_1 65535 (fb_467_1 (i3 a) (i3 1) (i3 0) _ _ _ _ rfl ?_)
    obtain ⟨Z3, q3, K3⟩ := be_351 (Z := Z2) (ν := ν)
    refine wz_i0 (by decide) (wz_cV_of q3 ?_)
    have e53 : Z3 1 0 0 5 = 0 := (K3 1 0 0 5 (by decide)).trans e5
    refine wz_cI_of (be_464 e53) (wz_i0 (by decide) ?_)
    have C3 : beC Z3 := ⟨(K3 2 0 0 102 (by decide)).trans ((k2 _).trans h.1), (K3 2 0 0 1200 (by decide)).trans ((k2 _).trans h.2.1), (K3 2 0 0 2000 (by decide)).trans ((k2 _).trans h.2.2)⟩
    obtain ⟨Z4, q4, K4, C4⟩ := be_460 (ν := ν) C3 ((K3 2 0 0 0 (by decide)).trans ((k2 _).trans h0)) ha
    refine wz_cV_of q4 (wz_cI_of (be_469 C4) ?_)
    have r6 : qz_im (zm Z4 ν) 1 0 0 6 = i3 (-1) := Eq.trans (zm_rd (k := 1) rfl rfl rfl) (congrArg i3 ((K4 1 0 0 6 (by decide)).trans ((K3 1 0 0 6 (by decide)).trans (zu_at hZ2))))
    refine wz_i0 (by rw [r6]; decide) ?_
    intro μ5 e5'
    obtain ⟨Z5, hZ5⟩ := zx (zu Z4 1 0 0 6 0)
    replace e5' := e5'.trans (zm_wI (ν := ν) hZ5 rfl rfl rfl rfl)
    subst e5'
    intro μ6 e6
    obtain ⟨Z6, hZ6⟩ := zx (zu Z5 1 0 0 7 0)
    replace e6 := e6.trans (zm_wI (ν := ν) hZ6 rfl rfl rfl rfl)
    subst e6
    obtain ⟨Z7, q7, K7⟩ := be_493 (Z := Z6) (ν := ν)
    refine wz_cV_of q7 (wz_k1 ?_)
    refine wz_lu sb_467_1 65534 (fb_467_1 (i3 a) (i3 1) (i3 0 + (1 : Int32)) _ _ _ _ rfl ?_)
    refine wz_i1 (by decide) (wz_lk0 (wz_sk0 (fc_467_2 _ _ _ _ rfl ⟨Z7, rfl, rfl, ?_, ?_, ?_⟩)))
    · exact (K7 1 0 0 5 (by decide)).trans ((zu_ne hZ6 (by omega)).trans ((zu_ne hZ5 (by omega)).trans ((K4 1 0 0 5 (by decide)).trans e53)))
    · exact (K7 1 0 0 6 (by decide)).trans ((zu_ne hZ6 (by omega)).trans (zu_at hZ5))
    · exact (K7 1 0 0 2 (by decide)).trans ((zu_ne hZ6 (by omega)).trans ((zu_ne hZ5 (by omega)).trans ((K4 1 0 0 2 (by decide)).trans ((K3 1 0 0 2 (by decide)).trans ((zu_ne hZ2 (by omega)).trans (zu_ne hZ1 (by omega)))))))
  obtain ⟨μ', o, e, Z1, rfl, rfl, hh⟩ := main
  exact ⟨Z1, e, hh⟩
theorem sg_291 {Z : qz_Z} {ν : qz_N} (hF : zFm Z) {a1 : Int} (g1 : -2147483648 ≤ a1 ∧ a1 ≤ 2147483647) {a2 : Int} (g2 : -2147483648 ≤ a2 ∧ a2 ≤ 2147483647) : ∃ (Z1 : qz_Z) (v t : Int), (v, t) = zg_291 a1 a2 ∧ qf_291 [.inr (.inr (some (1, 0, 0))), .inl (i3 a1), .inl (i3 a2)] (zm Z ν) = some (zm Z1 ν, .inl (some (.inl (i3 v)))) ∧ Z1 1 0 0 2 = t := by
  unfold zg_291
  have c0 : (0 : Int32) = i3 0 := rfl
  have c1 : (1 : Int32) = i3 1 := rfl
  have c3 : (3 : Int32) = i3 3 := rfl
  have f2 : ∀ j, frz 2 0 j = 0 → Z 2 0 0 j = 0 := fun j e => (hF 2 0 j (by decide)).trans e
  have rn : qz_im (zm Z ν) 2 0 0 0 = i3 0 := Eq.trans (zm_rd (k := 2) rfl rfl rfl) (congrArg i3 (f2 0 (by decide)))
  have c48 : i3 0 + (48 : Int32) = i3 48 := by decide
  by_cases hO : beO a1 a2
  · rw [if_pos hO]
    obtain ⟨o1, o2⟩ := hO
    have main : wz_call qf_291 [.inr (.inr (some (1, 0, 0))), .inl (i3 a1), .inl (i3 a2)] (zm Z ν) (fun μ2 o2 => ∃ Z1, μ2 = zm Z1 ν ∧ o2 = .inl (some (.inl (i3 (beA a2)))) ∧ Z1 1 0 0 2 = 0) := by
      refine fw_291 _ _ _ _ ?_
      rw [rn, c48]
      refine wz_i0 (by decide) ?_
      refine wz_i0 (Eq.trans (i3L (rfl : i3 a1 = i3 a1) (rfl : i3 0 = i3 0) (by omega) (by omega) (by omega) (by omega)) (decide_eq_false (by omega))) ?_
      refine wz_i0 (Eq.trans (i3L (rfl : i3 48 = i3 48) (rfl : i3 a1 = i3 a1) (by omega) (by omega) (by omega) (by omega)) (decide_eq_false (by omega))) ?_
      refine wz_i0 (Eq.trans (i3L (rfl : i3 a2 = i3 a2) c0 (by omega) (by omega) (by omega) (by omega)) (decide_eq_false (by omega))) ?_
      refine wz_i0 (Eq.trans (i3L c3 (rfl : i3 a2 = i3 a2) (by omega) (by omega) (by omega) (by omega)) (decide_eq_false (by omega))) ?_
      obtain ⟨Z2, hZ2⟩ := zx (zu Z 1 0 0 2 0)
      intro μ1 e1
      replace e1 := e1.trans (zm_wI (ν := ν) hZ2 rfl rfl rfl c0)
      subst e1
      have k2 : ∀ j, frz 2 0 j = 0 → Z2 2 0 0 j = 0 := fun j e => (zu_ne hZ2 (fun q => absurd q.1 (by decide))).trans (f2 j e)
      obtain ⟨Z3, q3, p5, p6, p2⟩ := be_467 (ν := ν) (⟨k2 102 (by decide), k2 1200 (by decide), k2 2000 (by decide)⟩ : beC Z2) (k2 0 (by decide)) o1
      refine wz_cV_of q3 ?_
      have t3 : Z3 1 0 0 2 = 0 := p2.trans (zu_at hZ2)
      refine wz_br (i3NE (rfl : i3 a2 = i3 a2) c0 (by omega) (by omega) (by omega) (by omega)) (fun q => ?_) (fun q => ?_)
      · refine wz_i0 (Eq.trans (i3Le (rfl : i3 a2 = i3 a2) (Eq.trans (zm_rd (Z := Z3) (ν := ν) (k := 1) rfl rfl rfl) (congrArg i3 p5)) (by omega) (by omega) (by omega) (by omega)) (decide_eq_false (by omega))) ⟨Z3, rfl, ?_, t3⟩
        unfold beA
        rw [if_neg q]
        rfl
      · refine ⟨Z3, rfl, zo _ _ (Eq.trans (zm_rd (Z := Z3) (ν := ν) (k := 1) rfl rfl rfl) (congrArg i3 (p6.trans ?_))), t3⟩
        unfold beA
        rw [if_pos (by omega)]
    obtain ⟨μ', o, e, Z1, rfl, rfl, hh⟩ := main
    exact ⟨Z1, _, _, rfl, e, hh⟩
  · rw [if_neg hO]
    obtain ⟨Z2, hZ2⟩ := zx (zu Z 1 0 0 2 1)
    refine ⟨Z2, _, _, rfl, wz_call_eq (fw_291 _ _ _ _ ?_), zu_at hZ2⟩
    have hn : wz_wr (qz_wI (zm Z ν) (1, 0, 0) 2 (1 : Int32)) (fun μ9 => μ9 = zm Z2 ν ∧ (.inl (some (.inl (0 : Int32))) : qz_Oc) = .inl (some (.inl (i3 0)))) := by
      intro μ9 e9
      exact ⟨e9.trans (zm_wI (Z := Z) (ν := ν) hZ2 rfl rfl rfl c1), rfl⟩
    rw [rn, c48]
    refine wz_i0 (by decide) ?_
    refine wz_br (i3L (rfl : i3 a1 = i3 a1) (rfl : i3 0 = i3 0) (by omega) (by omega) (by omega) (by omega)) (fun _ => hn) (fun h1 => ?_)
    refine wz_br (i3L (rfl : i3 48 = i3 48) (rfl : i3 a1 = i3 a1) (by omega) (by omega) (by omega) (by omega)) (fun _ => hn) (fun h2 => ?_)
    refine wz_br (i3L (rfl : i3 a2 = i3 a2) c0 (by omega) (by omega) (by omega) (by omega)) (fun _ => hn) (fun h3 => ?_)
    refine wz_i1 (Eq.trans (i3L c3 (rfl : i3 a2 = i3 a2) (by omega) (by omega) (by omega) (by omega)) (decide_eq_true ?_)) hn
    exact Int.not_le.mp (fun q => hO ⟨⟨by omega, by omega⟩, ⟨by omega, by omega⟩⟩)
theorem lc_16 {Z : qz_Z} {ν : qz_N} (h : zNew Z ν) {k : wz_K} {R : wz_R} (hk : ∀ Z3 ν3 v2 v4, zEnd ν3 → k 48 ([some (.inr (.inr (some (200, 0, 0)))), some (.inr (.inr (some (0, 0, 0)))), some (.inr (.inr (some (1, 0, 0)))), some (.inr (.inr (some (71, 0, 0)))), some (.inl (0 : Int32)), some (.inl v2), some (.inl v4), none], [], zm Z3 ν3)) : gx_16 k R (gx_L 0, [], zm Z ν) := by
  refine fk_16 0 (zm Z ν) k R ?_
  have st := zNew_S h
  refine wz_i1 (zS_t st) (wz_i0 (zS_o st (by decide)) ?_)
  refine wz_i1 (zS_t st) (wz_i0 (zS_o st (by decide)) ?_)
  have g1 := zI_f h.1 200 0 0 1
  have g2 := zI_f h.1 200 0 0 2
  obtain ⟨Z2, ν2, v, E, hP, hq, hE0, st2, hs2⟩ := wrap_2 (hs := [(13, 1)]) (fun R hR => fv_571 _ _ _ R hR) (sg_187 h g1 g2) (fun v E he => by
    unfold zg_187 at he
    split at he <;> cases he
    · exact .inl rfl
    · exact .inr ⟨(13, 1), by decide, rfl⟩) (by decide)
  refine wz_cI_of hq ?_
  refine wz_i1 (zS_t st2) (wz_i0 (zS_o st2 (by decide)) ?_)
  refine wz_i1 (zS_t st2) (wz_i0 (zS_o st2 (by decide)) ?_)
  obtain ⟨Z3, w, t, hP2, hq2, ht⟩ := sg_291 (ν := ν2) st2.2.1 (zI_f st2.1 200 0 0 1) (zI_f st2.1 200 0 0 2)
  refine wz_cI_of hq2 ?_
  rw [hs2 1, hs2 2] at hP2
  unfold zg_187 at hP
  unfold zg_291 at hP2
  have hend : zEnd ν2 := zD_end st2 zD_r (by decide) (by decide)
  by_cases hO : beO (Z 200 0 0 1) (Z 200 0 0 2)
  · rw [if_pos hO] at hP hP2
    cases hP
    cases hP2
    refine wz_i1 (decide_eq_true (show i3 (Z3 1 0 0 2) = i3 (tcL [(13, 1)] 0) by rw [ht]; rfl)) ?_
    refine wz_i0 (by decide) (wz_i1 (decide_eq_true ?_) (hk _ _ _ _ hend))
    have e1 : qz_lm (zm Z3 ν2) 71 0 0 0 = (i3 (beA (Z 200 0 0 2))).toInt64 := hE0 rfl
    rw [e1]
    exact lg_self _
  · rw [if_neg hO] at hP hP2
    cases hP
    cases hP2
    refine wz_i1 (decide_eq_true (show i3 (Z3 1 0 0 2) = i3 (tcL [(13, 1)] 13) by rw [ht]; rfl)) ?_
    exact wz_i1 (by decide) (hk _ _ _ _ hend)
