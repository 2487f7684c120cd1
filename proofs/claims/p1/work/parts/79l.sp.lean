/-! ISSOUND, by hand -/
theorem so_n (n : Nat) : Int32.ofNat n = i3 n := Int32.ofInt_eq_ofNat.symm
theorem so_119 {μ : qz_M} {r0 r1 : qz_R} {w m0 m1 : Nat} (t0 : qz_tag μ r0 = 50) (t1 : qz_tag μ r1 = 50) (l0 : qz_len μ r0 = m0) (l1 : qz_len μ r1 = m1) (h0 : w ≤ m0) (h1 : w ≤ m1) (hm : m0 ≤ 1000 ∧ m1 ≤ 1000) (he : ∀ j < w, qz_im μ r0.1 r0.2.1 r0.2.2 j = qz_im μ r1.1 r1.2.1 r1.2.2 j) : qf_119 [.inr (.inr (some r0)), .inr (.inr (some r1)), .inl (i3 (w : Int))] μ = some (μ, .inl (some (.inl (i3 1)))) := by
  refine wz_call_eq (fw_119 r0 r1 (i3 (w : Int)) μ _ ?_)
  refine wz_i1 (by rw [t0]; rfl) (wz_i0 ?_ (wz_i1 (by rw [t1]; rfl) (wz_i0 ?_ ?_)))
  · rw [l0, so_n]
    exact Eq.trans (i3L (rfl : i3 (m0 : Int) = i3 (m0 : Int)) (rfl : i3 (w : Int) = i3 (w : Int)) (by omega) (by omega) (by omega) (by omega)) (decide_eq_false (by omega))
  · rw [l1, so_n]
    exact Eq.trans (i3L (rfl : i3 (m1 : Int) = i3 (m1 : Int)) (rfl : i3 (w : Int) = i3 (w : Int)) (by omega) (by omega) (by omega) (by omega)) (decide_eq_false (by omega))
  refine wz_lp sb_119_1 (fun m x => ∃ n : Nat, n + m = w ∧ qz_fg [true, true, true, true, true] x.1 = [some (.inr (.inr (some r0))), some (.inr (.inr (some r1))), some (.inl (i3 (w : Int))), some (.inl (i3 1)), some (.inl (i3 (n : Int)))] ∧ x.2 = ([], μ)) ?_ 65536 w _ (by omega) ⟨0, by omega, rfl, rfl⟩
  rintro m ⟨L, st, μ2⟩ ⟨n, hnm, hL, hx⟩
  cases hx
  refine fb_119_1 _ _ _ _ _ _ _ _ _ hL ?_
  refine wz_br (i3Le (rfl : i3 (w : Int) = i3 (w : Int)) (rfl : i3 (n : Int) = i3 (n : Int)) (by omega) (by omega) (by omega) (by omega)) (fun q => wz_lk0 (wz_sk0 (fc_119_2 _ _ _ _ _ rfl (wz_i1 (by decide) ⟨rfl, rfl⟩)))) (fun q => ?_)
  have hn : (i3 (n : Int)).toNatClampNeg = n := by rw [i3_nat (by omega) (by omega)]; omega
  refine wz_i0 (by decide) (wz_i1 (by rw [t0]; rfl) (wz_i0 (by rw [l0]; exact i3O rfl (by omega) (by omega) (by omega)) (wz_i1 (by rw [t1]; rfl) (wz_i0 (by rw [l1]; exact i3O rfl (by omega) (by omega) (by omega)) ?_))))
  refine wz_i0 (by rw [hn, he n (by omega), decide_eq_true rfl]; rfl) (wz_k1 ⟨m - 1, by omega, n + 1, by omega, ?_, rfl⟩)
  show [_, _, _, _, some (Sum.inl (i3 (n : Int) + 1))] = _
  rw [show (1 : Int32) = i3 1 from rfl, i3_add]
  rfl
theorem so_120 {μ : qz_M} {r0 r1 : qz_R} {n w : Nat} (R0 R1 : Nat → qz_R) (t0 : qz_tag μ r0 = 53) (t1 : qz_tag μ r1 = 53) (l0 : qz_len μ r0 = n) (l1 : qz_len μ r1 = n) (hn : n ≤ 1000) (f0 : ∀ j, qz_rf μ r0 j = some (R0 j)) (f1 : ∀ j, qz_rf μ r1 j = some (R1 j)) (u0 : ∀ j, j < n → qz_tag μ (R0 j) = 50) (u1 : ∀ j, j < n → qz_tag μ (R1 j) = 50) (w0 : ∀ j, qz_len μ (R0 j) = w) (w1 : ∀ j, qz_len μ (R1 j) = w) (hw : w ≤ 1000) (he : ∀ i j, qz_im μ (R0 i).1 (R0 i).2.1 (R0 i).2.2 j = qz_im μ (R1 i).1 (R1 i).2.1 (R1 i).2.2 j) : qf_120 [.inr (.inr (some r0)), .inr (.inr (some r1))] μ = some (μ, .inl (some (.inl (i3 1)))) := by
  refine wz_call_eq (fw_120 r0 r1 μ _ ?_)
  refine wz_i1 (by rw [t0]; rfl) (wz_i1 (by rw [t1]; rfl) (wz_i0 (by rw [l0, l1, decide_eq_true rfl]; rfl) ?_))
  refine wz_lp sb_120_1 (fun m x => ∃ i : Nat, i + m = n ∧ qz_fg [true, true, true, true] x.1 = [some (.inr (.inr (some r0))), some (.inr (.inr (some r1))), some (.inl (i3 1)), some (.inl (i3 (i : Int)))] ∧ x.2 = ([], μ)) ?_ 65536 n _ (by omega) ⟨0, by omega, rfl, rfl⟩
  rintro m ⟨L, st, μ2⟩ ⟨i, him, hL, hx⟩
  cases hx
  refine fb_120_1 _ _ _ _ _ _ _ _ hL ?_
  refine wz_i1 (by rw [t0]; rfl) ?_
  rw [l0, l1, so_n]
  refine wz_br (i3Le (rfl : i3 (n : Int) = i3 (n : Int)) (rfl : i3 (i : Int) = i3 (i : Int)) (by omega) (by omega) (by omega) (by omega)) (fun q => wz_lk0 (wz_sk0 (fc_120_2 _ _ _ _ _ rfl (wz_i1 (by decide) ⟨rfl, rfl⟩)))) (fun q => ?_)
  have hi : (i3 (i : Int)).toNatClampNeg = i := by rw [i3_nat (by omega) (by omega)]; omega
  have o : pz_out (i3 (i : Int)) n = false := i3O rfl (by omega) (by omega) (by omega)
  refine wz_i0 (by decide) (wz_i1 (by rw [t0]; rfl) (wz_i0 o (wz_rko (by rw [hi]; exact f0 i) (wz_i1 (by rw [t1]; rfl) (wz_i0 o (wz_rko (by rw [hi]; exact f1 i) (wz_i1 (by rw [t0]; rfl) (wz_i0 o (wz_rko (by rw [hi]; exact f0 i) (wz_i1 (by rw [u0 i (by omega)]; rfl) ?_))))))))))
  rw [w0, so_n]
  refine wz_cI_of (so_119 (u0 i (by omega)) (u1 i (by omega)) (w0 i) (w1 i) (Nat.le_refl _) (Nat.le_refl _) ⟨hw, hw⟩ (fun j _ => he i j)) (wz_k1 ⟨m - 1, by omega, i + 1, by omega, ?_, rfl⟩)
  show [_, _, _, some (Sum.inl (i3 (i : Int) + 1))] = _
  rw [show (1 : Int32) = i3 1 from rfl, i3_add]
  rfl
/-- all that is not on the way is as at the start -/
def soF (Z : qz_Z) : Prop := ∀ k (b i j : Int), k ≠ 200 → k ≠ 69 → Z k b i j = frz k i j
theorem so_im {Z : qz_Z} {ν : qz_N} (h : soF Z) {k : Nat} (hk : k ≠ 200) (hk2 : k ≠ 69) (b b' i j : Nat) : qz_im (zm Z ν) k b i j = qz_im (zm Z ν) k b' i j := congrArg i3 ((h k b i j hk hk2).trans (h k b' i j hk hk2).symm)
theorem so_116 {Z : qz_Z} {ν : qz_N} (h : soF Z) : qf_116 [.inr (.inr (some (10, 12, 0))), .inr (.inr (some (10, 0, 0)))] (zm Z ν) = some (zm Z ν, .inl (some (.inl (i3 1)))) := by
  refine wz_call_eq (fw_116 12 0 _ _ ?_)
  refine wz_cI_of (so_119 (w := 15) (m0 := 17) (m1 := 17) rfl rfl rfl rfl (by decide) (by decide) (by decide) (fun j _ => so_im h (by decide) (by decide) 12 0 0 j)) (wz_i0 (by decide) ?_)
  refine wz_cI_of (so_119 (w := 28) (m0 := 28) (m1 := 28) rfl rfl rfl rfl (by decide) (by decide) (by decide) (fun j _ => so_im h (by decide) (by decide) 12 0 0 j)) (wz_i0 (by decide) ?_)
  refine wz_cI_of (so_119 (w := 4) (m0 := 4) (m1 := 4) rfl rfl rfl rfl (by decide) (by decide) (by decide) (fun j _ => so_im h (by decide) (by decide) 12 0 0 j)) (wz_i0 (by decide) ?_)
  refine wz_cI_of (so_119 (w := 10) (m0 := 10) (m1 := 10) rfl rfl rfl rfl (by decide) (by decide) (by decide) (fun j _ => so_im h (by decide) (by decide) 12 0 0 j)) (wz_i0 (by decide) ?_)
  refine wz_cI_of (so_120 (n := 6) (w := 6) (fun j => (40, 12, j)) (fun j => (40, 0, j)) rfl rfl rfl rfl (by decide) (fun _ => rfl) (fun _ => rfl) (fun _ _ => rfl) (fun _ _ => rfl) (fun _ => rfl) (fun _ => rfl) (by decide) (fun i j => so_im h (k := 40) (by decide) (by decide) 12 0 i j)) (wz_i0 (by decide) ?_)
  refine wz_cI_of (so_120 (n := 5) (w := 5) (fun j => (41, 12, j)) (fun j => (41, 0, j)) rfl rfl rfl rfl (by decide) (fun _ => rfl) (fun _ => rfl) (fun _ _ => rfl) (fun _ _ => rfl) (fun _ => rfl) (fun _ => rfl) (by decide) (fun i j => so_im h (k := 41) (by decide) (by decide) 12 0 i j)) (wz_i0 (by decide) ?_)
  refine wz_cI_of (so_120 (n := 6) (w := 7) (fun j => (42, 12, j)) (fun j => (42, 0, j)) rfl rfl rfl rfl (by decide) (fun _ => rfl) (fun _ => rfl) (fun _ _ => rfl) (fun _ _ => rfl) (fun _ => rfl) (fun _ => rfl) (by decide) (fun i j => so_im h (k := 42) (by decide) (by decide) 12 0 i j)) (wz_i0 (by decide) ?_)
  refine wz_cI_of (so_120 (n := 6) (w := 11) (fun j => (43, 12, j)) (fun j => (43, 0, j)) rfl rfl rfl rfl (by decide) (fun _ => rfl) (fun _ => rfl) (fun _ _ => rfl) (fun _ _ => rfl) (fun _ => rfl) (fun _ => rfl) (by decide) (fun i j => so_im h (k := 43) (by decide) (by decide) 12 0 i j)) (wz_i0 (by decide) ?_)
  refine wz_cI_of (so_120 (n := 48) (w := 16) (fun j => (44, 12, j)) (fun j => (44, 0, j)) rfl rfl rfl rfl (by decide) (fun _ => rfl) (fun _ => rfl) (fun _ _ => rfl) (fun _ _ => rfl) (fun _ => rfl) (fun _ => rfl) (by decide) (fun i j => so_im h (k := 44) (by decide) (by decide) 12 0 i j)) (wz_i0 (by decide) ?_)
  refine wz_cI_of (so_120 (n := 8) (w := 15) (fun j => (45, 12, j)) (fun j => (45, 0, j)) rfl rfl rfl rfl (by decide) (fun _ => rfl) (fun _ => rfl) (fun _ _ => rfl) (fun _ _ => rfl) (fun _ => rfl) (fun _ => rfl) (by decide) (fun i j => so_im h (k := 45) (by decide) (by decide) 12 0 i j)) (wz_i0 (by decide) ?_)
  refine wz_cI_of (so_120 (n := 24) (w := 10) (fun j => (46, 12, j)) (fun j => (46, 0, j)) rfl rfl rfl rfl (by decide) (fun _ => rfl) (fun _ => rfl) (fun _ _ => rfl) (fun _ _ => rfl) (fun _ => rfl) (fun _ => rfl) (by decide) (fun i j => so_im h (k := 46) (by decide) (by decide) 12 0 i j)) (wz_i0 (by decide) ?_)
  refine wz_cI_of (so_120 (n := 60) (w := 21) (fun j => (47, 12, j)) (fun j => (47, 0, j)) rfl rfl rfl rfl (by decide) (fun _ => rfl) (fun _ => rfl) (fun _ _ => rfl) (fun _ _ => rfl) (fun _ => rfl) (fun _ => rfl) (by decide) (fun i j => so_im h (k := 47) (by decide) (by decide) 12 0 i j)) (wz_i0 (by decide) ?_)
  refine wz_cI_of (so_120 (n := 2) (w := 12) (fun j => (48, 12, j)) (fun j => (48, 0, j)) rfl rfl rfl rfl (by decide) (fun _ => rfl) (fun _ => rfl) (fun _ _ => rfl) (fun _ _ => rfl) (fun _ => rfl) (fun _ => rfl) (by decide) (fun i j => so_im h (k := 48) (by decide) (by decide) 12 0 i j)) (wz_i0 (by decide) ?_)
  refine wz_cI_of (so_120 (n := 24) (w := 3) (fun j => (49, 12, j)) (fun j => (49, 0, j)) rfl rfl rfl rfl (by decide) (fun _ => rfl) (fun _ => rfl) (fun _ _ => rfl) (fun _ _ => rfl) (fun _ => rfl) (fun _ => rfl) (by decide) (fun i j => so_im h (k := 49) (by decide) (by decide) 12 0 i j)) (wz_i0 (by decide) ?_)
  refine wz_cI_of (so_120 (n := 4) (w := 22) (fun j => (50, 12, j)) (fun j => (50, 0, j)) rfl rfl rfl rfl (by decide) (fun _ => rfl) (fun _ => rfl) (fun _ _ => rfl) (fun _ _ => rfl) (fun _ => rfl) (fun _ => rfl) (by decide) (fun i j => so_im h (k := 50) (by decide) (by decide) 12 0 i j)) (wz_i0 (by decide) ?_)
  refine wz_cI_of (so_120 (n := 2) (w := 8) (fun j => (51, 12, j)) (fun j => (51, 0, j)) rfl rfl rfl rfl (by decide) (fun _ => rfl) (fun _ => rfl) (fun _ _ => rfl) (fun _ _ => rfl) (fun _ => rfl) (fun _ => rfl) (by decide) (fun i j => so_im h (k := 51) (by decide) (by decide) 12 0 i j)) (wz_i0 (by decide) ?_)
  refine wz_cI_of (so_120 (n := 24) (w := 6) (fun j => (52, 12, j)) (fun j => (52, 0, j)) rfl rfl rfl rfl (by decide) (fun _ => rfl) (fun _ => rfl) (fun _ _ => rfl) (fun _ _ => rfl) (fun _ => rfl) (fun _ => rfl) (by decide) (fun i j => so_im h (k := 52) (by decide) (by decide) 12 0 i j)) (wz_i0 (by decide) ?_)
  refine wz_cI_of (so_120 (n := 60) (w := 5) (fun j => (53, 12, j)) (fun j => (53, 0, j)) rfl rfl rfl rfl (by decide) (fun _ => rfl) (fun _ => rfl) (fun _ _ => rfl) (fun _ _ => rfl) (fun _ => rfl) (fun _ => rfl) (by decide) (fun i j => so_im h (k := 53) (by decide) (by decide) 12 0 i j)) (wz_i0 (by decide) ?_)
  refine wz_cI_of (so_120 (n := 12) (w := 8) (fun j => (54, 12, j)) (fun j => (54, 0, j)) rfl rfl rfl rfl (by decide) (fun _ => rfl) (fun _ => rfl) (fun _ _ => rfl) (fun _ _ => rfl) (fun _ => rfl) (fun _ => rfl) (by decide) (fun i j => so_im h (k := 54) (by decide) (by decide) 12 0 i j)) (wz_i0 (by decide) ?_)
  exact ⟨rfl, rfl⟩
/-- leadTo(): nothing was done -/
theorem so_84 {Z : qz_Z} {ν : qz_N} (hZ : zI none Z) (h : soF Z) : ∃ Z1, qf_84 [.inr (.inr (some (3, 0, 0))), .inr (.inr (some (10, 0, 0))), .inr (.inr (some (10, 12, 0)))] (zm Z ν) = some (zm Z1 ν, .inl (some (.inl (i3 1)))) ∧ zI none Z1 ∧ soF Z1 ∧ (∀ i j, Z1 200 0 i j = Z 200 0 i j) := by
  obtain ⟨Z1, e1, hq, I1, K1, B1⟩ := sp_cp (ν := ν) hZ 1 12 (by decide)
  have F1 : soF Z1 := fun k b i j hk hk2 => by
    rw [e1]
    show (if b = 12 ∧ zhk k i j = true then Z k 1 i j else Z k b i j) = _
    split
    · exact h k 1 i j hk hk2
    · exact h k b i j hk hk2
  refine ⟨Z1, wz_call_eq (fw_84 0 12 _ _ ?_), I1, F1, fun i j => B1 200 0 i j (by decide)⟩
  have e16 : qz_im (zm Z ν) 11 0 0 16 = i3 (-1) := Eq.trans (zm_rd (k := 11) rfl rfl rfl) (congrArg i3 ((h 11 0 0 16 (by decide) (by decide)).trans (by decide)))
  rw [e16]
  refine wz_l0 sb_84_1 (fb_84_1 0 12 (i3 0) (i3 (-1)) _ _ _ _ rfl ?_)
  refine wz_i1 (by decide) (wz_lk0 (wz_sk0 (fc_84_4 0 12 (i3 0) _ _ _ _ rfl ?_)))
  refine wz_cV_of hq ?_
  refine wz_l0 sb_84_2 (fb_84_2 0 12 (i3 (-1)) _ _ _ _ rfl ?_)
  refine wz_i1 (by decide) (wz_lk0 (wz_sk0 (fc_84_3 0 12 _ _ _ _ rfl ?_)))
  exact wz_cI_of (so_116 F1) (wz_i1 (by decide) ⟨rfl, rfl⟩)
theorem so_61 {Z : qz_Z} {ν : qz_N} (hZ : zI none Z) (h : soF Z) : ∃ Z1, qf_61 [.inr (.inr (some (10, 0, 0))), .inr (.inr (some (10, 12, 0))), .inr (.inr (some (69, 0, 0)))] (zm Z ν) = some (zm Z1 (nal ν 50 1 20 1 20), .inl (some (.inl (i3 1)))) ∧ zI none Z1 ∧ zJ [69] ν.2.2.2.1 Z Z1 := by
  have f : ∀ j, frz 11 0 j = 0 → Z 11 0 0 j = 0 := fun j e => (h 11 0 0 j (by decide) (by decide)).trans e
  obtain ⟨Z1, hq, I1, J1⟩ := ma_21 (ν := ν) hZ (f 3 (by decide)) (f 5 (by decide))
  refine ⟨Z1, wz_call_eq (fw_61 0 12 _ _ ?_), I1, J1⟩
  have r : ∀ j : Nat, frz 11 0 j = 0 → qz_im (zm Z ν) 11 0 0 j = i3 0 := fun j e => Eq.trans (zm_rd (k := 11) rfl rfl rfl) (congrArg i3 (f j e))
  refine wz_l0 sb_61_1 (fb_61_1 0 12 (i3 1) (i3 0) _ _ _ _ rfl ?_)
  refine wz_i1 (by rw [r 3 (by decide)]; decide) (wz_lk0 (wz_sk0 (fc_61_6 0 12 (i3 1) _ _ _ _ rfl ?_)))
  refine wz_l0 sb_61_2 (fb_61_2 0 12 (i3 1) (i3 0) (i3 0) _ _ _ _ rfl ?_)
  refine wz_i1 (by rw [r 6 (by decide)]; decide) (wz_lk0 (wz_sk0 (fc_61_5 0 12 (i3 1) (i3 0) _ _ _ _ rfl ?_)))
  refine wz_cI_of hq ?_
  refine wz_l0 sb_61_3 (fb_61_3 0 12 (i3 1) (i3 0) (i3 0) (i3 0) _ _ _ _ rfl ?_)
  have r7 : qz_im (zm Z1 (nal ν 50 1 20 1 20)) 11 0 0 7 = i3 0 := Eq.trans (zm_rd (k := 11) rfl rfl rfl) (congrArg i3 ((J1 11 0 0 7 (by decide) (fun q => absurd q.1 (by decide))).trans (f 7 (by decide))))
  refine wz_i1 (by rw [r7]; decide) (wz_lk0 (wz_sk0 (fc_61_4 (i3 1) (i3 0) _ _ _ _ rfl ?_)))
  exact wz_i0 (by decide) (wz_i0 (by decide) ⟨rfl, rfl⟩)
def zg_212 (a1 : Int) : Int × Int := if 0 ≤ a1 ∧ a1 ≤ 8 then (1, 0) else (0, 13)
theorem sg_212 {Z : qz_Z} {ν : qz_N} (h : zNew Z ν) (hR : zRf Z ν) {a1 : Int} (g1 : -2147483648 ≤ a1 ∧ a1 ≤ 2147483647) : ∃ (Z1 : qz_Z) (ν1 : qz_N) (v E : Int), (v, E) = zg_212 a1 ∧ qf_212 [.inr (.inr (some (0, 0, 0))), .inl (i3 a1)] (zm Z ν) = some (zm Z1 ν1, zoX v E) ∧ (zSt Z1 ν1 ∧ ∀ j, Z1 200 0 0 j = Z 200 0 0 j) := by
  unfold zg_212
  by_cases hO : 0 ≤ a1 ∧ a1 ≤ 8
  · rw [if_pos hO]
    have main : wz_call qf_212 [.inr (.inr (some (0, 0, 0))), .inl (i3 a1)] (zm Z ν) (fun μ2 o2 => ∃ Z1 ν1, μ2 = zm Z1 ν1 ∧ o2 = .inl (some (.inl (i3 1))) ∧ zI none Z1 ∧ soF Z1 ∧ (∀ j, Z1 200 0 0 j = Z 200 0 0 j) ∧ zG 9 180 ν ν1) := by
      refine fw_212 _ _ _ ?_
      refine wz_inR_y (rfl : i3 a1 = i3 a1) (show (0 : Int32) = i3 0 from rfl) (show (8 : Int32) = i3 8 from rfl) (by omega) (by omega) (by omega) (by omega) (by omega) (by omega) hO ?_
      refine wz_lp sb_212_1 (fun m x => ∃ (Z' : qz_Z) (ν' : qz_N) (n : Nat), 1 ≤ n ∧ n + m = 9 ∧ qz_fg [true, true, true, true] x.1 = [some (.inr (.inr (some (0, 0, 0)))), some (.inl (i3 a1)), some (.inl (i3 1)), some (.inl (i3 (n : Int)))] ∧ x.2 = ([], zm Z' ν') ∧ zI none Z' ∧ soF Z' ∧ (∀ j, Z' 200 0 0 j = Z 200 0 0 j) ∧ zG n (20 * n) ν ν') ?_ 65536 8 _ (by omega) ⟨Z, ν, 1, by omega, by omega, rfl, rfl, h.1, fun k b i j hk _ => hR.1 k b i j hk, fun _ => rfl, zG_w zG_r (by omega) (by omega)⟩
      rintro m ⟨L, st, μ⟩ ⟨Z', ν', n, hn1, hnm, hL, hx, I', F', S', G'⟩
      cases hx
      refine fb_212_1 _ _ _ _ _ _ _ hL ?_
      refine wz_br (i3L (show (8 : Int32) = i3 8 from rfl) (rfl : i3 (n : Int) = i3 (n : Int)) (by omega) (by omega) (by omega) (by omega)) (fun q => wz_lk0 (wz_sk0 (fc_212_2 _ _ _ _ _ rfl (wz_i1 (by decide) ⟨Z', ν', rfl, rfl, I', F', S', zG_w G' (by omega) (by omega)⟩)))) (fun q => wz_i0 (by decide) ?_)
      -- the next turn
      have nx : ∀ Z2 ν2, zI none Z2 → soF Z2 → (∀ j, Z2 200 0 0 j = Z 200 0 0 j) → zG (n + 1) (20 * (n + 1)) ν ν2 → ∃ m', m' < m ∧ ∃ (Z3 : qz_Z) (ν3 : qz_N) (n3 : Nat), 1 ≤ n3 ∧ n3 + m' = 9 ∧ qz_fg [true, true, true, true] [some (.inr (.inr (some (0, 0, 0)))), some (.inl (i3 a1)), some (.inl (i3 1)), some (.inl (i3 (n : Int) + (1 : Int32)))] = [some (.inr (.inr (some (0, 0, 0)))), some (.inl (i3 a1)), some (.inl (i3 1)), some (.inl (i3 (n3 : Int)))] ∧ (([], zm Z2 ν2) : List qz_V × qz_M) = ([], zm Z3 ν3) ∧ zI none Z3 ∧ soF Z3 ∧ (∀ j, Z3 200 0 0 j = Z 200 0 0 j) ∧ zG n3 (20 * n3) ν ν3 := by
        intro Z2 ν2 i2 f2 s2 g2
        refine ⟨m - 1, by omega, Z2, ν2, n + 1, by omega, by omega, ?_, rfl, i2, f2, s2, g2⟩
        show [_, _, _, some (Sum.inl (i3 (n : Int) + 1))] = _
        rw [show (1 : Int32) = i3 1 from rfl, i3_add]
        rfl
      have g0 : zG (n + 1) (20 * (n + 1)) ν ν' := zG_w G' (by omega) (by omega)
      have zf : zF Z' := fun k i j hk => F' k 0 i j (fun e => by subst e; cases hk) (fun e => by subst e; cases hk)
      have hn : n ≤ 8 := by omega
      clear q hL hnm
      have sw : ∀ (k : wz_K), (∀ x, (∃ m', m' < m ∧ ∃ (Z3 : qz_Z) (ν3 : qz_N) (n3 : Nat), 1 ≤ n3 ∧ n3 + m' = 9 ∧ qz_fg [true, true, true, true] x.1 = [some (.inr (.inr (some (0, 0, 0)))), some (.inl (i3 a1)), some (.inl (i3 1)), some (.inl (i3 (n3 : Int)))] ∧ x.2 = ([], zm Z3 ν3) ∧ zI none Z3 ∧ soF Z3 ∧ (∀ j, Z3 200 0 0 j = Z 200 0 0 j) ∧ zG n3 (20 * n3) ν ν3) → k 1 x) →
          (bif decide ((i3 (n : Int)).toInt < (1 : Int)) || decide ((7 : Int) < (i3 (n : Int)).toInt) then (wz_cI qf_96 [.inr (.inr (some (10, 0, 0)))] (zm Z' ν') (fun μ1 v2 => (bif decide (v2 = 0) then (k 1 ([some (.inr (.inr (some (0, 0, 0)))), some (.inl (i3 a1)), some (.inl (0 : Int32)), some (.inl ((i3 (n : Int)) + (1 : Int32)))], [], μ1)) else (wz_cI qf_84 [.inr (.inr (some (3, 0, 0))), .inr (.inr (some (10, 0, 0))), .inr (.inr (some (10, (12 + 0), 0)))] μ1 (fun μ3 v4 => (bif decide (v4 = 0) then (k 1 ([some (.inr (.inr (some (0, 0, 0)))), some (.inl (i3 a1)), some (.inl (0 : Int32)), some (.inl ((i3 (n : Int)) + (1 : Int32)))], [], μ3)) else (k 1 ([some (.inr (.inr (some (0, 0, 0)))), some (.inl (i3 a1)), some (.inl (1 : Int32)), some (.inl ((i3 (n : Int)) + (1 : Int32)))], [], μ3)))) (fun μ3 e => ((fun (μ2 : qz_M) (o2 : qz_Oc) => ∃ (Z1 : qz_Z) (ν1 : qz_N), μ2 = zm Z1 ν1 ∧ o2 = .inl (some (.inl (i3 1))) ∧ zI none Z1 ∧ soF Z1 ∧ (∀ j, Z1 200 0 0 j = Z 200 0 0 j) ∧ zG 9 180 ν ν1) μ3 (.inr e)))))) (fun μ1 e => ((fun (μ2 : qz_M) (o2 : qz_Oc) => ∃ (Z1 : qz_Z) (ν1 : qz_N), μ2 = zm Z1 ν1 ∧ o2 = .inl (some (.inl (i3 1))) ∧ zI none Z1 ∧ soF Z1 ∧ (∀ j, Z1 200 0 0 j = Z 200 0 0 j) ∧ zG 9 180 ν ν1) μ1 (.inr e)))) else (bif decide ((i3 (n : Int)).toInt = (1 : Int)) then (wz_cI qf_90 [.inr (.inr (some (10, 0, 0)))] (zm Z' ν') (fun μ17 v18 => (k 1 ([some (.inr (.inr (some (0, 0, 0)))), some (.inl (i3 a1)), some (.inl v18), some (.inl ((i3 (n : Int)) + (1 : Int32)))], [], μ17))) (fun μ17 e => ((fun (μ2 : qz_M) (o2 : qz_Oc) => ∃ (Z1 : qz_Z) (ν1 : qz_N), μ2 = zm Z1 ν1 ∧ o2 = .inl (some (.inl (i3 1))) ∧ zI none Z1 ∧ soF Z1 ∧ (∀ j, Z1 200 0 0 j = Z 200 0 0 j) ∧ zG 9 180 ν ν1) μ17 (.inr e)))) else (bif decide ((i3 (n : Int)).toInt = (2 : Int)) then (wz_cI qf_161 [.inr (.inr (some (10, 0, 0)))] (zm Z' ν') (fun μ15 v16 => (k 1 ([some (.inr (.inr (some (0, 0, 0)))), some (.inl (i3 a1)), some (.inl v16), some (.inl ((i3 (n : Int)) + (1 : Int32)))], [], μ15))) (fun μ15 e => ((fun (μ2 : qz_M) (o2 : qz_Oc) => ∃ (Z1 : qz_Z) (ν1 : qz_N), μ2 = zm Z1 ν1 ∧ o2 = .inl (some (.inl (i3 1))) ∧ zI none Z1 ∧ soF Z1 ∧ (∀ j, Z1 200 0 0 j = Z 200 0 0 j) ∧ zG 9 180 ν ν1) μ15 (.inr e)))) else (bif decide ((i3 (n : Int)).toInt = (3 : Int)) then (wz_cI qf_13 [.inr (.inr (some (10, 0, 0)))] (zm Z' ν') (fun μ13 v14 => (k 1 ([some (.inr (.inr (some (0, 0, 0)))), some (.inl (i3 a1)), some (.inl v14), some (.inl ((i3 (n : Int)) + (1 : Int32)))], [], μ13))) (fun μ13 e => ((fun (μ2 : qz_M) (o2 : qz_Oc) => ∃ (Z1 : qz_Z) (ν1 : qz_N), μ2 = zm Z1 ν1 ∧ o2 = .inl (some (.inl (i3 1))) ∧ zI none Z1 ∧ soF Z1 ∧ (∀ j, Z1 200 0 0 j = Z 200 0 0 j) ∧ zG 9 180 ν ν1) μ13 (.inr e)))) else (bif decide ((i3 (n : Int)).toInt = (4 : Int)) then (wz_cI qf_61 [.inr (.inr (some (10, 0, 0))), .inr (.inr (some (10, (12 + 0), 0))), .inr (.inr (some (69, 0, 0)))] (zm Z' ν') (fun μ11 v12 => (k 1 ([some (.inr (.inr (some (0, 0, 0)))), some (.inl (i3 a1)), some (.inl v12), some (.inl ((i3 (n : Int)) + (1 : Int32)))], [], μ11))) (fun μ11 e => ((fun (μ2 : qz_M) (o2 : qz_Oc) => ∃ (Z1 : qz_Z) (ν1 : qz_N), μ2 = zm Z1 ν1 ∧ o2 = .inl (some (.inl (i3 1))) ∧ zI none Z1 ∧ soF Z1 ∧ (∀ j, Z1 200 0 0 j = Z 200 0 0 j) ∧ zG 9 180 ν ν1) μ11 (.inr e)))) else (bif decide ((i3 (n : Int)).toInt = (5 : Int)) then (wz_cI qf_38 [.inr (.inr (some (10, 0, 0)))] (zm Z' ν') (fun μ9 v10 => (k 1 ([some (.inr (.inr (some (0, 0, 0)))), some (.inl (i3 a1)), some (.inl v10), some (.inl ((i3 (n : Int)) + (1 : Int32)))], [], μ9))) (fun μ9 e => ((fun (μ2 : qz_M) (o2 : qz_Oc) => ∃ (Z1 : qz_Z) (ν1 : qz_N), μ2 = zm Z1 ν1 ∧ o2 = .inl (some (.inl (i3 1))) ∧ zI none Z1 ∧ soF Z1 ∧ (∀ j, Z1 200 0 0 j = Z 200 0 0 j) ∧ zG 9 180 ν ν1) μ9 (.inr e)))) else (bif decide ((i3 (n : Int)).toInt = (6 : Int)) then (wz_cI qf_128 [.inr (.inr (some (10, 0, 0)))] (zm Z' ν') (fun μ7 v8 => (k 1 ([some (.inr (.inr (some (0, 0, 0)))), some (.inl (i3 a1)), some (.inl v8), some (.inl ((i3 (n : Int)) + (1 : Int32)))], [], μ7))) (fun μ7 e => ((fun (μ2 : qz_M) (o2 : qz_Oc) => ∃ (Z1 : qz_Z) (ν1 : qz_N), μ2 = zm Z1 ν1 ∧ o2 = .inl (some (.inl (i3 1))) ∧ zI none Z1 ∧ soF Z1 ∧ (∀ j, Z1 200 0 0 j = Z 200 0 0 j) ∧ zG 9 180 ν ν1) μ7 (.inr e)))) else (bif decide ((i3 (n : Int)).toInt = (7 : Int)) then (wz_cI qf_1 [.inr (.inr (some (10, 0, 0)))] (zm Z' ν') (fun μ5 v6 => (k 1 ([some (.inr (.inr (some (0, 0, 0)))), some (.inl (i3 a1)), some (.inl v6), some (.inl ((i3 (n : Int)) + (1 : Int32)))], [], μ5))) (fun μ5 e => ((fun (μ2 : qz_M) (o2 : qz_Oc) => ∃ (Z1 : qz_Z) (ν1 : qz_N), μ2 = zm Z1 ν1 ∧ o2 = .inl (some (.inl (i3 1))) ∧ zI none Z1 ∧ soF Z1 ∧ (∀ j, Z1 200 0 0 j = Z 200 0 0 j) ∧ zG 9 180 ν ν1) μ5 (.inr e)))) else (wz_cI qf_96 [.inr (.inr (some (10, 0, 0)))] (zm Z' ν') (fun μ1 v2 => (bif decide (v2 = 0) then (k 1 ([some (.inr (.inr (some (0, 0, 0)))), some (.inl (i3 a1)), some (.inl (0 : Int32)), some (.inl ((i3 (n : Int)) + (1 : Int32)))], [], μ1)) else (wz_cI qf_84 [.inr (.inr (some (3, 0, 0))), .inr (.inr (some (10, 0, 0))), .inr (.inr (some (10, (12 + 0), 0)))] μ1 (fun μ3 v4 => (bif decide (v4 = 0) then (k 1 ([some (.inr (.inr (some (0, 0, 0)))), some (.inl (i3 a1)), some (.inl (0 : Int32)), some (.inl ((i3 (n : Int)) + (1 : Int32)))], [], μ3)) else (k 1 ([some (.inr (.inr (some (0, 0, 0)))), some (.inl (i3 a1)), some (.inl (1 : Int32)), some (.inl ((i3 (n : Int)) + (1 : Int32)))], [], μ3)))) (fun μ3 e => ((fun (μ2 : qz_M) (o2 : qz_Oc) => ∃ (Z1 : qz_Z) (ν1 : qz_N), μ2 = zm Z1 ν1 ∧ o2 = .inl (some (.inl (i3 1))) ∧ zI none Z1 ∧ soF Z1 ∧ (∀ j, Z1 200 0 0 j = Z 200 0 0 j) ∧ zG 9 180 ν ν1) μ3 (.inr e)))))) (fun μ1 e => ((fun (μ2 : qz_M) (o2 : qz_Oc) => ∃ (Z1 : qz_Z) (ν1 : qz_N), μ2 = zm Z1 ν1 ∧ o2 = .inl (some (.inl (i3 1))) ∧ zI none Z1 ∧ soF Z1 ∧ (∀ j, Z1 200 0 0 j = Z 200 0 0 j) ∧ zG 9 180 ν ν1) μ1 (.inr e)))))))))))) := by
        intro k hk
        rcases (show n = 1 ∨ n = 2 ∨ n = 3 ∨ n = 4 ∨ n = 5 ∨ n = 6 ∨ n = 7 ∨ n = 8 by omega) with rfl | rfl | rfl | rfl | rfl | rfl | rfl | rfl
        · exact wz_i0 (by decide) (wz_i1 (by decide) (wz_cI_of (so_90 I' zf) (hk _ (nx _ _ I' F' S' g0))))
        · exact wz_i0 (by decide) (wz_i0 (by decide) (wz_i1 (by decide) (wz_cI_of (so_161 I' zf) (hk _ (nx _ _ I' F' S' g0)))))
        · exact wz_i0 (by decide) (wz_i0 (by decide) (wz_i0 (by decide) (wz_i1 (by decide) (wz_cI_of (so_13 I' zf) (hk _ (nx _ _ I' F' S' g0))))))
        · obtain ⟨Z2, hq, I2, J2⟩ := so_61 (ν := ν') I' F'
          refine wz_i0 (by decide) (wz_i0 (by decide) (wz_i0 (by decide) (wz_i0 (by decide) (wz_i1 (by decide) (wz_cI_of hq (hk _ (nx _ _ I2 (fun k b i j a b' => (J2 k b i j ?_ (fun q => a q.1)).trans (F' k b i j a b')) (fun j => (J2 200 0 0 j (by decide) (fun q => ?_)).trans (S' j)) (zG_w (zG_al G') (by omega) (by omega)))))))))
          · cases hc : [69].contains k
            · rfl
            · exact absurd (List.mem_singleton.mp (List.contains_iff_mem.mp hc)) b'
          · have := q.2
            have := G'.2.2.2.1
            have := h.2.2.1.2
            omega
        · exact wz_i0 (by decide) (wz_i0 (by decide) (wz_i0 (by decide) (wz_i0 (by decide) (wz_i0 (by decide) (wz_i1 (by decide) (wz_cI_of (so_38 I' zf) (hk _ (nx _ _ I' F' S' g0))))))))
        · exact wz_i0 (by decide) (wz_i0 (by decide) (wz_i0 (by decide) (wz_i0 (by decide) (wz_i0 (by decide) (wz_i0 (by decide) (wz_i1 (by decide) (wz_cI_of (so_128 I' zf) (hk _ (nx _ _ I' F' S' g0)))))))))
        · exact wz_i0 (by decide) (wz_i0 (by decide) (wz_i0 (by decide) (wz_i0 (by decide) (wz_i0 (by decide) (wz_i0 (by decide) (wz_i0 (by decide) (wz_i1 (by decide) (wz_cI_of (so_1 I' zf) (hk _ (nx _ _ I' F' S' g0))))))))))
        · obtain ⟨Z2, hq, I2, F2, S2⟩ := so_84 (ν := ν') I' F'
          exact wz_i1 (by decide) (wz_cI_of (so_96 I' zf) (wz_i0 (by decide) (wz_cI_of hq (wz_i0 (by decide) (hk _ (nx _ _ I2 F2 (fun j => (S2 0 j).trans (S' j)) g0))))))
      refine wz_br (i3E (rfl : i3 a1 = i3 a1) (show (0 : Int32) = i3 0 from rfl) (by omega) (by omega) (by omega) (by omega)) (fun q => sw _ (fun x hx => wz_k1 hx)) (fun q => ?_)
      refine wz_br (i3E (rfl : i3 a1 = i3 a1) (rfl : i3 (n : Int) = i3 (n : Int)) (by omega) (by omega) (by omega) (by omega)) (fun q2 => sw _ (fun x hx => wz_k1 hx)) (fun q2 => wz_k1 (nx _ _ I' F' S' g0))
    obtain ⟨μ', o, e, Z1, ν1, rfl, rfl, I1, F1, S1, G1⟩ := main
    have st := zNew_S h
    obtain ⟨n1, n2, n3, n4, n5, n6⟩ := G1
    have h1 := h.2.2.1.2
    have h5 := h.2.2.2.2.1
    have h6 := h.2.2.2.2.2
    refine ⟨Z1, ν1, _, _, rfl, e, ⟨I1, fun k i j hk => F1 k 0 i j (fun e => by subst e; cases hk) (fun e => by subst e; cases hk), ⟨(n3 0 (by omega)).trans h.2.2.1.1, by omega⟩, (n2 1 0 0 36 (by decide)).trans h.2.2.2.1, by omega, by omega⟩, S1⟩
  · rw [if_neg hO]
    have hS := zSt_to (WS := []) (ν1 := nkk ν 1 6) h.2.2.1 h.2.2.2.1 ⟨by have := h.2.2.2.2.1; omega, by have := h.2.2.2.2.2; omega⟩ (zF_m h.2.1) h.1 zK_r (zN_k rfl) (by decide)
    refine ⟨Z, nkk ν 1 6, _, _, rfl, wz_call_eq (fw_212 _ _ _ ?_), hS⟩
    exact wz_inR_n (rfl : i3 a1 = i3 a1) (show (0 : Int32) = i3 0 from rfl) (show (8 : Int32) = i3 8 from rfl) (by omega) (by omega) (by omega) (by omega) (by omega) (by omega) hO ⟨rfl, rfl⟩
