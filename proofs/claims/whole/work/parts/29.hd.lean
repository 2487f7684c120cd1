/-! by hand: what answers a row -/
def zl_66_1 (x0b : Int) (x1 : Int) (x2 : Int) : Nat → qz_Z → Int → Int → Int × Int
  | 0, Z, x3, x4 => (x3, x4)
  | m + 1, Z, x3, x4 => (if (Z 48 x0b x1 5) ≤ x4 then (x3, x4) else (if (Z 49 x0b (12 * x1 + x4) 0) ≠ x2 then zl_66_1 x0b x1 x2 m Z x3 (x4 + 1) else zl_66_1 x0b x1 x2 m Z (12 * x1 + x4) (x4 + 1)))
def zf_66 (Z : qz_Z) (a0b : Int) (a1 : Int) (a2 : Int) : Int := (zlet2 (zl_66_1 a0b a1 a2 13 Z (12 * a1) 0) (fun y1 y2 => y1))
theorem sp_66 {s : zSM} {Z : qz_Z} {ν : qz_N} (hZ : zH s Z) (a0b : Nat) {a1 : Int} (ga1 : 0 ≤ a1 ∧ a1 ≤ 1) {a2 : Int} (ga2 : 0 ≤ a2 ∧ a2 ≤ 47) (gx0 : 1 ≤ Z 48 a0b a1 5) (hLta0b : zLt a0b Z) (hM : s.2 + 0 ≤ 1000000000) : ∃ (n : Nat) (P : Int), P = zf_66 Z a0b a1 a2 ∧ (n : Int) = P ∧ (qf_66 [.inr (.inr (some (10, a0b, 0))), .inl (i3 a1), .inl (i3 a2)] (zm Z ν) = some (zm Z ν, .inl (some (.inr (.inr (some (49, a0b, n)))))) ∧ 0 ≤ P ∧ P ≤ 23 ∧ 1 ≤ Z 49 a0b P 2 ∧ Z 49 a0b P 2 ≤ Z 49 a0b P 1) := by
  obtain ⟨P, hP⟩ := zx (zf_66 Z a0b a1 a2)
  have h0 := zLt_0 hLta0b (c := a1) ga1 gx0
  have key : wz_call qf_66 [.inr (.inr (some (10, a0b, 0))), .inl (i3 a1), .inl (i3 a2)] (zm Z ν) (fun μ2 o2 => ∃ n : Nat, (n : Int) = P ∧ (μ2 = zm Z ν ∧ o2 = .inl (some (.inr (.inr (some (49, a0b, n)))))) ∧ 0 ≤ P ∧ P ≤ 23 ∧ 1 ≤ Z 49 a0b P 2 ∧ Z 49 a0b P 2 ≤ Z 49 a0b P 1) := by
    refine fw_66 a0b (i3 a1) (i3 a2) _ _ ?_
    have hP0 : zE P (zl_66_1 a0b a1 a2 13 Z (a1 * 12) 0).1 := by
      rw [show a1 * 12 = 12 * a1 by omega]
      exact hP
    refine wz_lp sb_66_1 (fun m x => ∃ x3 x4 : Int, qz_fg [true, true, true, true, true] x.1 = [some (.inr (.inr (some (10, a0b, 0)))), some (.inl (i3 a1)), some (.inl (i3 a2)), some (.inl (i3 x3)), some (.inl (i3 x4))] ∧ x.2 = ([], zm Z ν) ∧ (0 ≤ x3 ∧ x3 ≤ 23 ∧ 1 ≤ Z 49 a0b x3 2 ∧ Z 49 a0b x3 2 ≤ Z 49 a0b x3 1) ∧ 0 ≤ x4 ∧ x4 ≤ 12 ∧ m = (12 - x4).toNat ∧ zE P (zl_66_1 a0b a1 a2 (m + 1) Z x3 x4).1) ?_ 65536 12 _ (by omega) ⟨a1 * 12, 0, (zconso rfl (zconso (zvo (rfl : i3 a1 = i3 a1)) (zconso (zvo (rfl : i3 a2 = i3 a2)) (zconso (zvo (i3M (rfl : i3 a1 = i3 a1) (show (12 : Int32) = i3 12 from rfl))) (zconso (zvo (show (0 : Int32) = i3 0 from rfl)) rfl))))), rfl, ⟨by omega, by omega, by rw [show a1 * 12 = 12 * a1 by omega]; exact h0⟩, by omega, by omega, by omega, hP0⟩
    clear hP hP0
    rintro m ⟨L, st, μ⟩ ⟨x3, x4, hL, hx, hw, h4, h5, hm, hP⟩
    cases hx
    refine fb_66_1 a0b (i3 a1) (i3 a2) (i3 x3) (i3 x4) _ _ _ _ hL ?_
    refine wz_i0 (i3O (n := 2) (rfl : i3 a1 = i3 a1) (by omega) (by omega) (by omega)) ?_
    have r1 := zH_k hZ 48 a0b a1 5 (lo := 0) (hi := 12) (by decide) rfl
    refine wz_br (i3Le (zm_rd (Z := Z) (ν := ν) (k := 48) (rfl : ((a0b : Nat) : Int) = a0b) (i3I (y := a1) (rfl : i3 a1 = i3 a1) (by omega) (by omega) (by omega)) (show ((5 : Nat) : Int) = 5 from rfl)) (rfl : i3 x4 = i3 x4) (by omega) (by omega) (by omega) (by omega)) (fun q => ?_) (fun q => ?_)
    · have e : zl_66_1 a0b a1 a2 (m + 1) Z x3 x4 = (x3, x4) := if_pos q
      have hP1 : P = x3 := by rw [e] at hP; exact hP
      subst hP1
      refine fc_66_2 a0b (i3 P) _ _ _ _ (zconso rfl (zconso rfl (zconso rfl (zconso (zvo (rfl : i3 P = i3 P)) (zconso rfl rfl))))) ?_
      refine wz_i0 (i3O (n := 24) (rfl : i3 P = i3 P) (by omega) (by omega) (by omega)) ?_
      exact ⟨(i3 P).toNatClampNeg, i3I (y := P) (rfl : i3 P = i3 P) rfl (by omega) (by omega), ⟨rfl, rfl⟩, hw⟩
    · refine wz_i0 (i3O (n := 24) (i3A (i3M (rfl : i3 a1 = i3 a1) (show (12 : Int32) = i3 12 from rfl)) (rfl : i3 x4 = i3 x4)) (by omega) (by omega) (by omega)) ?_
      have r2 := zH_k hZ 49 a0b (12 * a1 + x4) 0 (lo := 0) (hi := 47) (by decide) rfl
      obtain ⟨m2, rfl⟩ : ∃ m2, m = m2 + 1 := ⟨m - 1, by omega⟩
      refine wz_br (i3NE (zm_rd (Z := Z) (ν := ν) (k := 49) (rfl : ((a0b : Nat) : Int) = a0b) (i3I (y := 12 * a1 + x4) (i3A (i3M (rfl : i3 a1 = i3 a1) (show (12 : Int32) = i3 12 from rfl)) (rfl : i3 x4 = i3 x4)) (by omega) (by omega) (by omega)) (show ((0 : Nat) : Int) = 0 from rfl)) (rfl : i3 a2 = i3 a2) (by omega) (by omega) (by omega) (by omega)) (fun g => ?_) (fun g => ?_)
      · have e : zl_66_1 a0b a1 a2 (m2 + 1 + 1) Z x3 x4 = zl_66_1 a0b a1 a2 (m2 + 1) Z x3 (x4 + 1) := (if_neg q).trans (if_pos g)
        rw [e] at hP
        exact wz_k1 ⟨m2, by omega, x3, x4 + 1, (zconso rfl (zconso (zvo (rfl : i3 a1 = i3 a1)) (zconso (zvo (rfl : i3 a2 = i3 a2)) (zconso (zvo (rfl : i3 x3 = i3 x3)) (zconso (zvo (i3A (rfl : i3 x4 = i3 x4) (show (1 : Int32) = i3 1 from rfl))) rfl))))), rfl, hw, by omega, by omega, by omega, hP⟩
      · have e : zl_66_1 a0b a1 a2 (m2 + 1 + 1) Z x3 x4 = zl_66_1 a0b a1 a2 (m2 + 1) Z (12 * a1 + x4) (x4 + 1) := (if_neg q).trans (if_neg g)
        rw [e] at hP
        have w := hLta0b a1 x4 (by omega) (by omega) (by omega) (by omega) (by omega)
        exact wz_k1 ⟨m2, by omega, 12 * a1 + x4, x4 + 1, (zconso rfl (zconso (zvo (rfl : i3 a1 = i3 a1)) (zconso (zvo (rfl : i3 a2 = i3 a2)) (zconso (zvo (Eq.trans (i3A (i3M (rfl : i3 a1 = i3 a1) (show (12 : Int32) = i3 12 from rfl)) (rfl : i3 x4 = i3 x4)) (by rw [show a1 * 12 + x4 = 12 * a1 + x4 by omega]))) (zconso (zvo (i3A (rfl : i3 x4 = i3 x4) (show (1 : Int32) = i3 1 from rfl))) rfl))))), rfl, ⟨by omega, by omega, w⟩, by omega, by omega, by omega, hP⟩
  obtain ⟨μ', o, e, n, hn, ⟨h1, h2⟩, h3⟩ := key
  exact ⟨n, P, hP, hn, by rw [e, h1, h2], h3⟩
