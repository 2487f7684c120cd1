/-! specs by hand -/
def zl_133_1 : Nat → Int → Int → Int
  | 0, x1, _ => x1
  | m + 1, x1, x2 => if x2 ≤ 0 then x1 else zl_133_1 m (x1 + 1) (x2 / 10)
def zf_133 (_ : qz_Z) (a0 : Int) : Int := zl_133_1 11 0 a0
theorem sp_133 {s : zS} {Z : qz_Z} {ν : qz_N} (_ : zI s Z) {a0 : Int} (ga0 : -2147483648 ≤ a0 ∧ a0 ≤ 2147483647) : ∃ P : Int, P = zf_133 Z a0 ∧ (qf_133 [.inl (i3 a0)] (zm Z ν) = some (zm Z ν, .inl (some (.inl (i3 P)))) ∧ 0 ≤ P ∧ P ≤ 10) := by
  refine zc_R (Q := fun P => 0 ≤ P ∧ P ≤ 10) rfl (fw_133 (i3 a0) _ _ ?_)
  refine wz_lp sb_133_1 (fun m x => ∃ x1 x2 : Int, qz_fg [false, true, true] x.1 = [none, some (.inl (i3 x1)), some (.inl (i3 x2))] ∧ x.2 = ([], zm Z ν) ∧ x2 < 10 ^ m ∧ (-2147483648 ≤ x2 ∧ x2 ≤ 2147483647) ∧ 0 ≤ x1 ∧ x1 + m ≤ 10 ∧ zE (zf_133 Z a0) (zl_133_1 (m + 1) x1 x2)) ?_ 65536 10 _ (by omega) ⟨0, a0, rfl, rfl, ?_, ga0, by omega, by omega, rfl⟩
  · rintro m ⟨L, st, μ⟩ ⟨x1, x2, hL, hx, hm, g2, g1, g3, hP⟩
    cases hx
    refine fb_133_1 (i3 x1) (i3 x2) _ _ _ _ hL ?_
    refine wz_br (i3Le (rfl : i3 x2 = i3 x2) (show (0 : Int32) = i3 0 from rfl) (by omega) (by omega) (by omega) (by omega)) (fun h1 => ?_) (fun h1 => ?_)
    · replace hP := zE_p hP h1
      refine wz_lk0 (wz_sk0 (fc_133_2 (i3 x1) _ _ _ [none, some (.inl (i3 x1)), some (.inl (i3 x2))] rfl ?_))
      exact zlR hP rfl ⟨by omega, by omega⟩
    · replace hP := zE_n hP h1
      rcases m with _ | m
      · exfalso
        have e0 : (10 : Int) ^ 0 = 1 := rfl
        omega
      · have e1 := Int.pow_succ (10 : Int) m
        refine wz_k1 ⟨m, by omega, x1 + 1, x2 / 10, ?_, rfl, by omega, by omega, by omega, by omega, hP⟩
        exact zconso rfl (zconso (zvo (i3A rfl (show (1 : Int32) = i3 1 from rfl))) (zconso (zvo (i3D (rfl : i3 x2 = i3 x2) (show (10 : Int32) = i3 10 from rfl) (by omega) (by omega) (by omega) (by omega))) rfl))
  · have e0 : (10 : Int) ^ 10 = 10000000000 := rfl
    omega
