/-! ISSOUND, the reference's -/
theorem zu_if {Z Z1 : qz_Z} {k : Nat} {b i a v : Int} (h : Z1 = zu Z k b i a v) (j : Int) : Z1 k b i j = if j = a then v else Z k b i j := by
  by_cases e : j = a
  · subst e
    rw [if_pos rfl]
    exact zu_at h
  · rw [if_neg e]
    exact zu_ne h (fun q => e q.2.2.2)
theorem so_351 {Z : qz_Z} {ν : qz_N} : ∃ Z1, qf_351 [.inr (.inr (some (1, 0, 0))), .inl (i3 1)] (zm Z ν) = some (zm Z1 ν, .inl none) ∧ (∀ k (b i j : Int), k ≠ 81 → Z1 k b i j = Z k b i j) ∧ ∀ j, 0 ≤ j → j < 4400 → Z1 81 0 0 (4400 + j) = Z 2 0 0 j := by
  have main : wz_call qf_351 [.inr (.inr (some (1, 0, 0))), .inl (i3 1)] (zm Z ν) (fun μ2 o2 => ∃ Z1, μ2 = zm Z1 ν ∧ o2 = .inl none ∧ (∀ k (b i j : Int), k ≠ 81 → Z1 k b i j = Z k b i j) ∧ ∀ j, 0 ≤ j → j < 4400 → Z1 81 0 0 (4400 + j) = Z 2 0 0 j) := by
    refine fw_351 _ _ _ ?_
    refine wz_lp sb_351_1 (fun m x => ∃ (Z' : qz_Z) (n : Int), 0 ≤ n ∧ n + m = 4400 ∧ qz_fg [true, true, true] x.1 = [some (.inr (.inr (some (1, 0, 0)))), some (.inl (i3 1)), some (.inl (i3 n))] ∧ x.2 = ([], zm Z' ν) ∧ (∀ k (b i j : Int), k ≠ 81 → Z' k b i j = Z k b i j) ∧ ∀ j, 0 ≤ j → j < n → Z' 81 0 0 (4400 + j) = Z 2 0 0 j) ?_ 65536 4400 _ (by omega) ⟨Z, 0, by omega, by omega, rfl, rfl, fun _ _ _ _ _ => rfl, fun j a b => by omega⟩
    rintro m ⟨L, st, μ⟩ ⟨Z', n, hn0, hnm, hL, hx, hK, hA⟩
    cases hx
    refine fb_351_1 _ _ _ _ _ _ hL ?_
    refine wz_br (i3Le (show (4400 : Int32) = i3 4400 from rfl) (rfl : i3 n = i3 n) (by omega) (by omega) (by omega) (by omega)) (fun q => wz_lk0 (wz_sk0 (fc_351_2 _ _ _ _ rfl ⟨Z', rfl, rfl, hK, fun j a b => hA j a (by omega)⟩))) (fun q => ?_)
    have ex : (4400 : Int32) * i3 1 + i3 n = i3 (4400 + n) := i3A (i3M (show (4400 : Int32) = i3 4400 from rfl) rfl) rfl
    rw [ex]
    refine wz_i0 (i3O rfl hn0 (by show n < (4400 : Int); omega) (by decide)) (wz_i0 (i3O rfl (by omega) (by show _ < (8800 : Int); omega) (by decide)) ?_)
    intro μ1 e1
    obtain ⟨Z5, hZ5⟩ := zx (zu Z' 81 0 0 (4400 + n) (Z 2 0 0 n))
    replace e1 := e1.trans (zm_wI (ν := ν) hZ5 rfl rfl (i3I rfl rfl (by omega) (by omega)) (Eq.trans (zm_rd (k := 2) rfl rfl (i3I rfl rfl (by omega) (by omega))) (congrArg i3 (hK 2 0 0 n (by decide)))))
    subst e1
    refine wz_k1 ⟨m - 1, by omega, Z5, n + 1, by omega, by omega, ?_, rfl, fun k b i j hk => (zu_ne hZ5 (fun q => hk q.1)).trans (hK k b i j hk), fun j a b => ?_⟩
    · show [_, _, some (Sum.inl (i3 n + 1))] = _
      rw [show (1 : Int32) = i3 1 from rfl, i3_add] <;> rfl
    · rw [zu_if hZ5]
      by_cases e : j = n
      · subst e
        rw [if_pos rfl]
      · rw [if_neg (by omega)]
        exact hA j a (by omega)
  obtain ⟨μ', o, e, Z1, rfl, rfl, hh⟩ := main
  exact ⟨Z1, e, hh⟩
theorem so_493 {Z : qz_Z} {ν : qz_N} : ∃ Z1, qf_493 [.inr (.inr (some (1, 0, 0))), .inl (i3 1)] (zm Z ν) = some (zm Z1 ν, .inl none) := by
  have main : wz_call qf_493 [.inr (.inr (some (1, 0, 0))), .inl (i3 1)] (zm Z ν) (fun μ2 o2 => ∃ Z1, μ2 = zm Z1 ν ∧ o2 = .inl none) := by
    refine fw_493 _ _ _ ?_
    refine wz_lp sb_493_1 (fun m x => ∃ (Z' : qz_Z) (n : Int), 0 ≤ n ∧ n + m = 4400 ∧ qz_fg [true, true, true] x.1 = [some (.inr (.inr (some (1, 0, 0)))), some (.inl (i3 1)), some (.inl (i3 n))] ∧ x.2 = ([], zm Z' ν)) ?_ 65536 4400 _ (by omega) ⟨Z, 0, by omega, by omega, rfl, rfl⟩
    rintro m ⟨L, st, μ⟩ ⟨Z', n, hn0, hnm, hL, hx⟩
    cases hx
    refine fb_493_1 _ _ _ _ _ _ hL ?_
    refine wz_br (i3Le (show (4400 : Int32) = i3 4400 from rfl) (rfl : i3 n = i3 n) (by omega) (by omega) (by omega) (by omega)) (fun q => wz_lk0 (wz_sk0 (fc_493_2 _ _ _ _ rfl ⟨Z', rfl, rfl⟩))) (fun q => ?_)
    have ex : (4400 : Int32) * i3 1 + i3 n = i3 (4400 + n) := i3A (i3M (show (4400 : Int32) = i3 4400 from rfl) rfl) rfl
    rw [ex]
    refine wz_i0 (i3O rfl (by omega) (by show _ < (8800 : Int); omega) (by decide)) (wz_i0 (i3O rfl hn0 (by show n < (4400 : Int); omega) (by decide)) (kp_wI (fun Z5 _ => ?_)))
    refine wz_k1 ⟨m - 1, by omega, Z5, n + 1, by omega, by omega, ?_, rfl⟩
    show [_, _, some (Sum.inl (i3 n + 1))] = _
    rw [show (1 : Int32) = i3 1 from rfl, i3_add] <;> rfl
  obtain ⟨μ', o, e, Z1, rfl, rfl⟩ := main
  exact ⟨Z1, e⟩
theorem so_462 {Z : qz_Z} {ν : qz_N} : ∃ Z1, qf_462 [.inr (.inr (some (1, 0, 0)))] (zm Z ν) = some (zm Z1 ν, .inl none) ∧ (∀ k (b i j : Int), k ≠ 2 → Z1 k b i j = Z k b i j) ∧ ∀ j, Z1 2 0 0 j = if 1300 ≤ j ∧ j < 1328 then 18 else Z 2 0 0 j := by
  have main : wz_call qf_462 [.inr (.inr (some (1, 0, 0)))] (zm Z ν) (fun μ2 o2 => ∃ Z1, μ2 = zm Z1 ν ∧ o2 = .inl none ∧ (∀ k (b i j : Int), k ≠ 2 → Z1 k b i j = Z k b i j) ∧ ∀ j, Z1 2 0 0 j = if 1300 ≤ j ∧ j < 1328 then 18 else Z 2 0 0 j) := by
    refine fw_462 _ _ ?_
    refine wz_lp sb_462_1 (fun m x => ∃ (Z' : qz_Z) (n : Int), 0 ≤ n ∧ n + m = 28 ∧ qz_fg [true, true] x.1 = [some (.inr (.inr (some (1, 0, 0)))), some (.inl (i3 n))] ∧ x.2 = ([], zm Z' ν) ∧ (∀ k (b i j : Int), k ≠ 2 → Z' k b i j = Z k b i j) ∧ ∀ j, Z' 2 0 0 j = if 1300 ≤ j ∧ j < 1300 + n then 18 else Z 2 0 0 j) ?_ 65536 28 _ (by omega) ⟨Z, 0, by omega, by omega, rfl, rfl, fun _ _ _ _ _ => rfl, fun j => by rw [if_neg (by omega)]⟩
    rintro m ⟨L, st, μ⟩ ⟨Z', n, hn0, hnm, hL, hx, hK, hA⟩
    cases hx
    refine fb_462_1 _ _ _ _ _ hL ?_
    refine wz_br (i3Le (show (28 : Int32) = i3 28 from rfl) (rfl : i3 n = i3 n) (by omega) (by omega) (by omega) (by omega)) (fun q => wz_lk0 (wz_sk0 (fc_462_2 _ _ _ _ rfl ⟨Z', rfl, rfl, hK, fun j => ?_⟩))) (fun q => ?_)
    · rw [hA j]
      by_cases e : 1300 ≤ j ∧ j < 1328
      · rw [if_pos e, if_pos (by omega)]
      · rw [if_neg e, if_neg (by omega)]
    · have ex : (1300 : Int32) + i3 n = i3 (1300 + n) := i3A (show (1300 : Int32) = i3 1300 from rfl) rfl
      rw [ex]
      refine wz_i0 (i3O rfl (by omega) (by show _ < (4400 : Int); omega) (by decide)) ?_
      intro μ1 e1
      obtain ⟨Z5, hZ5⟩ := zx (zu Z' 2 0 0 (1300 + n) 18)
      replace e1 := e1.trans (zm_wI (ν := ν) hZ5 rfl rfl (i3I rfl rfl (by omega) (by omega)) (show (18 : Int32) = i3 18 from rfl))
      subst e1
      refine wz_k1 ⟨m - 1, by omega, Z5, n + 1, by omega, by omega, ?_, rfl, fun k b i j hk => (zu_ne hZ5 (fun q => hk q.1)).trans (hK k b i j hk), fun j => ?_⟩
      · show [_, some (Sum.inl (i3 n + 1))] = _
        rw [show (1 : Int32) = i3 1 from rfl, i3_add] <;> rfl
      · rw [zu_if hZ5, hA j]
        by_cases e : j = 1300 + n
        · rw [if_pos e, if_pos (by omega)]
        · rw [if_neg e]
          by_cases e2 : 1300 ≤ j ∧ j < 1300 + n
          · rw [if_pos e2, if_pos (by omega)]
          · rw [if_neg e2, if_neg (by omega)]
  obtain ⟨μ', o, e, Z1, rfl, rfl, hh⟩ := main
  exact ⟨Z1, e, hh⟩
theorem so_509 {Z : qz_Z} {ν : qz_N} : ∃ Z1, qf_509 [.inr (.inr (some (1, 0, 0)))] (zm Z ν) = some (zm Z1 ν, .inl none) ∧ (∀ k (b i j : Int), k ≠ 2 → Z1 k b i j = Z k b i j) ∧ ∀ j, Z1 2 0 0 j = if j = 3201 then 2 else if 3210 ≤ j ∧ j < 3246 then 3 else Z 2 0 0 j := by
  have main : wz_call qf_509 [.inr (.inr (some (1, 0, 0)))] (zm Z ν) (fun μ2 o2 => ∃ Z1, μ2 = zm Z1 ν ∧ o2 = .inl none ∧ (∀ k (b i j : Int), k ≠ 2 → Z1 k b i j = Z k b i j) ∧ ∀ j, Z1 2 0 0 j = if j = 3201 then 2 else if 3210 ≤ j ∧ j < 3246 then 3 else Z 2 0 0 j) := by
    refine fw_509 _ _ ?_
    refine wz_lp sb_509_1 (fun m x => ∃ (Z' : qz_Z) (n : Int), 0 ≤ n ∧ n + m = 36 ∧ qz_fg [true, true] x.1 = [some (.inr (.inr (some (1, 0, 0)))), some (.inl (i3 n))] ∧ x.2 = ([], zm Z' ν) ∧ (∀ k (b i j : Int), k ≠ 2 → Z' k b i j = Z k b i j) ∧ ∀ j, Z' 2 0 0 j = if 3210 ≤ j ∧ j < 3210 + n then 3 else Z 2 0 0 j) ?_ 65536 36 _ (by omega) ⟨Z, 0, by omega, by omega, rfl, rfl, fun _ _ _ _ _ => rfl, fun j => by rw [if_neg (by omega)]⟩
    rintro m ⟨L, st, μ⟩ ⟨Z', n, hn0, hnm, hL, hx, hK, hA⟩
    cases hx
    refine fb_509_1 _ _ _ _ _ hL ?_
    refine wz_br (i3Le (show (36 : Int32) = i3 36 from rfl) (rfl : i3 n = i3 n) (by omega) (by omega) (by omega) (by omega)) (fun q => wz_lk0 (wz_sk0 (fc_509_2 _ _ _ _ rfl ?_))) (fun q => ?_)
    · intro μ1 e1
      obtain ⟨Z5, hZ5⟩ := zx (zu Z' 2 0 0 3201 2)
      replace e1 := e1.trans (zm_wI (ν := ν) hZ5 rfl rfl rfl (show (2 : Int32) = i3 2 from rfl))
      subst e1
      refine ⟨Z5, rfl, rfl, fun k b i j hk => (zu_ne hZ5 (fun q => hk q.1)).trans (hK k b i j hk), fun j => ?_⟩
      rw [zu_if hZ5, hA j]
      by_cases e : j = 3201
      · rw [if_pos e, if_pos e]
      · rw [if_neg e, if_neg e]
        by_cases e2 : 3210 ≤ j ∧ j < 3246
        · rw [if_pos e2, if_pos (by omega)]
        · rw [if_neg e2, if_neg (by omega)]
    · have ex : (3210 : Int32) + i3 n = i3 (3210 + n) := i3A (show (3210 : Int32) = i3 3210 from rfl) rfl
      rw [ex]
      refine wz_i0 (i3O rfl (by omega) (by show _ < (4400 : Int); omega) (by decide)) ?_
      intro μ1 e1
      obtain ⟨Z5, hZ5⟩ := zx (zu Z' 2 0 0 (3210 + n) 3)
      replace e1 := e1.trans (zm_wI (ν := ν) hZ5 rfl rfl (i3I rfl rfl (by omega) (by omega)) (show (3 : Int32) = i3 3 from rfl))
      subst e1
      refine wz_k1 ⟨m - 1, by omega, Z5, n + 1, by omega, by omega, ?_, rfl, fun k b i j hk => (zu_ne hZ5 (fun q => hk q.1)).trans (hK k b i j hk), fun j => ?_⟩
      · show [_, some (Sum.inl (i3 n + 1))] = _
        rw [show (1 : Int32) = i3 1 from rfl, i3_add] <;> rfl
      · rw [zu_if hZ5, hA j]
        by_cases e : j = 3210 + n
        · rw [if_pos e, if_pos (by omega)]
        · rw [if_neg e]
          by_cases e2 : 3210 ≤ j ∧ j < 3210 + n
          · rw [if_pos e2, if_pos (by omega)]
          · rw [if_neg e2, if_neg (by omega)]
  obtain ⟨μ', o, e, Z1, rfl, rfl, hh⟩ := main
  exact ⟨Z1, e, hh⟩
theorem so_frs (x j : Int) (hx : 0 ≤ j → j < 4400 → x = 0) (h0 : 0 ≤ j) (h1 : j < 4400) : (if j = 3813 then (2500 : Int) else if j = 3812 then 400 else if j = 3811 then 120 else if j = 3810 then 50 else if j = 3500 then 0 else if j = 3201 then 2 else if 3210 ≤ j ∧ j < 3246 then 3 else if j = 1401 then 0 else if j = 1400 then 0 else if 1300 ≤ j ∧ j < 1328 then 18 else if j = 100 then 0 else x) = frs j := by
  rw [hx h0 h1]
  unfold frs
  repeat' split
  all_goals omega
/-- begin() -/
theorem so_290 {Z : qz_Z} {ν : qz_N} : ∃ Z1, qf_290 [.inr (.inr (some (1, 0, 0)))] (zm Z ν) = some (zm Z1 ν, .inl none) ∧ (∀ k (b i j : Int), k ≠ 2 → Z1 k b i j = Z k b i j) ∧ ∀ j, 0 ≤ j → j < 4400 → Z1 2 0 0 j = frs j := by
  have main : wz_call qf_290 [.inr (.inr (some (1, 0, 0)))] (zm Z ν) (fun μ2 o2 => ∃ Z1, μ2 = zm Z1 ν ∧ o2 = .inl none ∧ (∀ k (b i j : Int), k ≠ 2 → Z1 k b i j = Z k b i j) ∧ ∀ j, 0 ≤ j → j < 4400 → Z1 2 0 0 j = frs j) := by
    refine fw_290 _ _ ?_
    refine wz_lp sb_290_1 (fun m x => ∃ (Z' : qz_Z) (n : Int), 0 ≤ n ∧ n + m = 4400 ∧ qz_fg [true, true] x.1 = [some (.inr (.inr (some (1, 0, 0)))), some (.inl (i3 n))] ∧ x.2 = ([], zm Z' ν) ∧ (∀ k (b i j : Int), k ≠ 2 → Z' k b i j = Z k b i j) ∧ ∀ j, 0 ≤ j → j < n → Z' 2 0 0 j = 0) ?_ 65536 4400 _ (by omega) ⟨Z, 0, by omega, by omega, rfl, rfl, fun _ _ _ _ _ => rfl, fun j a b => by omega⟩
    rintro m ⟨L, st, μ⟩ ⟨Z', n, hn0, hnm, hL, hx, hK, hA⟩
    cases hx
    refine fb_290_1 _ _ _ _ _ hL ?_
    refine wz_br (i3Le (show (4400 : Int32) = i3 4400 from rfl) (rfl : i3 n = i3 n) (by omega) (by omega) (by omega) (by omega)) (fun q => wz_lk0 (wz_sk0 (fc_290_2 _ _ _ _ rfl ?_))) (fun q => ?_)
    · intro μ1 e1
      obtain ⟨Z1, hZ1⟩ := zx (zu Z' 2 0 0 100 0)
      replace e1 := e1.trans (zm_wI (ν := ν) hZ1 rfl rfl rfl (show (0 : Int32) = i3 0 from rfl))
      subst e1
      obtain ⟨Z2, q2, K2, A2⟩ := so_462 (Z := Z1) (ν := ν)
      refine wz_cV_of q2 ?_
      intro μ3 e3
      obtain ⟨Z3, hZ3⟩ := zx (zu Z2 2 0 0 1400 0)
      replace e3 := e3.trans (zm_wI (ν := ν) hZ3 rfl rfl rfl (show (0 : Int32) = i3 0 from rfl))
      subst e3
      intro μ4 e4
      obtain ⟨Z4, hZ4⟩ := zx (zu Z3 2 0 0 1401 0)
      replace e4 := e4.trans (zm_wI (ν := ν) hZ4 rfl rfl rfl (show (0 : Int32) = i3 0 from rfl))
      subst e4
      obtain ⟨Z5, q5, K5, A5⟩ := so_509 (Z := Z4) (ν := ν)
      refine wz_cV_of q5 ?_
      intro μ6 e6
      obtain ⟨Z6, hZ6⟩ := zx (zu Z5 2 0 0 3500 0)
      replace e6 := e6.trans (zm_wI (ν := ν) hZ6 rfl rfl rfl (show (0 : Int32) = i3 0 from rfl))
      subst e6
      intro μ7 e7
      obtain ⟨Z7, hZ7⟩ := zx (zu Z6 2 0 0 3810 50)
      replace e7 := e7.trans (zm_wI (ν := ν) hZ7 rfl rfl rfl (show (50 : Int32) = i3 50 from rfl))
      subst e7
      intro μ8 e8
      obtain ⟨Z8, hZ8⟩ := zx (zu Z7 2 0 0 3811 120)
      replace e8 := e8.trans (zm_wI (ν := ν) hZ8 rfl rfl rfl (show (120 : Int32) = i3 120 from rfl))
      subst e8
      intro μ9 e9
      obtain ⟨Z9, hZ9⟩ := zx (zu Z8 2 0 0 3812 400)
      replace e9 := e9.trans (zm_wI (ν := ν) hZ9 rfl rfl rfl (show (400 : Int32) = i3 400 from rfl))
      subst e9
      intro μ10 e10
      obtain ⟨Z10, hZ10⟩ := zx (zu Z9 2 0 0 3813 2500)
      replace e10 := e10.trans (zm_wI (ν := ν) hZ10 rfl rfl rfl (show (2500 : Int32) = i3 2500 from rfl))
      subst e10
      refine ⟨Z10, rfl, rfl, fun k b i j hk => ?_, fun j a b => ?_⟩
      · exact (zu_ne hZ10 (fun q => hk q.1)).trans ((zu_ne hZ9 (fun q => hk q.1)).trans ((zu_ne hZ8 (fun q => hk q.1)).trans ((zu_ne hZ7 (fun q => hk q.1)).trans ((zu_ne hZ6 (fun q => hk q.1)).trans ((K5 k b i j hk).trans ((zu_ne hZ4 (fun q => hk q.1)).trans ((zu_ne hZ3 (fun q => hk q.1)).trans ((K2 k b i j hk).trans ((zu_ne hZ1 (fun q => hk q.1)).trans (hK k b i j hk))))))))))
      · rw [zu_if hZ10, zu_if hZ9, zu_if hZ8, zu_if hZ7, zu_if hZ6, A5, zu_if hZ4, zu_if hZ3, A2, zu_if hZ1]
        exact so_frs _ j (fun a b => hA j a (by omega)) a b
    · refine wz_i0 (i3O rfl hn0 (by show n < (4400 : Int); omega) (by decide)) ?_
      intro μ1 e1
      obtain ⟨Z5, hZ5⟩ := zx (zu Z' 2 0 0 n 0)
      replace e1 := e1.trans (zm_wI (ν := ν) hZ5 rfl rfl (i3I rfl rfl (by omega) (by omega)) (show (0 : Int32) = i3 0 from rfl))
      subst e1
      refine wz_k1 ⟨m - 1, by omega, Z5, n + 1, by omega, by omega, ?_, rfl, fun k b i j hk => (zu_ne hZ5 (fun q => hk q.1)).trans (hK k b i j hk), fun j a b => ?_⟩
      · show [_, some (Sum.inl (i3 n + 1))] = _
        rw [show (1 : Int32) = i3 1 from rfl, i3_add] <;> rfl
      · rw [zu_if hZ5]
        by_cases e : j = n
        · rw [if_pos e]
        · rw [if_neg e]
          exact hA j a (by omega)
  obtain ⟨μ', o, e, Z1, rfl, rfl, hh⟩ := main
  exact ⟨Z1, e, hh⟩
/-- worked anew -/
theorem so_554 {Z : qz_Z} {ν : qz_N} (hF : zFm Z) (h2 : ∀ j, 0 ≤ j → j < 4400 → Z 2 0 0 j = frs j) : ∃ Z1, qf_554 [.inr (.inr (some (1, 0, 0)))] (zm Z ν) = some (zm Z1 ν, .inl (some (.inl (i3 1)))) := by
  have main : wz_call qf_554 [.inr (.inr (some (1, 0, 0)))] (zm Z ν) (fun μ2 o2 => ∃ Z1, μ2 = zm Z1 ν ∧ o2 = .inl (some (.inl (i3 1)))) := by
    refine fw_554 _ _ ?_
    obtain ⟨Z1, q1, K1, A1⟩ := so_351 (Z := Z) (ν := ν)
    refine wz_cV_of q1 ?_
    intro μ2 e2
    obtain ⟨Z2, hZ2⟩ := zx (zu Z1 1 0 0 35 1)
    replace e2 := e2.trans (zm_wI (ν := ν) hZ2 rfl rfl rfl (show (1 : Int32) = i3 1 from rfl))
    subst e2
    obtain ⟨Z3, q3, K3, A3⟩ := so_290 (Z := Z2) (ν := ν)
    refine wz_cV_of q3 ?_
    have e37 : qz_im (zm Z3 ν) 1 0 0 37 = i3 0 := Eq.trans (zm_rd (k := 1) rfl rfl rfl) (congrArg i3 ((K3 1 0 0 37 (by decide)).trans ((zu_ne hZ2 (by omega)).trans ((K1 1 0 0 37 (by decide)).trans ((hF 1 0 37 (by decide)).trans (by decide))))))
    refine wz_l0 sb_554_1 (fb_554_1 (i3 0) _ _ _ _ rfl ?_)
    refine wz_i1 (by rw [e37]; decide) (wz_lk0 (wz_sk0 (fc_554_4 _ _ _ _ rfl ?_)))
    intro μ4 e4
    obtain ⟨Z4, hZ4⟩ := zx (zu Z3 1 0 0 35 0)
    replace e4 := e4.trans (zm_wI (ν := ν) hZ4 rfl rfl rfl (show (0 : Int32) = i3 0 from rfl))
    subst e4
    have c2 : ∀ j, 0 ≤ j → j < 4400 → Z4 2 0 0 j = frs j := fun j a b => (zu_ne hZ4 (by omega)).trans (A3 j a b)
    have c81 : ∀ j, 0 ≤ j → j < 4400 → Z4 81 0 0 (4400 + j) = frs j := fun j a b => (zu_ne hZ4 (by omega)).trans ((K3 81 0 0 _ (by decide)).trans ((zu_ne hZ2 (by omega)).trans ((A1 j a b).trans (h2 j a b))))
    refine wz_lp sb_554_2 (fun m x => ∃ (n : Int), 0 ≤ n ∧ n + m = 4400 ∧ qz_fg [true, true, true] x.1 = [some (.inr (.inr (some (1, 0, 0)))), some (.inl (i3 1)), some (.inl (i3 n))] ∧ x.2 = ([], zm Z4 ν)) ?_ 65536 4400 _ (by omega) ⟨0, by omega, by omega, rfl, rfl⟩
    rintro m ⟨L, st, μ⟩ ⟨n, hn0, hnm, hL, hx⟩
    cases hx
    refine fb_554_2 _ _ _ _ _ _ hL ?_
    refine wz_br (i3Le (show (4400 : Int32) = i3 4400 from rfl) (rfl : i3 n = i3 n) (by omega) (by omega) (by omega) (by omega)) (fun q => wz_lk0 (wz_sk0 (fc_554_3 _ _ _ _ _ rfl ?_))) (fun q => ?_)
    · obtain ⟨Z5, q5⟩ := so_493 (Z := Z4) (ν := ν)
      exact wz_cV_of q5 (wz_i1 (by decide) ⟨Z5, rfl, rfl⟩)
    · have ex : (4400 : Int32) + i3 n = i3 (4400 + n) := i3A (show (4400 : Int32) = i3 4400 from rfl) rfl
      rw [ex]
      have r2 : qz_im (zm Z4 ν) 2 0 0 (i3 n).toNatClampNeg = i3 (frs n) := Eq.trans (zm_rd (k := 2) rfl rfl (i3I rfl rfl (by omega) (by omega))) (congrArg i3 (c2 n hn0 (by omega)))
      have r81 : qz_im (zm Z4 ν) 81 0 0 (i3 (4400 + n)).toNatClampNeg = i3 (frs n) := Eq.trans (zm_rd (k := 81) rfl rfl (i3I rfl rfl (by omega) (by omega))) (congrArg i3 (c81 n hn0 (by omega)))
      rw [r2, r81]
      refine wz_i0 (by decide) (wz_i0 (i3O rfl hn0 (by show n < (4400 : Int); omega) (by decide)) (wz_i0 (i3O rfl (by omega) (by show _ < (8800 : Int); omega) (by decide)) (wz_i0 (by rw [decide_eq_true rfl]; rfl) ?_)))
      refine wz_k1 ⟨m - 1, by omega, n + 1, by omega, by omega, ?_, rfl⟩
      show [_, _, some (Sum.inl (i3 n + 1))] = _
      rw [show (1 : Int32) = i3 1 from rfl, i3_add] <;> rfl
  obtain ⟨μ', o, e, Z1, rfl, rfl⟩ := main
  exact ⟨Z1, e⟩
theorem so_567 {Z : qz_Z} {ν : qz_N} (hF : zFm Z) : ∃ Z1, qf_567 [.inr (.inr (some (1, 0, 0)))] (zm Z ν) = some (zm Z1 ν, .inl (some (.inl (i3 1)))) := by
  obtain ⟨Z1, q1⟩ := so_554 (ν := ν) hF (fun j a b => (hF 2 0 j (by decide)).trans (show (if (0 : Int) = 0 then frs j else 0) = frs j from if_pos rfl))
  refine ⟨Z1, wz_call_eq (fw_567 _ _ ?_)⟩
  have e1 : qz_im (zm Z ν) 2 0 0 2000 = i3 0 := Eq.trans (zm_rd (k := 2) rfl rfl rfl) (congrArg i3 ((hF 2 0 2000 (by decide)).trans (by decide)))
  have e2 : qz_im (zm Z ν) 2 0 0 102 = i3 0 := Eq.trans (zm_rd (k := 2) rfl rfl rfl) (congrArg i3 ((hF 2 0 102 (by decide)).trans (by decide)))
  refine wz_l0 sb_567_1 (fb_567_1 (i3 1) (i3 0) _ _ _ _ rfl ?_)
  refine wz_i1 (by rw [e1]; decide) (wz_lk0 (wz_sk0 (fc_567_4 (i3 1) _ _ _ _ rfl ?_)))
  refine wz_l0 sb_567_2 (fb_567_2 (i3 1) (i3 0) _ _ _ _ rfl ?_)
  refine wz_i1 (by rw [e2]; decide) (wz_lk0 (wz_sk0 (fc_567_3 (i3 1) _ _ _ _ rfl ?_)))
  exact wz_i0 (by decide) (wz_cI_of q1 (wz_i0 (by decide) ⟨rfl, rfl⟩))
theorem so_556 {Z : qz_Z} {ν : qz_N} (hZ : zI none Z) (hF : zFm Z) {n : Nat} (h1 : 1 ≤ n) (h8 : n ≤ 8) : ∃ Z1, qf_556 [.inr (.inr (some (1, 0, 0))), .inl (i3 (n : Int))] (zm Z ν) = some (zm Z1 ν, .inl (some (.inl (i3 1)))) ∧ (n ≤ 7 → Z1 = Z) := by
  rcases (show n = 1 ∨ n = 2 ∨ n = 3 ∨ n = 4 ∨ n = 5 ∨ n = 6 ∨ n = 7 ∨ n = 8 by omega) with rfl | rfl | rfl | rfl | rfl | rfl | rfl | rfl
  · exact ⟨Z, wz_call_eq (fw_556 _ _ _ (wz_i0 (by decide) (wz_i1 (by decide) (wz_cI_of (so_331 hZ hF) (wz_i1 (by decide) ⟨rfl, rfl⟩))))), fun _ => rfl⟩
  · exact ⟨Z, wz_call_eq (fw_556 _ _ _ (wz_i0 (by decide) (wz_i0 (by decide) (wz_i1 (by decide) (wz_cI_of (so_487 hZ hF) (wz_i1 (by decide) ⟨rfl, rfl⟩)))))), fun _ => rfl⟩
  · exact ⟨Z, wz_call_eq (fw_556 _ _ _ (wz_i0 (by decide) (wz_i0 (by decide) (wz_i0 (by decide) (wz_i1 (by decide) (wz_cI_of (so_285 hZ hF) (wz_i1 (by decide) ⟨rfl, rfl⟩))))))), fun _ => rfl⟩
  · exact ⟨Z, wz_call_eq (fw_556 _ _ _ (wz_i0 (by decide) (wz_i0 (by decide) (wz_i0 (by decide) (wz_i0 (by decide) (wz_i1 (by decide) (wz_cI_of (so_310 hZ hF) (wz_i1 (by decide) ⟨rfl, rfl⟩)))))))), fun _ => rfl⟩
  · exact ⟨Z, wz_call_eq (fw_556 _ _ _ (wz_i0 (by decide) (wz_i0 (by decide) (wz_i0 (by decide) (wz_i0 (by decide) (wz_i0 (by decide) (wz_i1 (by decide) (wz_cI_of (so_524 hZ hF) (wz_i1 (by decide) ⟨rfl, rfl⟩))))))))), fun _ => rfl⟩
  · exact ⟨Z, wz_call_eq (fw_556 _ _ _ (wz_i0 (by decide) (wz_i0 (by decide) (wz_i0 (by decide) (wz_i0 (by decide) (wz_i0 (by decide) (wz_i0 (by decide) (wz_i1 (by decide) (wz_cI_of (so_372 hZ hF) (wz_i1 (by decide) ⟨rfl, rfl⟩)))))))))), fun _ => rfl⟩
  · exact ⟨Z, wz_call_eq (fw_556 _ _ _ (wz_i0 (by decide) (wz_i0 (by decide) (wz_i0 (by decide) (wz_i0 (by decide) (wz_i0 (by decide) (wz_i0 (by decide) (wz_i0 (by decide) (wz_i1 (by decide) (wz_cI_of (so_420 hZ hF) (wz_i1 (by decide) ⟨rfl, rfl⟩))))))))))), fun _ => rfl⟩
  · obtain ⟨Z1, q1⟩ := so_567 (ν := ν) hF
    exact ⟨Z1, wz_call_eq (fw_556 _ _ _ (wz_i1 (by decide) (wz_cI_of q1 (wz_i1 (by decide) ⟨rfl, rfl⟩)))), fun h => absurd h (by decide)⟩
def zg_392 (a1 : Int) : Int × Int := if 0 ≤ a1 ∧ a1 ≤ 8 then (1, 0) else (0, 1)
theorem sg_392 {Z : qz_Z} {ν : qz_N} (hZ : zI none Z) (hF : zFm Z) {a1 : Int} (g1 : -2147483648 ≤ a1 ∧ a1 ≤ 2147483647) : ∃ (Z1 : qz_Z) (v t : Int), (v, t) = zg_392 a1 ∧ qf_392 [.inr (.inr (some (1, 0, 0))), .inl (i3 a1)] (zm Z ν) = some (zm Z1 ν, .inl (some (.inl (i3 v)))) ∧ Z1 1 0 0 2 = t := by
  unfold zg_392
  have c0 : (0 : Int32) = i3 0 := rfl
  have c1 : (1 : Int32) = i3 1 := rfl
  have c8 : (8 : Int32) = i3 8 := rfl
  by_cases hO : 0 ≤ a1 ∧ a1 ≤ 8
  · rw [if_pos hO]
    obtain ⟨a, rfl⟩ : ∃ a : Nat, a1 = a := ⟨a1.toNat, by omega⟩
    have main : wz_call qf_392 [.inr (.inr (some (1, 0, 0))), .inl (i3 (a : Int))] (zm Z ν) (fun μ2 o2 => ∃ Z1, μ2 = zm Z1 ν ∧ o2 = .inl (some (.inl (i3 1))) ∧ Z1 1 0 0 2 = 0) := by
      generalize ha1 : (a : Int) = a1 at hO g1 ⊢
      refine fw_392 _ _ _ ?_
      refine wz_i0 (Eq.trans (i3L (rfl : i3 a1 = i3 a1) c0 (by omega) (by omega) (by omega) (by omega)) (decide_eq_false (by omega))) ?_
      refine wz_i0 (Eq.trans (i3L c8 (rfl : i3 a1 = i3 a1) (by omega) (by omega) (by omega) (by omega)) (decide_eq_false (by omega))) ?_
      obtain ⟨Z2, hZ2⟩ := zx (zu Z 1 0 0 2 0)
      intro μ1 e1
      replace e1 := e1.trans (zm_wI (ν := ν) hZ2 rfl rfl rfl c0)
      subst e1
      have I2 := zI_0 hZ hZ2 (by decide) (.inr (by decide))
      have F2 : zFm Z2 := fun k i j hk => by
        by_cases e : k = 1 ∧ i = 0 ∧ j = 2
        · obtain ⟨rfl, rfl, rfl⟩ := e
          exact (zu_at hZ2).trans (by decide)
        · exact (zu_ne hZ2 (fun q => e ⟨q.1, q.2.2.1, q.2.2.2⟩)).trans (hF k i j hk)
      have loop : ∀ (s : Nat), 1 ≤ s → s ≤ 8 → (a1 = 0 ∨ a1 = s) → wz_loop qb_392_1 65536 (wz_sk gc_392_2 wz_k0 (fun μ2 o2 => ∃ Z1, μ2 = zm Z1 ν ∧ o2 = .inl (some (.inl (i3 1))) ∧ Z1 1 0 0 2 = 0)) (fun μ2 o2 => ∃ Z1, μ2 = zm Z1 ν ∧ o2 = .inl (some (.inl (i3 1))) ∧ Z1 1 0 0 2 = 0) ([some (.inr (.inr (some (1, 0, 0)))), some (.inl (i3 a1)), some (.inl (i3 1)), some (.inl (i3 (s : Int)))], [], zm Z2 ν) := by
        intro s hs1 hs8 hsa
        refine wz_lp sb_392_1 (fun m x => ∃ (Z' : qz_Z) (n : Nat), 1 ≤ n ∧ n + m = 9 ∧ qz_fg [true, true, true, true] x.1 = [some (.inr (.inr (some (1, 0, 0)))), some (.inl (i3 a1)), some (.inl (i3 1)), some (.inl (i3 (n : Int)))] ∧ x.2 = ([], zm Z' ν) ∧ (n ≤ 8 → a1 = 0 ∨ a1 = n → Z' = Z2) ∧ (a1 = 0 ∨ a1 = n ∨ a1 < n)) ?_ 65536 (9 - s) _ (by omega) ⟨Z2, s, hs1, by omega, rfl, rfl, fun _ _ => rfl, by omega⟩
        rintro m ⟨L, st, μ⟩ ⟨Z', n, hn1, hnm, hL, hx, hE, hA⟩
        cases hx
        refine fb_392_1 _ _ _ _ _ _ _ hL ?_
        -- out
        have out : gc_392_2 wz_k0 (fun μ2 o2 => ∃ Z1, μ2 = zm Z1 ν ∧ o2 = .inl (some (.inl (i3 1))) ∧ Z1 1 0 0 2 = 0) ([some (.inr (.inr (some (1, 0, 0)))), some (.inl (i3 a1)), some (.inl (i3 1)), some (.inl (i3 (n : Int)))], [], zm Z' ν) := by
          refine fc_392_2 (i3 1) _ _ _ _ rfl ?_
          intro μ2 e2
          obtain ⟨Z5, hZ5⟩ := zx (zu Z' 1 0 0 2 0)
          replace e2 := e2.trans (zm_wI (ν := ν) hZ5 rfl rfl rfl c0)
          subst e2
          exact wz_i1 (by decide) ⟨Z5, rfl, rfl, zu_at hZ5⟩
        refine wz_br (i3NE (rfl : i3 a1 = i3 a1) c0 (by omega) (by omega) (by omega) (by omega)) (fun q => ?_) (fun q => ?_)
        · refine wz_br (i3L (rfl : i3 a1 = i3 a1) (rfl : i3 (n : Int) = i3 (n : Int)) (by omega) (by omega) (by omega) (by omega)) (fun _ => wz_lk0 (wz_sk0 out)) (fun q2 => wz_i0 (by decide) ?_)
          have ez := hE (by omega) (by omega)
          subst ez
          obtain ⟨Z6, q6, h6⟩ := so_556 (ν := ν) I2 F2 hn1 (show n ≤ 8 by omega)
          refine wz_cI_of q6 (wz_i0 (by decide) (wz_k1 ⟨m - 1, by omega, Z6, n + 1, by omega, by omega, ?_, rfl, fun _ _ => by omega, by omega⟩))
          show [_, _, _, some (Sum.inl (i3 (n : Int) + 1))] = _
          rw [c1, i3_add]
          rfl
        · refine wz_br (i3L c8 (rfl : i3 (n : Int) = i3 (n : Int)) (by omega) (by omega) (by omega) (by omega)) (fun _ => wz_lk0 (wz_sk0 out)) (fun q2 => wz_i0 (by decide) ?_)
          have ez := hE (by omega) (by omega)
          subst ez
          obtain ⟨Z6, q6, h6⟩ := so_556 (ν := ν) I2 F2 hn1 (show n ≤ 8 by omega)
          refine wz_cI_of q6 (wz_i0 (by decide) (wz_k1 ⟨m - 1, by omega, Z6, n + 1, by omega, by omega, ?_, rfl, fun g _ => h6 (by omega), by omega⟩))
          show [_, _, _, some (Sum.inl (i3 (n : Int) + 1))] = _
          rw [c1, i3_add]
          rfl
      refine wz_br (i3NE (rfl : i3 a1 = i3 a1) c0 (by omega) (by omega) (by omega) (by omega)) (fun q => ?_) (fun q => ?_)
      · have := loop a (by omega) (by omega) (by omega)
        rw [ha1] at this
        exact this
      · exact loop 1 (by omega) (by omega) (by omega)
    obtain ⟨μ', o, e, Z1, rfl, rfl, hh⟩ := main
    exact ⟨Z1, _, _, rfl, e, hh⟩
  · rw [if_neg hO]
    obtain ⟨Z2, hZ2⟩ := zx (zu Z 1 0 0 2 1)
    refine ⟨Z2, _, _, rfl, wz_call_eq (fw_392 _ _ _ ?_), zu_at hZ2⟩
    have hn : wz_wr (qz_wI (zm Z ν) (1, 0, 0) 2 (1 : Int32)) (fun μ9 => μ9 = zm Z2 ν ∧ (.inl (some (.inl (0 : Int32))) : qz_Oc) = .inl (some (.inl (i3 0)))) := by
      intro μ9 e9
      exact ⟨e9.trans (zm_wI (Z := Z) (ν := ν) hZ2 rfl rfl rfl c1), rfl⟩
    refine wz_br (i3L (rfl : i3 a1 = i3 a1) c0 (by omega) (by omega) (by omega) (by omega)) (fun _ => hn) (fun h1 => ?_)
    exact wz_i1 (Eq.trans (i3L c8 (rfl : i3 a1 = i3 a1) (by omega) (by omega) (by omega) (by omega)) (decide_eq_true (by omega))) hn
theorem lc_62 {Z : qz_Z} {ν : qz_N} (h : zNew Z ν) (hR : zRf Z ν) {k : wz_K} {R : wz_R} (hk : ∀ Z3 ν3 v2 v4, zEnd ν3 → k 2 ([some (.inr (.inr (some (200, 0, 0)))), some (.inr (.inr (some (0, 0, 0)))), some (.inr (.inr (some (1, 0, 0)))), some (.inr (.inr (some (71, 0, 0)))), some (.inl (0 : Int32)), some (.inl v2), some (.inl v4), none], [], zm Z3 ν3)) : gx_62 k R (gx_L 0, [], zm Z ν) := by
  refine fk_62 0 (zm Z ν) k R ?_
  have st := zNew_S h
  refine wz_i1 (zS_t st) (wz_i0 (zS_o st (by decide)) ?_)
  have g1 := zI_f h.1 200 0 0 1
  have hsg := sg_212 h hR g1
  have lw : ∃ (Z2 : qz_Z) (ν2 : qz_N) (v E : Int), (v, E) = zg_212 (Z 200 0 0 1) ∧ qf_591 [.inr (.inr (some (0, 0, 0))), .inl (i3 (Z 200 0 0 1)), .inr (.inr (some (71, 0, 0)))] (zm Z ν) = some (zm Z2 ν2, .inl (some (.inl (i3 (tcL [(13, 1)] E))))) ∧ zW Z ν v E Z2 ν2 := by
    refine wrap_2 (hs := [(13, 1)]) (fun R hR => fv_591 _ _ R ?_) hsg (fun v E he => ?_) (by decide)
    · obtain ⟨μ', o, e, hh⟩ := hR
      obtain ⟨Z1, ν1, v, E, hP, hq, -⟩ := hsg
      refine ⟨μ', o, e, ?_⟩
      have e2 := Option.some.inj (hq.symm.trans e)
      unfold zg_212 at hP
      by_cases hO : 0 ≤ Z 200 0 0 1 ∧ Z 200 0 0 1 ≤ 8
      · rw [if_pos hO] at hP
        cases hP
        cases e2
        exact wz_i0 (by decide) hh
      · rw [if_neg hO] at hP
        cases hP
        cases e2
        exact hh
    · unfold zg_212 at he
      split at he <;> cases he
      · exact .inl rfl
      · exact .inr ⟨(13, 1), by decide, rfl⟩
  obtain ⟨Z2, ν2, v, E, hP, hq, hE0, st2, hs2⟩ := lw
  refine wz_cI_of hq ?_
  refine wz_i1 (zS_t st2) (wz_i0 (zS_o st2 (by decide)) ?_)
  obtain ⟨Z3, w, t, hP2, hq2, ht⟩ := sg_392 (ν := ν2) st2.1 st2.2.1 (zI_f st2.1 200 0 0 1)
  refine wz_cI_of hq2 ?_
  rw [hs2 1] at hP2
  unfold zg_212 at hP
  unfold zg_392 at hP2
  have hend : zEnd ν2 := zD_end st2 zD_r (by decide) (by decide)
  by_cases hO : 0 ≤ Z 200 0 0 1 ∧ Z 200 0 0 1 ≤ 8
  · rw [if_pos hO] at hP hP2
    cases hP
    cases hP2
    refine wz_i1 (decide_eq_true (show i3 (Z3 1 0 0 2) = i3 (tcL [(13, 1)] 0) by rw [ht]; rfl)) ?_
    refine wz_i0 (by decide) (wz_i0 (by decide) (wz_i1 (decide_eq_true ?_) (hk _ _ _ _ hend)))
    have e1 : qz_lm (zm Z3 ν2) 71 0 0 0 = (i3 1).toInt64 := hE0 rfl
    rw [e1]
    exact lg_self _
  · rw [if_neg hO] at hP hP2
    cases hP
    cases hP2
    refine wz_i1 (decide_eq_true (show i3 (Z3 1 0 0 2) = i3 (tcL [(13, 1)] 13) by rw [ht]; rfl)) ?_
    exact wz_i1 (by decide) (hk _ _ _ _ hend)
