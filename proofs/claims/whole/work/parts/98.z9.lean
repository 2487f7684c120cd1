/-! TASKS of the reference: a task that was read is done (551). -/
theorem sd_338 {s : zSM} {Z : qz_Z} {ν : qz_N} (hZ : zM s Z) (gq : Z 1 0 0 35 = 1) (hM : s.2 + 123 ≤ 1000000000) {a1 : Int} (ga1 : -2147483648 ≤ a1 ∧ a1 ≤ 2147483647) : (∃ v : Int, qf_338 [.inr (.inr (some (1, 0, 0))), .inl (i3 a1)] (zm Z ν) = some (zm (zy_338 Z zq0 a1).1 ν, .inl (some (.inl (i3 v))))) ∧ zM (zb s 123) (zy_338 Z zq0 a1).1 ∧ zC [1, 2] Z (zy_338 Z zq0 a1).1 := by
  obtain ⟨Z1, ν2, v, e1, e2, e3, m, k, _⟩ := sq_338 (ν := ν) (ν1 := ν) hZ gq (by omega) ga1
  have eZ : Z1 = (zy_338 Z zq0 a1).1 := congrArg Prod.fst e1
  have eν : ν2 = ν := by rcases e2 with e | e <;> exact e
  rw [eν, eZ] at e3
  rw [eZ] at m k
  exact ⟨⟨v, e3⟩, zmw m (by omega), k⟩
theorem sd_499 {s : zSM} {Z : qz_Z} {ν : qz_N} (hZ : zM s Z) (gq : Z 1 0 0 35 = 1) (hM : s.2 + 123 ≤ 1000000000) {a1 a2 : Int} (ga1 : -2147483648 ≤ a1 ∧ a1 ≤ 2147483647) (ga2 : -2147483648 ≤ a2 ∧ a2 ≤ 2147483647) : (∃ v : Int, qf_499 [.inr (.inr (some (1, 0, 0))), .inl (i3 a1), .inl (i3 a2)] (zm Z ν) = some (zm (zy_499 Z zq0 a1 a2).1 ν, .inl (some (.inl (i3 v))))) ∧ zM (zb s 123) (zy_499 Z zq0 a1 a2).1 ∧ zC [1, 2] Z (zy_499 Z zq0 a1 a2).1 := by
  obtain ⟨Z1, ν2, v, e1, e2, e3, m, k, _⟩ := sq_499 (ν := ν) (ν1 := ν) hZ gq (by omega) ga1 ga2
  have eZ : Z1 = (zy_499 Z zq0 a1 a2).1 := congrArg Prod.fst e1
  have eν : ν2 = ν := by rcases e2 with e | e <;> exact e
  rw [eν, eZ] at e3
  rw [eZ] at m k
  exact ⟨⟨v, e3⟩, zmw (zm0 m) (by omega), k⟩
theorem sd_426 {s : zSM} {Z : qz_Z} {ν : qz_N} (hZ : zM s Z) (gq : Z 1 0 0 35 = 1) (hM : s.2 + 123 ≤ 1000000000) {a1 a2 : Int} (ga1 : -2147483648 ≤ a1 ∧ a1 ≤ 2147483647) (ga2 : -2147483648 ≤ a2 ∧ a2 ≤ 2147483647) : (∃ v : Int, qf_426 [.inr (.inr (some (1, 0, 0))), .inl (i3 a1), .inl (i3 a2)] (zm Z ν) = some (zm (zy_426 Z zq0 a1 a2).1 ν, .inl (some (.inl (i3 v))))) ∧ zM (zb s 123) (zy_426 Z zq0 a1 a2).1 ∧ zC [1, 2] Z (zy_426 Z zq0 a1 a2).1 := by
  obtain ⟨Z1, ν2, v, e1, e2, e3, m, k, _⟩ := sq_426 (ν := ν) (ν1 := ν) hZ gq (by omega) ga1 ga2
  have eZ : Z1 = (zy_426 Z zq0 a1 a2).1 := congrArg Prod.fst e1
  have eν : ν2 = ν := by rcases e2 with e | e <;> exact e
  rw [eν, eZ] at e3
  rw [eZ] at m k
  exact ⟨⟨v, e3⟩, zmw m (by omega), k⟩
theorem sd_453 {s : zSM} {Z : qz_Z} {ν : qz_N} (hZ : zM s Z) (gq : Z 1 0 0 35 = 1) (hM : s.2 + 123 ≤ 1000000000) {a1 a2 : Int} (ga1 : -2147483648 ≤ a1 ∧ a1 ≤ 2147483647) (ga2 : -2147483648 ≤ a2 ∧ a2 ≤ 2147483647) : (∃ v : Int, qf_453 [.inr (.inr (some (1, 0, 0))), .inl (i3 a1), .inl (i3 a2)] (zm Z ν) = some (zm (zy_453 Z zq0 a1 a2).1 ν, .inl (some (.inl (i3 v))))) ∧ zM (zb s 123) (zy_453 Z zq0 a1 a2).1 ∧ zC [1, 2] Z (zy_453 Z zq0 a1 a2).1 := by
  obtain ⟨Z1, ν2, v, e1, e2, e3, m, k, _⟩ := sq_453 (ν := ν) (ν1 := ν) hZ gq (by omega) ga1 ga2
  have eZ : Z1 = (zy_453 Z zq0 a1 a2).1 := congrArg Prod.fst e1
  have eν : ν2 = ν := by rcases e2 with e | e <;> exact e
  rw [eν, eZ] at e3
  rw [eZ] at m k
  exact ⟨⟨v, e3⟩, zmw m (by omega), k⟩
theorem sd_459 {s : zSM} {Z : qz_Z} {ν : qz_N} (hZ : zM s Z) (gq : Z 1 0 0 35 = 1) (hM : s.2 + 123 ≤ 1000000000) {a1 a2 a3 a4 : Int} (ga1 : -2147483648 ≤ a1 ∧ a1 ≤ 2147483647) (ga2 : -2147483648 ≤ a2 ∧ a2 ≤ 2147483647) (ga3 : -2147483648 ≤ a3 ∧ a3 ≤ 2147483647) (ga4 : -2147483648 ≤ a4 ∧ a4 ≤ 2147483647) : (∃ v : Int, qf_459 [.inr (.inr (some (1, 0, 0))), .inl (i3 a1), .inl (i3 a2), .inl (i3 a3), .inl (i3 a4)] (zm Z ν) = some (zm (zy_459 Z zq0 a1 a2 a3 a4).1 ν, .inl (some (.inl (i3 v))))) ∧ zM (zb s 123) (zy_459 Z zq0 a1 a2 a3 a4).1 ∧ zC [1, 2] Z (zy_459 Z zq0 a1 a2 a3 a4).1 := by
  obtain ⟨Z1, ν2, v, e1, e2, e3, m, k, _⟩ := sq_459 (ν := ν) (ν1 := ν) hZ gq (by omega) ga1 ga2 ga3 ga4
  have eZ : Z1 = (zy_459 Z zq0 a1 a2 a3 a4).1 := congrArg Prod.fst e1
  have eν : ν2 = ν := by rcases e2 with e | e <;> exact e
  rw [eν, eZ] at e3
  rw [eZ] at m k
  exact ⟨⟨v, e3⟩, zmw (zm0 m) (by omega), k⟩
theorem sd_546 {s : zSM} {Z : qz_Z} {ν : qz_N} (hZ : zM s Z) (gq : Z 1 0 0 35 = 1) (hM : s.2 + 123 ≤ 1000000000) {a1 : Int} (ga1 : -2147483648 ≤ a1 ∧ a1 ≤ 2147483647) : (∃ v : Int, qf_546 [.inr (.inr (some (1, 0, 0))), .inl (i3 a1)] (zm Z ν) = some (zm (zy_546 Z zq0 a1).1 ν, .inl (some (.inl (i3 v))))) ∧ zM (zb s 123) (zy_546 Z zq0 a1).1 ∧ zC [1, 2] Z (zy_546 Z zq0 a1).1 := by
  obtain ⟨Z1, ν2, v, e1, e2, e3, m, k, _⟩ := sq_546 (ν := ν) (ν1 := ν) hZ gq (by omega) ga1
  have eZ : Z1 = (zy_546 Z zq0 a1).1 := congrArg Prod.fst e1
  have eν : ν2 = ν := by rcases e2 with e | e <;> exact e
  rw [eν, eZ] at e3
  rw [eZ] at m k
  exact ⟨⟨v, e3⟩, zmw (zm0 m) (by omega), k⟩
theorem sd_315 {s : zSM} {Z : qz_Z} {ν : qz_N} (hZ : zM s Z) (gq : Z 1 0 0 35 = 1) (hM : s.2 + 123 ≤ 1000000000) {a1 : Int} (ga1 : -2147483648 ≤ a1 ∧ a1 ≤ 2147483647) : (∃ v : Int, qf_315 [.inr (.inr (some (1, 0, 0))), .inl (i3 a1)] (zm Z ν) = some (zm (zy_315 Z zq0 a1).1 ν, .inl (some (.inl (i3 v))))) ∧ zM (zb s 123) (zy_315 Z zq0 a1).1 ∧ zC [1, 2] Z (zy_315 Z zq0 a1).1 := by
  obtain ⟨Z1, ν2, v, e1, e2, e3, m, k, _⟩ := sq_315 (ν := ν) (ν1 := ν) hZ gq (by omega) ga1
  have eZ : Z1 = (zy_315 Z zq0 a1).1 := congrArg Prod.fst e1
  have eν : ν2 = ν := by rcases e2 with e | e <;> exact e
  rw [eν, eZ] at e3
  rw [eZ] at m k
  exact ⟨⟨v, e3⟩, zmw (zm0 m) (by omega), k⟩
/-- a task of letter l, with what was told -/
def yDo (Z : qz_Z) (l : Int) : qz_Z := if l = 100 then (zy_338 Z zq0 (Z 113 0 0 0)).1 else if l = 103 then (zy_499 Z zq0 (Z 113 0 0 0) (Z 113 0 0 1)).1 else if l = 108 then (zy_426 Z zq0 (Z 113 0 0 0) (Z 113 0 0 1)).1 else if l = 112 then (zy_453 Z zq0 (Z 113 0 0 0) (Z 113 0 0 1)).1 else if l = 113 then (zy_459 Z zq0 (Z 113 0 0 0) (Z 113 0 0 1) (Z 113 0 0 2) (Z 113 0 0 3)).1 else if l = 119 then (zy_546 Z zq0 (Z 113 0 0 0)).1 else (zy_315 Z zq0 (Z 113 0 0 0)).1
theorem yDo_m {s : zSM} {Z : qz_Z} {l : Int} (ν : qz_N) (hZ : zM s Z) (gq : Z 1 0 0 35 = 1) (hM : s.2 + 123 ≤ 1000000000) : zM (zb s 123) (yDo Z l) ∧ zC [1, 2] Z (yDo Z l) := by
  have rg := hZ.1.1.2.1
  unfold yDo
  by_cases c100 : l = 100
  · rw [if_pos c100]
    exact (sd_338 (ν := ν) hZ gq hM (rg _ _ _ _)).2
  rw [if_neg c100]
  by_cases c103 : l = 103
  · rw [if_pos c103]
    exact (sd_499 (ν := ν) hZ gq hM (rg _ _ _ _) (rg _ _ _ _)).2
  rw [if_neg c103]
  by_cases c108 : l = 108
  · rw [if_pos c108]
    exact (sd_426 (ν := ν) hZ gq hM (rg _ _ _ _) (rg _ _ _ _)).2
  rw [if_neg c108]
  by_cases c112 : l = 112
  · rw [if_pos c112]
    exact (sd_453 (ν := ν) hZ gq hM (rg _ _ _ _) (rg _ _ _ _)).2
  rw [if_neg c112]
  by_cases c113 : l = 113
  · rw [if_pos c113]
    exact (sd_459 (ν := ν) hZ gq hM (rg _ _ _ _) (rg _ _ _ _) (rg _ _ _ _) (rg _ _ _ _)).2
  rw [if_neg c113]
  by_cases c119 : l = 119
  · rw [if_pos c119]
    exact (sd_546 (ν := ν) hZ gq hM (rg _ _ _ _)).2
  rw [if_neg c119]
  exact (sd_315 (ν := ν) hZ gq hM (rg _ _ _ _)).2
set_option maxRecDepth 20000 in
theorem sp_551 {s : zSM} {Z : qz_Z} {ν : qz_N} {l : Int} (hZ : zM s Z) (gq : Z 1 0 0 35 = 1) (hM : s.2 + 123 ≤ 1000000000) (hl : -2147483648 ≤ l ∧ l ≤ 2147483647) : qf_551 [.inr (.inr (some (1, 0, 0))), .inl (i3 l)] (zm Z ν) = some (zm (yDo Z l) ν, .inl none) := by
  have rg := hZ.1.1.2.1
  have el : (i3 l).toInt = l := i3_toInt ⟨by omega, by omega⟩
  have t0 : (zm Z ν).1 113 0 0 0 = i3 (Z 113 0 0 0) := zm_f (j' := 0) rfl rfl
  have t1 : (zm Z ν).1 113 0 0 1 = i3 (Z 113 0 0 1) := zm_f (j' := 1) rfl rfl
  have t2 : (zm Z ν).1 113 0 0 2 = i3 (Z 113 0 0 2) := zm_f (j' := 2) rfl rfl
  have t3 : (zm Z ν).1 113 0 0 3 = i3 (Z 113 0 0 3) := zm_f (j' := 3) rfl rfl
  have f338 : l = 100 → wz_cI qf_338 [.inr (.inr (some (1, 0, 0))), .inl (qz_im (zm Z ν) 113 0 0 0)] (zm Z ν) (fun μ1 v2 => (μ1 = zm (yDo Z l) ν ∧ (.inl none : qz_Oc) = .inl none)) (fun μ1 e => (μ1 = zm (yDo Z l) ν ∧ (.inr e : qz_Oc) = .inl none)) := fun h => by
    obtain ⟨⟨v, e3⟩, _⟩ := sd_338 (ν := ν) hZ gq hM (rg _ _ _ _)
    have ey : yDo Z l = (zy_338 Z zq0 (Z 113 0 0 0)).1 := by unfold yDo; rw [if_pos h]
    rw [ey]
    exact wz_cI_of (zas (zcons rfl (zcons (zvi t0) rfl)) e3) ⟨rfl, rfl⟩
  have f499 : l = 103 → wz_cI qf_499 [.inr (.inr (some (1, 0, 0))), .inl (qz_im (zm Z ν) 113 0 0 0), .inl (qz_im (zm Z ν) 113 0 0 1)] (zm Z ν) (fun μ1 v2 => (μ1 = zm (yDo Z l) ν ∧ (.inl none : qz_Oc) = .inl none)) (fun μ1 e => (μ1 = zm (yDo Z l) ν ∧ (.inr e : qz_Oc) = .inl none)) := fun h => by
    obtain ⟨⟨v, e3⟩, _⟩ := sd_499 (ν := ν) hZ gq hM (rg _ _ _ _) (rg _ _ _ _)
    have ey : yDo Z l = (zy_499 Z zq0 (Z 113 0 0 0) (Z 113 0 0 1)).1 := by unfold yDo; rw [if_neg (by omega), if_pos h]
    rw [ey]
    exact wz_cI_of (zas (zcons rfl (zcons (zvi t0) (zcons (zvi t1) rfl))) e3) ⟨rfl, rfl⟩
  have f426 : l = 108 → wz_cI qf_426 [.inr (.inr (some (1, 0, 0))), .inl (qz_im (zm Z ν) 113 0 0 0), .inl (qz_im (zm Z ν) 113 0 0 1)] (zm Z ν) (fun μ1 v2 => (μ1 = zm (yDo Z l) ν ∧ (.inl none : qz_Oc) = .inl none)) (fun μ1 e => (μ1 = zm (yDo Z l) ν ∧ (.inr e : qz_Oc) = .inl none)) := fun h => by
    obtain ⟨⟨v, e3⟩, _⟩ := sd_426 (ν := ν) hZ gq hM (rg _ _ _ _) (rg _ _ _ _)
    have ey : yDo Z l = (zy_426 Z zq0 (Z 113 0 0 0) (Z 113 0 0 1)).1 := by unfold yDo; rw [if_neg (by omega), if_neg (by omega), if_pos h]
    rw [ey]
    exact wz_cI_of (zas (zcons rfl (zcons (zvi t0) (zcons (zvi t1) rfl))) e3) ⟨rfl, rfl⟩
  have f453 : l = 112 → wz_cI qf_453 [.inr (.inr (some (1, 0, 0))), .inl (qz_im (zm Z ν) 113 0 0 0), .inl (qz_im (zm Z ν) 113 0 0 1)] (zm Z ν) (fun μ1 v2 => (μ1 = zm (yDo Z l) ν ∧ (.inl none : qz_Oc) = .inl none)) (fun μ1 e => (μ1 = zm (yDo Z l) ν ∧ (.inr e : qz_Oc) = .inl none)) := fun h => by
    obtain ⟨⟨v, e3⟩, _⟩ := sd_453 (ν := ν) hZ gq hM (rg _ _ _ _) (rg _ _ _ _)
    have ey : yDo Z l = (zy_453 Z zq0 (Z 113 0 0 0) (Z 113 0 0 1)).1 := by unfold yDo; rw [if_neg (by omega), if_neg (by omega), if_neg (by omega), if_pos h]
    rw [ey]
    exact wz_cI_of (zas (zcons rfl (zcons (zvi t0) (zcons (zvi t1) rfl))) e3) ⟨rfl, rfl⟩
  have f459 : l = 113 → wz_cI qf_459 [.inr (.inr (some (1, 0, 0))), .inl (qz_im (zm Z ν) 113 0 0 0), .inl (qz_im (zm Z ν) 113 0 0 1), .inl (qz_im (zm Z ν) 113 0 0 2), .inl (qz_im (zm Z ν) 113 0 0 3)] (zm Z ν) (fun μ1 v2 => (μ1 = zm (yDo Z l) ν ∧ (.inl none : qz_Oc) = .inl none)) (fun μ1 e => (μ1 = zm (yDo Z l) ν ∧ (.inr e : qz_Oc) = .inl none)) := fun h => by
    obtain ⟨⟨v, e3⟩, _⟩ := sd_459 (ν := ν) hZ gq hM (rg _ _ _ _) (rg _ _ _ _) (rg _ _ _ _) (rg _ _ _ _)
    have ey : yDo Z l = (zy_459 Z zq0 (Z 113 0 0 0) (Z 113 0 0 1) (Z 113 0 0 2) (Z 113 0 0 3)).1 := by unfold yDo; rw [if_neg (by omega), if_neg (by omega), if_neg (by omega), if_neg (by omega), if_pos h]
    rw [ey]
    exact wz_cI_of (zas (zcons rfl (zcons (zvi t0) (zcons (zvi t1) (zcons (zvi t2) (zcons (zvi t3) rfl))))) e3) ⟨rfl, rfl⟩
  have f546 : l = 119 → wz_cI qf_546 [.inr (.inr (some (1, 0, 0))), .inl (qz_im (zm Z ν) 113 0 0 0)] (zm Z ν) (fun μ1 v2 => (μ1 = zm (yDo Z l) ν ∧ (.inl none : qz_Oc) = .inl none)) (fun μ1 e => (μ1 = zm (yDo Z l) ν ∧ (.inr e : qz_Oc) = .inl none)) := fun h => by
    obtain ⟨⟨v, e3⟩, _⟩ := sd_546 (ν := ν) hZ gq hM (rg _ _ _ _)
    have ey : yDo Z l = (zy_546 Z zq0 (Z 113 0 0 0)).1 := by unfold yDo; rw [if_neg (by omega), if_neg (by omega), if_neg (by omega), if_neg (by omega), if_neg (by omega), if_pos h]
    rw [ey]
    exact wz_cI_of (zas (zcons rfl (zcons (zvi t0) rfl)) e3) ⟨rfl, rfl⟩
  have f315 : (¬ l = 100 ∧ ¬ l = 103 ∧ ¬ l = 108 ∧ ¬ l = 112 ∧ ¬ l = 113 ∧ ¬ l = 119) → wz_cI qf_315 [.inr (.inr (some (1, 0, 0))), .inl (qz_im (zm Z ν) 113 0 0 0)] (zm Z ν) (fun μ1 v2 => (μ1 = zm (yDo Z l) ν ∧ (.inl none : qz_Oc) = .inl none)) (fun μ1 e => (μ1 = zm (yDo Z l) ν ∧ (.inr e : qz_Oc) = .inl none)) := fun h => by
    obtain ⟨⟨v, e3⟩, _⟩ := sd_315 (ν := ν) hZ gq hM (rg _ _ _ _)
    have ey : yDo Z l = (zy_315 Z zq0 (Z 113 0 0 0)).1 := by unfold yDo; rw [if_neg h.1, if_neg h.2.1, if_neg h.2.2.1, if_neg h.2.2.2.1, if_neg h.2.2.2.2.1, if_neg h.2.2.2.2.2]
    rw [ey]
    exact wz_cI_of (zas (zcons rfl (zcons (zvi t0) rfl)) e3) ⟨rfl, rfl⟩
  refine wz_call_eq (fw_551 (i3 l) _ _ ?_)
  rw [el]
  have eor : (decide (l < 100) || decide (119 < l)) = decide (l < 100 ∨ 119 < l) := by
    by_cases h1 : l < 100
    · simp [h1]
    · simp [h1]
  refine wz_br eor (fun q => f315 (by omega)) (fun q => ?_)
  refine wz_br rfl (fun q100 => f338 q100) (fun q100 => ?_)
  refine wz_br rfl (fun q101 => f315 (by omega)) (fun q101 => ?_)
  refine wz_br rfl (fun q102 => f315 (by omega)) (fun q102 => ?_)
  refine wz_br rfl (fun q103 => f499 q103) (fun q103 => ?_)
  refine wz_br rfl (fun q104 => f315 (by omega)) (fun q104 => ?_)
  refine wz_br rfl (fun q105 => f315 (by omega)) (fun q105 => ?_)
  refine wz_br rfl (fun q106 => f315 (by omega)) (fun q106 => ?_)
  refine wz_br rfl (fun q107 => f315 (by omega)) (fun q107 => ?_)
  refine wz_br rfl (fun q108 => f426 q108) (fun q108 => ?_)
  refine wz_br rfl (fun q109 => f315 (by omega)) (fun q109 => ?_)
  refine wz_br rfl (fun q110 => f315 (by omega)) (fun q110 => ?_)
  refine wz_br rfl (fun q111 => f315 (by omega)) (fun q111 => ?_)
  refine wz_br rfl (fun q112 => f453 q112) (fun q112 => ?_)
  refine wz_br rfl (fun q113 => f459 q113) (fun q113 => ?_)
  refine wz_br rfl (fun q114 => f315 (by omega)) (fun q114 => ?_)
  refine wz_br rfl (fun q115 => f315 (by omega)) (fun q115 => ?_)
  refine wz_br rfl (fun q116 => f315 (by omega)) (fun q116 => ?_)
  refine wz_br rfl (fun q117 => f315 (by omega)) (fun q117 => ?_)
  refine wz_br rfl (fun q118 => f315 (by omega)) (fun q118 => ?_)
  refine wz_br rfl (fun q119 => f546 q119) (fun q119 => ?_)
  exact absurd q (by omega)
