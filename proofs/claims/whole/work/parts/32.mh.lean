/-! THE REFERENCE, by hand: rows that are kept and brought back; a lot that goes. -/
/-- n numbers of a row from s0 on into another one, from its place d on -/
def zpq (Z : qz_Z) (k : Nat) (b i s0 : Int) (k1 : Nat) (b1 i1 d n : Int) : qz_Z := fun k' b' i' j' => if k' = k1 ∧ b' = b1 ∧ i' = i1 ∧ d ≤ j' ∧ j' < d + n then Z k b i (j' - d + s0) else Z k' b' i' j'
def zf_351 (Z : qz_Z) (a1 : Int) : qz_Z := zpq Z 2 0 0 0 81 0 0 (4400 * a1) 4400
theorem sp_351 {s : zSM} {Z : qz_Z} {ν : qz_N} (hZ : zM s Z) {a1 : Int} (ga1 : 0 ≤ a1 ∧ a1 ≤ 1) (hM : s.2 + 0 ≤ 1000000000) : ∃ P : qz_Z, P = zf_351 Z a1 ∧ (qf_351 [.inr (.inr (some (1, 0, 0))), .inl (i3 a1)] (zm Z ν) = some (zm P ν, .inl none) ∧ zM s P ∧ zC [81] Z P ∧ zU [] Z P) := by sorry
def zf_493 (Z : qz_Z) (a1 : Int) : qz_Z := zpq Z 81 0 0 (4400 * a1) 2 0 0 0 4400
theorem sp_493 {s : zSM} {Z : qz_Z} {ν : qz_N} (hZ : zM s Z) {a1 : Int} (ga1 : 0 ≤ a1 ∧ a1 ≤ 1) (hM : s.2 + 0 ≤ 1000000000) : ∃ P : qz_Z, P = zf_493 Z a1 ∧ (qf_493 [.inr (.inr (some (1, 0, 0))), .inl (i3 a1)] (zm Z ν) = some (zm P ν, .inl none) ∧ zM s P ∧ zC [2, 1200] Z P ∧ zU [] Z P) := by sorry
/-- the lot at a place goes, those behind it move up, the last one is nothing -/
def zf_312 (Z : qz_Z) (a1 a2 : Int) : qz_Z := fun k b i j => if k = 2 ∧ b = 0 ∧ i = 0 then (if j = 3015 + 60 * a1 then Z 2 0 0 (3015 + 60 * a1) - 1 else if 3022 + 60 * a1 + 3 * a2 ≤ j ∧ j < 3022 + 60 * a1 + 3 * (Z 2 0 0 (3015 + 60 * a1) - 1) then Z 2 0 0 (j + 3) else if 3022 + 60 * a1 + 3 * (Z 2 0 0 (3015 + 60 * a1) - 1) ≤ j ∧ j < 3025 + 60 * a1 + 3 * (Z 2 0 0 (3015 + 60 * a1) - 1) then 0 else Z 2 0 0 j) else Z k b i j
theorem sp_312 {s : zSM} {Z : qz_Z} {ν : qz_N} (hZ : zM s Z) {a1 : Int} (ga1 : 0 ≤ a1 ∧ a1 ≤ 1) {a2 : Int} (ga2 : 0 ≤ a2 ∧ a2 ≤ 11) (hM : s.2 + 0 ≤ 1000000000) : ∃ P : qz_Z, P = zf_312 Z a1 a2 ∧ (qf_312 [.inr (.inr (some (1, 0, 0))), .inl (i3 a1), .inl (i3 a2)] (zm Z ν) = some (zm P ν, .inl none) ∧ zM s P ∧ zC [2] Z P ∧ zU [] Z P) := by sorry
