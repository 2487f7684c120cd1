/-! specs by hand -/
def zl_133_1 : Nat → Int → Int → Int
  | 0, x1, _ => x1
  | m + 1, x1, x2 => if x2 ≤ 0 then x1 else zl_133_1 m (x1 + 1) (x2 / 10)
def zf_133 (_ : qz_Z) (a0 : Int) : Int := zl_133_1 11 0 a0
theorem sp_133 {s : zS} {Z : qz_Z} {ν : qz_N} (_ : zI s Z) {a0 : Int} (ga0 : -2147483648 ≤ a0 ∧ a0 ≤ 2147483647) : ∃ P : Int, P = zf_133 Z a0 ∧ (qf_133 [.inl (i3 a0)] (zm Z ν) = some (zm Z ν, .inl (some (.inl (i3 P)))) ∧ 0 ≤ P ∧ P ≤ 10) := by
  refine zc_R (Q := fun P => 0 ≤ P ∧ P ≤ 10) rfl (fw_133 (i3 a0) _ _ ?_)
  refine wz_lp sb_133_1 (fun m x => ∃ x1 x2 : Int, qz_fg [false, true, true] x.1 = [none, some (.inl (i3 x1)), some (.inl (i3 x2))] ∧ x.2 = ([], zm Z ν) ∧ x2 < 10 ^ m ∧ (-2147483648 ≤ x2 ∧ x2 ≤ 2147483647) ∧ 0 ≤ x1 ∧ x1 + m ≤ 10 ∧ zE (zf_133 Z a0) (zl_133_1 (m + 1) x1 x2)) ?_ 65536 10 _ (by omega) ⟨0, a0, rfl, rfl, ?_, ga0, by omega, by omega, rfl⟩
  · rintro m ⟨L, st, μ⟩ ⟨x1, x2, hL, hx, hm, g2, g1, g3, hP⟩
    cases hx
    refine fb_133_1 (i3 x1) (i3 x2) _ _ _ _ hL ?_
    refine wz_br (i3Le (rfl : i3 x2 = i3 x2) (show (0 : Int32) = i3 0 from rfl) (by omega) (by omega) (by omega) (by omega)) (fun h1 => ?_) (fun h1 => ?_)
    · replace hP := zE_p hP h1
      refine wz_lk0 (wz_sk0 (fc_133_2 (i3 x1) _ _ _ [none, some (.inl (i3 x1)), some (.inl (i3 x2))] rfl ?_))
      exact zlR hP rfl ⟨by omega, by omega⟩
    · replace hP := zE_n hP h1
      rcases m with _ | m
      · exfalso
        have e0 : (10 : Int) ^ 0 = 1 := rfl
        omega
      · have e1 := Int.pow_succ (10 : Int) m
        refine wz_k1 ⟨m, by omega, x1 + 1, x2 / 10, ?_, rfl, by omega, by omega, by omega, by omega, hP⟩
        exact zconso rfl (zconso (zvo (i3A rfl (show (1 : Int32) = i3 1 from rfl))) (zconso (zvo (i3D (rfl : i3 x2 = i3 x2) (show (10 : Int32) = i3 10 from rfl) (by omega) (by omega) (by omega) (by omega))) rfl))
  · have e0 : (10 : Int) ^ 10 = 10000000000 := rfl
    omega
/-! A NEW OBJECT: what stands there. -/
def frs (j : Int) : Int := if 1300 ≤ j ∧ j < 1328 then 18 else if 3210 ≤ j ∧ j < 3246 then 3 else if j = 3201 then 2 else if j = 3810 then 50 else if j = 3811 then 120 else if j = 3812 then 400 else if j = 3813 then 2500 else 0
def frz (k : Nat) (i j : Int) : Int := match k with
  | 2 => if i = 0 then frs j else 0
  | 11 => if i = 0 ∧ j = 14 then 2 else if i = 0 ∧ j = 16 then -1 else 0
  | 12 => if i = 0 ∧ 0 ≤ j ∧ j < 28 then 18 else 0
  | 13 => if i = 0 then (if j = 0 then 50 else if j = 1 then 120 else if j = 2 then 400 else if j = 3 then 2500 else 0) else 0
  | 40 => if 0 ≤ i ∧ i < 6 ∧ 0 ≤ j ∧ j < 6 then (if i = j then 0 else 3) else 0
  | _ => 0
def frk (k : Nat) : Bool := [1, 2, 3, 4, 11, 12, 13, 14, 65, 66, 68].contains k || (Nat.ble 40 k && Nat.ble k 54) || (Nat.ble 81 k && Nat.ble k 113)
def frp (k : Nat) (j : Int) : Bool := frk k && (![3, 61, 68].contains k && !(Nat.beq k 11 && (decide (j = 15) || decide (j = 16))))
def zF (Z : qz_Z) : Prop := ∀ k i j, frk k = true → Z k 0 i j = frz k i j
def zFp (Z : qz_Z) : Prop := ∀ k i j, frp k j = true → Z k 0 i j = frz k i j
/-- the reference's part -/
def frm (k : Nat) : Bool := [1, 2].contains k || (Nat.ble 81 k && Nat.ble k 113)
def zFm (Z : qz_Z) : Prop := ∀ k i j, frm k = true → Z k 0 i j = frz k i j
theorem frz_r (k : Nat) (i j : Int) : -1 ≤ frz k i j ∧ frz k i j ≤ 2500 := by
  unfold frz frs
  split <;> (repeat' split) <;> omega
theorem frz_12 {j : Int} (h0 : 0 ≤ j) (h1 : j < 28) : frz 12 0 j = 18 := if_pos ⟨rfl, h0, h1⟩
/-! checks -/
section CH
variable {a n m c : Int32} {x y z : Int} {Z : qz_Z} {ν : qz_N} {kv : qz_M → Prop} {ke : qz_M → Nat → Prop}
theorem wz_thing_y (p : a = i3 x) (q : n = i3 y) (h1 : -2147483648 ≤ x) (h2 : x ≤ 2147483647) (h3 : -2147483648 ≤ y) (h4 : y ≤ 2147483647) (h : 0 ≤ x ∧ x < y) (k : kv (zm Z ν)) : wz_cV qf_249 [.inl a, .inl n] (zm Z ν) kv ke := by
  subst p q
  refine wz_cV_of (sp_thing_y ?_ ?_) k
  · rw [show (0 : Int32) = i3 0 from rfl, i3_le ⟨by omega, by omega⟩ ⟨h1, by omega⟩]; exact h.1
  · rw [i3_lt ⟨h1, by omega⟩ ⟨h3, by omega⟩]; exact h.2
theorem wz_thing_n (p : a = i3 x) (q : n = i3 y) (h1 : -2147483648 ≤ x) (h2 : x ≤ 2147483647) (h3 : -2147483648 ≤ y) (h4 : y ≤ 2147483647) (h : ¬ (0 ≤ x ∧ x < y)) (k : ke (qz_kk (zm Z ν) 1 6) 24) : wz_cV qf_249 [.inl a, .inl n] (zm Z ν) kv ke := by
  subst p q
  refine wz_cV_E (sp_thing_n ?_) k
  rw [show (0 : Int32) = i3 0 from rfl, i3_le ⟨by omega, by omega⟩ ⟨h1, by omega⟩, i3_lt ⟨h1, by omega⟩ ⟨h3, by omega⟩]; exact h
theorem wz_thing (p : a = i3 x) (q : n = i3 y) (h1 : -2147483648 ≤ x) (h2 : x ≤ 2147483647) (h3 : -2147483648 ≤ y) (h4 : y ≤ 2147483647) (k1 : 0 ≤ x ∧ x < y → kv (zm Z ν)) (k2 : ¬ (0 ≤ x ∧ x < y) → ke (qz_kk (zm Z ν) 1 6) 24) : wz_cV qf_249 [.inl a, .inl n] (zm Z ν) kv ke := by
  by_cases h : 0 ≤ x ∧ x < y
  · exact wz_thing_y p q h1 h2 h3 h4 h (k1 h)
  · exact wz_thing_n p q h1 h2 h3 h4 h (k2 h)
theorem wz_inR_y (p : a = i3 x) (q : n = i3 y) (r : m = i3 z) (h1 : -2147483648 ≤ x) (h2 : x ≤ 2147483647) (h3 : -2147483648 ≤ y) (h4 : y ≤ 2147483647) (h5 : -2147483648 ≤ z) (h6 : z ≤ 2147483647) (h : y ≤ x ∧ x ≤ z) (k : kv (zm Z ν)) : wz_cV qf_208 [.inl a, .inl n, .inl m] (zm Z ν) kv ke := by
  subst p q r
  refine wz_cV_of (sp_inRange_y ?_ ?_) k
  · rw [i3_le ⟨h3, by omega⟩ ⟨h1, by omega⟩]; exact h.1
  · rw [i3_le ⟨h1, by omega⟩ ⟨h5, by omega⟩]; exact h.2
theorem wz_inR_n (p : a = i3 x) (q : n = i3 y) (r : m = i3 z) (h1 : -2147483648 ≤ x) (h2 : x ≤ 2147483647) (h3 : -2147483648 ≤ y) (h4 : y ≤ 2147483647) (h5 : -2147483648 ≤ z) (h6 : z ≤ 2147483647) (h : ¬ (y ≤ x ∧ x ≤ z)) (k : ke (qz_kk (zm Z ν) 1 6) 13) : wz_cV qf_208 [.inl a, .inl n, .inl m] (zm Z ν) kv ke := by
  subst p q r
  refine wz_cV_E (sp_inRange_n ?_) k
  rw [i3_le ⟨h3, by omega⟩ ⟨h1, by omega⟩, i3_le ⟨h1, by omega⟩ ⟨h5, by omega⟩]; exact h
theorem wz_inR (p : a = i3 x) (q : n = i3 y) (r : m = i3 z) (h1 : -2147483648 ≤ x) (h2 : x ≤ 2147483647) (h3 : -2147483648 ≤ y) (h4 : y ≤ 2147483647) (h5 : -2147483648 ≤ z) (h6 : z ≤ 2147483647) (k1 : y ≤ x ∧ x ≤ z → kv (zm Z ν)) (k2 : ¬ (y ≤ x ∧ x ≤ z) → ke (qz_kk (zm Z ν) 1 6) 13) : wz_cV qf_208 [.inl a, .inl n, .inl m] (zm Z ν) kv ke := by
  by_cases h : y ≤ x ∧ x ≤ z
  · exact wz_inR_y p q r h1 h2 h3 h4 h5 h6 h (k1 h)
  · exact wz_inR_n p q r h1 h2 h3 h4 h5 h6 h (k2 h)
theorem wz_inT_y (p : c = i3 x) (h1 : -2147483648 ≤ x) (h2 : x ≤ 2147483647) (h : x ≠ 0) (k : kv (zm Z ν)) : wz_cV qf_209 [.inl c] (zm Z ν) kv ke := by
  subst p
  refine wz_cV_of (sp_inTime_y (fun q => h ?_)) k
  rw [show (0 : Int32) = i3 0 from rfl, i3_eq ⟨h1, by omega⟩ ⟨by omega, by omega⟩] at q
  exact q
theorem wz_inT_n (p : c = i3 x) (h1 : -2147483648 ≤ x) (h2 : x ≤ 2147483647) (h : ¬ x ≠ 0) (k : ke (qz_kk (zm Z ν) 1 6) 15) : wz_cV qf_209 [.inl c] (zm Z ν) kv ke := by
  have : x = 0 := by omega
  subst this
  subst p
  exact wz_cV_E sp_inTime_n k
theorem wz_inT (p : c = i3 x) (h1 : -2147483648 ≤ x) (h2 : x ≤ 2147483647) (k1 : x ≠ 0 → kv (zm Z ν)) (k2 : ¬ x ≠ 0 → ke (qz_kk (zm Z ν) 1 6) 15) : wz_cV qf_209 [.inl c] (zm Z ν) kv ke := by
  by_cases h : x ≠ 0
  · exact wz_inT_y p h1 h2 h (k1 h)
  · exact wz_inT_n p h1 h2 h (k2 h)
end CH
/-- a loop that is left at once -/
theorem wz_l0 {F : qz_F} {G : wz_W} {k : wz_K} {R : wz_R} {x : qz_X} (hS : wz_S G F) (h : G (wz_lk k (fun _ => False)) R x) : wz_loop F 65536 k R x := by
  show wz_loop F (65535 + 1) k R x
  obtain ⟨e, e1, h⟩ := hS _ _ _ h
  match e, e1, h with
  | .inl (0, x'), e1, h =>
    refine ⟨.inl (0, x'), ?_, h⟩
    unfold qn_l
    rw [e1]
    rfl
  | .inl (1, x'), e1, h => exact h.elim
  | .inl (n + 2, x'), e1, h =>
    refine ⟨.inl (n + 1, x'), ?_, h⟩
    unfold qn_l
    rw [e1]
    rfl
  | .inr r, e1, h =>
    refine ⟨.inr r, ?_, h⟩
    unfold qn_l
    rw [e1]
    rfl
/-! a hall copied -/
def zhk (k : Nat) (i j : Int) : Bool := decide (0 ≤ i) && (decide (0 ≤ j) && qz_hk k i.toNat j.toNat)
def zcp (Z : qz_Z) (b0 b1 : Int) : qz_Z := fun k b i j => if b = b1 ∧ zhk k i j = true then Z k b0 i j else Z k b i j
theorem zcp_m {Z : qz_Z} {ν : qz_N} {b0 b1 : Nat} : qz_cpS (zm Z ν) b0 b1 qz_hk = zm (zcp Z b0 b1) ν := by
  refine Prod.ext (funext fun k => funext fun b => funext fun i => funext fun j => ?_) rfl
  show (if b = b1 ∧ qz_hk k i j = true then i3 (Z k b0 i j) else i3 (Z k b i j)) = i3 (if (b : Int) = b1 ∧ zhk k i j = true then Z k b0 i j else Z k b i j)
  have e : zhk k i j = qz_hk k i j := by
    unfold zhk
    rw [decide_eq_true (by omega), decide_eq_true (by omega), Bool.true_and, Bool.true_and, Int.toNat_natCast, Int.toNat_natCast]
  rw [e]
  by_cases h : b = b1 ∧ qz_hk k i j = true
  · rw [if_pos h, if_pos ⟨by rw [h.1], h.2⟩]
  · rw [if_neg h, if_neg (fun q => h ⟨by have := q.1; omega, q.2⟩)]
theorem qz_hk_k {k i j : Nat} (h : qz_hk k i j = true) : [11, 12, 13, 14, 40, 41, 42, 43, 44, 45, 46, 47, 48, 49, 50, 51, 52, 53, 54].contains k = true := by
  unfold qz_hk at h
  simp only [Bool.or_eq_true, Bool.and_eq_true, Bool.false_eq_true, false_or] at h
  have hq : ∀ m : Nat, Nat.beq k m = true → k = m := fun m q => Nat.eq_of_beq_eq_true q
  rcases h with (((((((((((((((((h | h) | h) | h) | h) | h) | h) | h) | h) | h) | h) | h) | h) | h) | h) | h) | h) | h) | h
  all_goals (rw [hq _ h.1]; decide)
theorem sp_cp {s : zS} {Z : qz_Z} {ν : qz_N} (hZ : zI s Z) (b0 b1 : Nat) (hb : b0 ≠ b1) : ∃ Z1 : qz_Z, Z1 = zcp Z b0 b1 ∧ (qf_111 [.inr (.inr (some (10, b1, 0))), .inr (.inr (some (10, b0, 0)))] (zm Z ν) = some (zm Z1 ν, .inl none) ∧ zI s Z1 ∧ zK [11, 12, 13, 14, 40, 41, 42, 43, 44, 45, 46, 47, 48, 49, 50, 51, 52, 53, 54] Z Z1 ∧ ∀ k b i j, b ≠ (b1 : Int) → Z1 k b i j = Z k b i j) := by
  refine ⟨_, rfl, (sp_copy b0 b1 (zm Z ν) hb).trans (by rw [zcp_m]), ⟨fun k b i j hk => ?_, fun k b i j => ?_, fun n hn => ?_, fun hn => ?_⟩, fun k hk b i j => if_neg (fun q => ?_), fun k b i j hb => if_neg (fun q => hb q.1)⟩
  · show (zr k j).1 ≤ (if _ then Z k b0 i j else Z k b i j) ∧ (if _ then Z k b0 i j else Z k b i j) ≤ (zr k j).2
    split
    · exact hZ.1 _ _ _ _ hk
    · exact hZ.1 _ _ _ _ hk
  · show -2147483648 ≤ (if _ then Z k b0 i j else Z k b i j) ∧ (if _ then Z k b0 i j else Z k b i j) ≤ 2147483647
    split
    · exact hZ.2.1 _ _ _ _
    · exact hZ.2.1 _ _ _ _
  · have e : ∀ j, zcp Z b0 b1 200 n 0 j = Z 200 n 0 j := fun j => if_neg (fun q => by
      have q2 := q.2
      unfold zhk at q2
      rw [Bool.and_eq_true, Bool.and_eq_true] at q2
      exact absurd (qz_hk_k q2.2.2) (by decide))
    rw [e, e]; exact hZ.2.2.1 n hn
  · have e : zcp Z b0 b1 1 0 0 35 = Z 1 0 0 35 := if_neg (fun q => by
      have q2 := q.2
      unfold zhk at q2
      rw [Bool.and_eq_true, Bool.and_eq_true] at q2
      exact absurd (qz_hk_k q2.2.2) (by decide))
    rw [e]; exact hZ.2.2.2 hn
  · have q2 := q.2
    unfold zhk at q2
    rw [Bool.and_eq_true, Bool.and_eq_true] at q2
    rw [qz_hk_k q2.2.2] at hk
    cases hk
/-- a row of kind 61 written -/
def zrw (Z : qz_Z) (n : Int) (c : Nat → Int32) : qz_Z := fun k b i j => if k = 61 ∧ b = 0 ∧ i = n then (c j.toNat).toInt else Z k b i j
theorem zm_wC {Z : qz_Z} {ν : qz_N} {i : Nat} {c : Nat → Int32} : qz_wC (zm Z ν) (61, 0, i) c = zm (zrw Z i c) ν := by
  refine Prod.ext (funext fun k => funext fun b => funext fun i' => funext fun j => ?_) rfl
  show (if k = 61 ∧ b = 0 ∧ i' = i then c else fun j => i3 (Z k b i' j)) j = i3 (if k = 61 ∧ (b : Int) = 0 ∧ (i' : Int) = i then (c (j : Int).toNat).toInt else Z k b i' j)
  by_cases h : k = 61 ∧ b = 0 ∧ i' = i
  · rw [if_pos h, if_pos ⟨h.1, by omega, by omega⟩, Int.toNat_natCast]; exact i3_of _
  · rw [if_neg h, if_neg (fun q => h ⟨q.1, by omega, by omega⟩)]
theorem zI_rw {s : zS} {Z : qz_Z} {n : Int} {c : Nat → Int32} (h : zI s Z) : zI s (zrw Z n c) := by
  have hr : ∀ x : Int32, -2147483648 ≤ x.toInt ∧ x.toInt ≤ 2147483647 := fun x => ⟨Int32.le_toInt x, by have := Int32.toInt_lt x; omega⟩
  refine ⟨fun k b i j hk => ?_, fun k b i j => ?_, fun m hm => ?_, fun hm => ?_⟩
  · show (zr k j).1 ≤ (if _ then (c j.toNat).toInt else Z k b i j) ∧ (if _ then (c j.toNat).toInt else Z k b i j) ≤ (zr k j).2
    by_cases q : k = 61 ∧ b = 0 ∧ i = n
    · rw [if_pos q, q.1]; exact hr _
    · rw [if_neg q]; exact h.1 _ _ _ _ hk
  · show -2147483648 ≤ (if _ then (c j.toNat).toInt else Z k b i j) ∧ (if _ then (c j.toNat).toInt else Z k b i j) ≤ 2147483647
    split
    · exact hr _
    · exact h.2.1 _ _ _ _
  · have e : ∀ j, zrw Z n c 200 m 0 j = Z 200 m 0 j := fun j => if_neg (fun q => absurd q.1 (by decide))
    rw [e, e]; exact h.2.2.1 m hm
  · have e : zrw Z n c 1 0 0 35 = Z 1 0 0 35 := if_neg (fun q => absurd q.1 (by decide))
    rw [e]; exact h.2.2.2 hm
theorem zK_rw {Z0 Z : qz_Z} {ws : List Nat} {n : Int} {c : Nat → Int32} (h : zK ws Z0 Z) (hw : ws.contains 61 = true) : zK ws Z0 (zrw Z n c) := fun k hk b i j => by
  rw [← h k hk b i j]
  exact if_neg (fun q => by rw [q.1, hw] at hk; cases hk)
theorem dc_J {f : qz_Fn} {as bs : List qz_V} {μ : qz_M} {kv : qz_M → Int32 → Prop} {ke : qz_M → Nat → Prop} (h : as = bs) (g : wz_cI f bs μ kv ke) : wz_cI f as μ kv ke := by rw [h]; exact g
theorem frp_s {k : Nat} {j : Int} (h : (frk k && ![3, 61, 68, 11].contains k) = true) : frp k j = true := by
  rw [Bool.and_eq_true] at h
  obtain ⟨h1, h2⟩ := h
  have h3 : ¬ (k = 3 ∨ k = 61 ∨ k = 68 ∨ k = 11) := by
    intro q
    rcases q with rfl | rfl | rfl | rfl <;> revert h2 <;> decide
  unfold frp
  rw [h1, Bool.true_and]
  have h4 : [3, 61, 68].contains k = false := by
    cases hc : [3, 61, 68].contains k
    · rfl
    · have := List.contains_iff_mem.mp hc
      simp only [List.mem_cons, List.not_mem_nil, or_false] at this
      exact absurd (by omega) h3
  have h5 : Nat.beq k 11 = false := by
    cases hc : Nat.beq k 11
    · rfl
    · exact absurd (Nat.eq_of_beq_eq_true hc) (fun q => h3 (by omega))
  rw [h4, h5]
  rfl
