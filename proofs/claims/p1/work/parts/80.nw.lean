/-! FROM THE CONSTRUCTORS TO A NEW OBJECT. -/
def nwZ (xs : Nat → Int32) : qz_Z := fun k b i j => if k = 200 then (if b = 0 ∧ i = 0 ∧ 0 ≤ j then (xs j.toNat).toInt else 0) else frz k i j
def nwN (L : Nat) : qz_N := (fun _ _ _ _ => 0, fun k _ _ j => if k = 200 then none else lk_0 j, fun n => if n = 0 then (60, 1, L) else (0, 0, 0), 1, 5234, 127732)
theorem nw_I (L : Nat) (xs : Nat → Int32) : zI none (nwZ xs) := by
  have hx : ∀ x : Int32, -2147483648 ≤ x.toInt ∧ x.toInt ≤ 2147483647 := fun x => ⟨Int32.le_toInt x, by have := Int32.toInt_lt x; omega⟩
  have key : ∀ k (i j : Int), (zr k j).1 ≤ frz k i j ∧ frz k i j ≤ (zr k j).2 := by
    intro k i j
    have h0 := zr_0 k j
    unfold frz
    split
    · split
      · unfold frs
        repeat' split
        · rename_i h; rw [zs_1300 h.1 h.2]; decide
        · rename_i h; rw [zs_3210 h.1 h.2]; decide
        · rename_i h; subst h; decide
        · rename_i h; subst h; decide
        · rename_i h; subst h; decide
        · rename_i h; subst h; decide
        · rename_i h; subst h; decide
        · exact h0
      · exact h0
    · repeat' split
      · rename_i h; rw [h.2]; decide
      · rename_i h; rw [h.2]; decide
      · exact h0
    · split
      · rename_i h; rw [zrc_12 h.2.1 h.2.2]; decide
      · exact h0
    · repeat' split
      · rename_i h; subst h; decide
      · rename_i h; subst h; decide
      · rename_i h; subst h; decide
      · rename_i h; subst h; decide
      · exact h0
      · exact h0
    · repeat' split
      · exact h0
      · rename_i h _; rw [zrc_40 h.2.2.1 h.2.2.2]; decide
      · exact h0
    · exact h0
  refine ⟨fun k b i j hk => ?_, fun k b i j => ?_, fun n hn => (by cases hn), fun hn => (by cases hn)⟩
  · have e : nwZ xs k b i j = frz k i j := if_neg hk
    rw [e]
    exact key k i j
  · by_cases hk : k = 200
    · have e : nwZ xs k b i j = if b = 0 ∧ i = 0 ∧ 0 ≤ j then (xs j.toNat).toInt else 0 := if_pos hk
      rw [e]
      split
      · exact hx _
      · decide
    · have e : nwZ xs k b i j = frz k i j := if_neg hk
      have := frz_r k i j
      omega
theorem nw_new (xs : Nat → Int32) : zNew (nwZ xs) (nwN 7) := by
  refine ⟨nw_I 7 xs, fun k i j hk => if_neg (fun q => by subst q; cases hk), ⟨rfl, Nat.le_refl _⟩, rfl, by decide, by decide⟩
/-! the memory is that -/
def nw_c (k b : Nat) : Bool := match mh_h (qz_fm k b - 2) with
  | some a => Nat.beq (qz_fm k b - 2 - a) (if k = 10 then 0 else if k < 15 then k - 10 else if k < 40 then 2 * (k - 20) + 6 else 2 * (k - 40) + 5)
  | none => (!Nat.ble 10 k || !Nat.ble k 54) && Nat.beq 0 0
theorem nw_c1 : ((List.range 114).all (fun k => (List.range (qz_nbs.getD k 0)).all (fun b => nw_c k b && (Nat.beq (qz_fm k b - 2) 541 == Nat.beq k 2)))) = true := by decide +kernel
theorem nw_h (q i j : Nat) : hx_I q i j = if q = 1 then (if i = 0 ∧ j = 14 then 2 else if i = 0 ∧ j = 16 then -1 else 0) else if q = 2 then (if i = 0 ∧ j < 28 then 18 else 0) else if q = 3 then (if i = 0 ∧ j < 4 then hl_T j else 0) else if q = 5 then (if i < 6 ∧ j < 6 then (if i = j then 0 else 3) else 0) else 0 := by
  unfold hx_I
  by_cases h0 : q = 0
  · subst h0; rfl
  · rw [if_neg h0]
    unfold hl_I
    match q, h0 with
    | 1, _ => simp
    | 2, _ =>
      show (if i = 0 ∧ j < 28 ∧ 7 + j ≤ 70 then (18 : Int32) else 0) = if i = 0 ∧ j < 28 then 18 else 0
      by_cases c : i = 0 ∧ j < 28
      · rw [if_pos c, if_pos ⟨c.1, c.2, by omega⟩]
      · rw [if_neg c, if_neg (fun z => c ⟨z.1, z.2.1⟩)]
    | 3, _ =>
      show (if i = 0 ∧ j < 4 ∧ j + 1 ≤ 70 then hl_T j else 0) = if i = 0 ∧ j < 4 then hl_T j else 0
      by_cases c : i = 0 ∧ j < 4
      · rw [if_pos c, if_pos ⟨c.1, c.2, by omega⟩]
      · rw [if_neg c, if_neg (fun z => c ⟨z.1, z.2.1⟩)]
    | 4, _ => rfl
    | 5, _ =>
      show (if i < 6 ∧ j < 6 ∧ 35 + 6 * i + j ≤ 70 then (if i = j then (0 : Int32) else 3) else 0) = if i < 6 ∧ j < 6 then (if i = j then 0 else 3) else 0
      by_cases c : i < 6 ∧ j < 6
      · rw [if_pos c, if_pos ⟨c.1, c.2, by omega⟩]
      · rw [if_neg c, if_neg (fun z => c ⟨z.1, z.2.1⟩)]
    | n + 6, _ => rfl
theorem nw_mo (j : Nat) : mo_s j = i3 (frs j) := by
  unfold mo_s frs ge_r
  dsimp only
  repeat' split
  all_goals first | rfl | omega
/-- the value of a place that stands -/
theorem nw_v {L : Nat} {xs : Nat → Int32} {μ : qz_M} {c s : Nat} (h : ge L xs mo_s μ 576 mo_l c s) {k b i : Nat} (hk : k ≠ 200) (hb : b < qz_nbs.getD k 0) (j : Nat) : (lk_m μ).1 k b i j = i3 (nwZ xs k b i j) := by
  have hk1 := lk_a1 hb
  have a2 := hk1.2
  unfold lk_1 at a2
  rw [Bool.and_eq_true, Bool.and_eq_true] at a2
  have g1 : 3 ≤ qz_fm k b := Nat.le_of_ble_eq_true a2.1
  have g2 : qz_fm k b < 578 := Nat.le_of_ble_eq_true a2.2.1
  have hc := List.all_eq_true.mp (List.all_eq_true.mp nw_c1 k (List.mem_range.mpr hk1.1)) b (List.mem_range.mpr hb)
  rw [Bool.and_eq_true] at hc
  have e1 : (lk_m μ).1 k b i j = qz_im μ 200 (qz_fm k b - 2) i j := if_neg hk
  have e2 := (h.2.1 (qz_fm k b - 2) (by omega)).2.2.1 i j
  have e3 : nwZ xs k b i j = frz k i j := if_neg hk
  rw [e1, e2, e3]
  have hm : qz_fm k b - 2 = 541 ↔ k = 2 := by
    have := eq_of_beq hc.2
    refine ⟨fun q => ?_, fun q => ?_⟩
    · rw [q] at this; exact Nat.eq_of_beq_eq_true (this.symm.trans (Nat.beq_refl _))
    · subst q; exact Nat.eq_of_beq_eq_true (this.trans (Nat.beq_refl _))
  show (if qz_fm k b - 2 = 541 ∧ i = 0 then mo_s j else mh_I xs (qz_fm k b - 2) i j) = _
  by_cases h2 : k = 2
  · have h541 := hm.mpr h2
    subst h2
    by_cases hi : i = 0
    · rw [if_pos ⟨h541, hi⟩, nw_mo]
      subst hi
      exact congrArg i3 (if_pos rfl : (if ((0 : Nat) : Int) = 0 then frs j else 0) = frs j).symm
    · rw [if_neg (fun q => hi q.2)]
      have hb0 : b = 0 := by
        have : b < 1 := hb
        omega
      subst hb0
      have e4 : mh_I xs (qz_fm 2 0 - 2) i j = 0 := by
        have hh : mh_h (qz_fm 2 0 - 2) = none := by decide
        unfold mh_I
        rw [hh]
        exact if_neg (fun q => absurd q.1 (by decide))
      rw [e4]
      exact congrArg i3 (if_neg (fun q => hi (by omega)) : (if (i : Int) = 0 then frs j else 0) = 0).symm
  · rw [if_neg (fun q => h2 (hm.mp q.1))]
    unfold mh_I
    have hcc := hc.1
    unfold nw_c at hcc
    revert hcc
    cases hh : mh_h (qz_fm k b - 2) with
    | none =>
      intro hcc
      have e5 : (if qz_fm k b - 2 = 0 ∧ i = 0 then xs j else 0) = 0 := if_neg (fun q => by have := q.1; omega)
      show (if qz_fm k b - 2 = 0 ∧ i = 0 then xs j else 0) = _
      rw [e5]
      have hr : ¬ (10 ≤ k ∧ k ≤ 54) := by
        intro q
        have hcc : ((!Nat.ble 10 k || !Nat.ble k 54) && Nat.beq 0 0) = true := hcc
        rw [Nat.ble_eq_true_of_le q.1, Nat.ble_eq_true_of_le q.2] at hcc
        cases hcc
      unfold frz
      split <;> first | (exfalso; omega) | rfl
    | some a =>
      intro hcc
      have hcc := Nat.eq_of_beq_eq_true hcc
      show hx_I (qz_fm k b - 2 - a) i j = _
      rw [hcc, nw_h]
      generalize hQ : (if k = 10 then 0 else if k < 15 then k - 10 else if k < 40 then 2 * (k - 20) + 6 else 2 * (k - 40) + 5) = Q
      have q1 : Q = 1 ↔ k = 11 := by rw [← hQ]; (repeat' split) <;> omega
      have q2 : Q = 2 ↔ k = 12 := by rw [← hQ]; (repeat' split) <;> omega
      have q3 : Q = 3 ↔ k = 13 := by rw [← hQ]; (repeat' split) <;> omega
      have q5 : Q = 5 ↔ k = 40 := by rw [← hQ]; (repeat' split) <;> omega
      by_cases k1 : k = 11
      · rw [if_pos (q1.mpr k1)]
        subst k1
        show _ = i3 (if (i : Int) = 0 ∧ (j : Int) = 14 then 2 else if (i : Int) = 0 ∧ (j : Int) = 16 then -1 else 0)
        (repeat' split) <;> first | rfl | (exfalso; omega)
      rw [if_neg (fun q => k1 (q1.mp q))]
      by_cases k2 : k = 12
      · rw [if_pos (q2.mpr k2)]
        subst k2
        show _ = i3 (if (i : Int) = 0 ∧ 0 ≤ (j : Int) ∧ (j : Int) < 28 then 18 else 0)
        (repeat' split) <;> first | rfl | (exfalso; omega)
      rw [if_neg (fun q => k2 (q2.mp q))]
      by_cases k3 : k = 13
      · rw [if_pos (q3.mpr k3)]
        subst k3
        show _ = i3 (if (i : Int) = 0 then (if (j : Int) = 0 then 50 else if (j : Int) = 1 then 120 else if (j : Int) = 2 then 400 else if (j : Int) = 3 then 2500 else 0) else 0)
        by_cases hi : i = 0
        · subst hi
          rw [if_pos (show ((0 : Nat) : Int) = 0 from rfl)]
          by_cases hj : j < 4
          · rw [if_pos ⟨rfl, hj⟩]
            have : j = 0 ∨ j = 1 ∨ j = 2 ∨ j = 3 := by omega
            rcases this with rfl | rfl | rfl | rfl <;> rfl
          · rw [if_neg (fun q => hj q.2), if_neg (by omega), if_neg (by omega), if_neg (by omega), if_neg (by omega)]
            rfl
        · rw [if_neg (fun q => hi q.1), if_neg (by omega)]
          rfl
      rw [if_neg (fun q => k3 (q3.mp q))]
      by_cases k5 : k = 40
      · rw [if_pos (q5.mpr k5)]
        subst k5
        show _ = i3 (if 0 ≤ (i : Int) ∧ (i : Int) < 6 ∧ 0 ≤ (j : Int) ∧ (j : Int) < 6 then (if (i : Int) = j then 0 else 3) else 0)
        (repeat' split) <;> first | rfl | (exfalso; omega)
      rw [if_neg (fun q => k5 (q5.mp q))]
      unfold frz
      split <;> first | rfl | (exfalso; omega)
