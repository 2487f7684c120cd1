/-! A HALL COPIED. -/
/-- n rows of w numbers of a table of hall b go into hall b' -/
def qz_cpT (μ : qz_M) (k b b' n w : Nat) : qz_M := ((fun k' b2 i j => if k' = k ∧ b2 = b' ∧ i < n ∧ j < w then μ.1 k b i j else μ.1 k' b2 i j), μ.2)
theorem qz_cpT_0 {μ : qz_M} {k b b' w : Nat} : qz_cpT μ k b b' 0 w = μ := by
  refine Prod.ext (funext fun k' => funext fun b2 => funext fun i => funext fun j => ?_) rfl
  exact if_neg (fun q => Nat.not_lt_zero _ q.2.2.1)
theorem qz_cpT_s {μ : qz_M} {k b b' i w : Nat} (hb : b ≠ b') : qz_wC (qz_cpT μ k b b' i w) (k, b', i) (va_cpy (qz_im (qz_cpT μ k b b' i w) k b i) (qz_im (qz_cpT μ k b b' i w) k b' i) 0 0 w) = qz_cpT μ k b b' (i + 1) w := by
  refine Prod.ext (funext fun k' => funext fun b2 => funext fun i' => funext fun j => ?_) rfl
  show (if k' = k ∧ b2 = b' ∧ i' = i then va_cpy (qz_im (qz_cpT μ k b b' i w) k b i) (qz_im (qz_cpT μ k b b' i w) k b' i) 0 0 w else (qz_cpT μ k b b' i w).1 k' b2 i') j = if k' = k ∧ b2 = b' ∧ i' < i + 1 ∧ j < w then μ.1 k b i' j else μ.1 k' b2 i' j
  by_cases h : k' = k ∧ b2 = b' ∧ i' = i
  · obtain ⟨rfl, rfl, rfl⟩ := h
    rw [if_pos ⟨rfl, rfl, rfl⟩]
    unfold va_cpy
    have e1 : qz_im (qz_cpT μ k' b b2 i' w) k' b i' (0 + (j - 0)) = μ.1 k' b i' j := by
      rw [Nat.sub_zero, Nat.zero_add]
      exact if_neg (fun q => hb q.2.1)
    have e2 : qz_im (qz_cpT μ k' b b2 i' w) k' b2 i' j = μ.1 k' b2 i' j := if_neg (fun q => Nat.lt_irrefl _ q.2.2.1)
    by_cases hj : j < w
    · rw [if_pos ⟨Nat.zero_le _, by omega⟩, if_pos ⟨rfl, rfl, Nat.lt_succ_self _, hj⟩, e1]
    · rw [if_neg (fun q => hj (by have := q.2; omega)), if_neg (fun q => hj q.2.2.2), e2]
  · rw [if_neg h]
    show (if k' = k ∧ b2 = b' ∧ i' < i ∧ j < w then μ.1 k b i' j else μ.1 k' b2 i' j) = _
    by_cases h2 : k' = k ∧ b2 = b' ∧ i' < i ∧ j < w
    · rw [if_pos h2, if_pos ⟨h2.1, h2.2.1, Nat.lt_succ_of_lt h2.2.2.1, h2.2.2.2⟩]
    · rw [if_neg h2, if_neg]
      rintro ⟨q1, q2, q3, q4⟩
      rcases Nat.lt_succ_iff_lt_or_eq.mp q3 with q | q
      · exact h2 ⟨q1, q2, q, q4⟩
      · exact h ⟨q1, q2, q⟩
/-- what is known of tables: their kinds -/
theorem qz_tbl {μ : qz_M} {k b j : Nat} (h1 : 20 ≤ k) (h2 : k ≤ 34) : (qz_tag μ (k, b, 0) = 53 ∧ qz_len μ (k, b, 0) = qz_lns.getD k 0) ∧ (∀ i, qz_tag μ (k + 20, b, i) = 50 ∧ qz_len μ (k + 20, b, i) = qz_lns.getD (k + 20) 0) ∧ qz_rf μ (k, b, 0) j = some (k + 20, b, j) ∧ qz_lns.getD k 0 < 60000 ∧ qz_lns.getD (k + 20) 0 < 60000 := by
  have h : k = 20 ∨ k = 21 ∨ k = 22 ∨ k = 23 ∨ k = 24 ∨ k = 25 ∨ k = 26 ∨ k = 27 ∨ k = 28 ∨ k = 29 ∨ k = 30 ∨ k = 31 ∨ k = 32 ∨ k = 33 ∨ k = 34 := by omega
  rcases h with rfl | rfl | rfl | rfl | rfl | rfl | rfl | rfl | rfl | rfl | rfl | rfl | rfl | rfl | rfl
  all_goals exact ⟨⟨rfl, rfl⟩, fun _ => ⟨rfl, rfl⟩, rfl, by decide, by decide⟩
theorem sp_copyRows (k b b' : Nat) (μ : qz_M) (h1 : 20 ≤ k) (h2 : k ≤ 34) (hb : b ≠ b') :
    qf_113 [.inr (.inr (some (k, b, 0))), .inr (.inr (some (k, b', 0)))] μ = some (qz_cpT μ (k + 20) b b' (qz_lns.getD k 0) (qz_lns.getD (k + 20) 0), .inl none) := by
  refine wz_call_eq (fw_113 (k, b, 0) (k, b', 0) μ _ ?_)
  have hN : qz_lns.getD k 0 < 60000 := (qz_tbl (μ := μ) (b := b) (j := 0) h1 h2).2.2.2.1
  have hW : qz_lns.getD (k + 20) 0 < 60000 := (qz_tbl (μ := μ) (b := b) (j := 0) h1 h2).2.2.2.2
  have e0 : μ = qz_cpT μ (k + 20) b b' 0 (qz_lns.getD (k + 20) 0) := qz_cpT_0.symm
  have main := wz_up (k := wz_sk gc_113_2 wz_k0 (fun μ2 o2 => μ2 = qz_cpT μ (k + 20) b b' (qz_lns.getD k 0) (qz_lns.getD (k + 20) 0) ∧ o2 = .inl none)) (R := fun μ2 o2 => μ2 = qz_cpT μ (k + 20) b b' (qz_lns.getD k 0) (qz_lns.getD (k + 20) 0) ∧ o2 = .inl none) sb_113_1 [true, true, true] (qz_lns.getD k 0) (by omega)
    (fun i => [some (.inr (.inr (some (k, b, 0)))), some (.inr (.inr (some (k, b', 0)))), some (.inl (i3 i))]) (fun i => qz_cpT μ (k + 20) b b' i (qz_lns.getD (k + 20) 0)) ?_ ?_ (L := [some (.inr (.inr (some (k, b, 0)))), some (.inr (.inr (some (k, b', 0)))), some (.inl (0 : Int32))]) rfl
  · rw [← e0] at main
    exact main
  · intro i hi L hL I hI
    refine fb_113_1 (k, b, 0) (k, b', 0) (i3 i) _ _ _ L hL ?_
    obtain ⟨⟨t1, l1⟩, t2, r1, -, -⟩ := qz_tbl (μ := qz_cpT μ (k + 20) b b' i (qz_lns.getD (k + 20) 0)) (b := b) (j := i) h1 h2
    obtain ⟨⟨t3, l3⟩, t4, r3, -, -⟩ := qz_tbl (μ := qz_cpT μ (k + 20) b b' i (qz_lns.getD (k + 20) 0)) (b := b') (j := i) h1 h2
    rw [t1, t3, l1, l3]
    have hle : decide (Int32.ofNat (qz_lns.getD k 0) ≤ i3 i) = false := by
      rw [i3_ofNat, i3_decle ⟨by omega, by omega⟩ ⟨by omega, by omega⟩]
      exact decide_eq_false (by omega)
    rw [hle, i3_out (by omega) (by omega) (by omega), i3_nat (by omega) (by omega), Int.toNat_natCast]
    show wz_rk _ _
    rw [r1]
    show wz_rk _ _
    rw [r3]
    refine wz_i1 (by rw [(t2 i).1]; rfl) (wz_i1 (by rw [(t4 i).1]; rfl) (wz_i1 (by rw [(t2 i).1, (t4 i).1]; rfl) ?_))
    rw [(t2 i).2, (t4 i).2]
    obtain ⟨m1, m2, m3⟩ := cr_min (n0 := qz_lns.getD (k + 20) 0) (n1 := qz_lns.getD (k + 20) 0) (by omega) (by omega)
    rw [m1, m2, Nat.min_self] at *
    refine ⟨⟨by decide, by decide, m3, ?_, ?_⟩, fun μ9 e9 => ?_⟩
    · exact Nat.le_of_eq (Nat.zero_add _)
    · exact Nat.le_of_eq (Nat.zero_add _)
    replace e9 := e9.trans (qz_cpT_s hb)
    subst e9
    refine hI _ ?_
    show ([_, _, some (.inl (i3 i + 1))] : qz_L) = [_, _, some (.inl (i3 ((i + 1 : Nat) : Int)))]
    rw [show (1 : Int32) = i3 1 from rfl, i3_add]
    rfl
  · intro L hL I
    refine fb_113_1 (k, b, 0) (k, b', 0) (i3 (qz_lns.getD k 0)) _ _ _ L hL ?_
    obtain ⟨⟨t1, l1⟩, t2, r1, -, -⟩ := qz_tbl (μ := qz_cpT μ (k + 20) b b' (qz_lns.getD k 0) (qz_lns.getD (k + 20) 0)) (b := b) (j := 0) h1 h2
    rw [t1, l1]
    have hle : decide (Int32.ofNat (qz_lns.getD k 0) ≤ i3 (qz_lns.getD k 0)) = true := by
      rw [i3_ofNat, i3_decle ⟨by omega, by omega⟩ ⟨by omega, by omega⟩]
      exact decide_eq_true (Int.le_refl _)
    rw [hle]
    refine wz_i1 rfl (wz_i1 rfl ?_)
    rw [wz_lk_0, wz_sk_0]
    exact fc_113_2 _ _ _ _ rfl ⟨rfl, rfl⟩
/-- what of hall b0 went into hall b1: the places that P names -/
def qz_cpS (μ : qz_M) (b0 b1 : Nat) (P : Nat → Nat → Nat → Bool) : qz_M := ((fun k b i j => if b = b1 ∧ P k i j = true then μ.1 k b0 i j else μ.1 k b i j), μ.2)
theorem qz_cpS_0 {μ : qz_M} {b0 b1 : Nat} : qz_cpS μ b0 b1 (fun _ _ _ => false) = μ := by
  refine Prod.ext (funext fun k' => funext fun b2 => funext fun i => funext fun j => ?_) rfl
  exact if_neg (fun q => by cases q.2)
theorem qz_cpS_T {μ : qz_M} {b0 b1 k n w : Nat} {P : Nat → Nat → Nat → Bool} (hb : b0 ≠ b1) : qz_cpT (qz_cpS μ b0 b1 P) k b0 b1 n w = qz_cpS μ b0 b1 (fun k' i j => P k' i j || (Nat.beq k' k && (Nat.blt i n && Nat.blt j w))) := by
  refine Prod.ext (funext fun k' => funext fun b2 => funext fun i => funext fun j => ?_) rfl
  show (if k' = k ∧ b2 = b1 ∧ i < n ∧ j < w then (qz_cpS μ b0 b1 P).1 k b0 i j else (qz_cpS μ b0 b1 P).1 k' b2 i j) = if b2 = b1 ∧ (P k' i j || (Nat.beq k' k && (Nat.blt i n && Nat.blt j w))) = true then μ.1 k' b0 i j else μ.1 k' b2 i j
  have e0 : ∀ k, (qz_cpS μ b0 b1 P).1 k b0 i j = μ.1 k b0 i j := fun k => if_neg (fun q => hb q.1)
  by_cases h : k' = k ∧ b2 = b1 ∧ i < n ∧ j < w
  · obtain ⟨rfl, rfl, h3, h4⟩ := h
    rw [if_pos ⟨rfl, rfl, h3, h4⟩, e0, if_pos]
    refine ⟨rfl, ?_⟩
    rw [Nat.beq_refl, show Nat.blt i n = true from Nat.ble_eq_true_of_le h3, show Nat.blt j w = true from Nat.ble_eq_true_of_le h4]
    cases P k' i j <;> rfl
  · rw [if_neg h]
    show (if b2 = b1 ∧ P k' i j = true then μ.1 k' b0 i j else μ.1 k' b2 i j) = _
    by_cases h2 : b2 = b1
    · have hq : (Nat.beq k' k && (Nat.blt i n && Nat.blt j w)) = false := by
        cases hc : (Nat.beq k' k && (Nat.blt i n && Nat.blt j w))
        · rfl
        · rw [Bool.and_eq_true, Bool.and_eq_true] at hc
          exact absurd ⟨Nat.eq_of_beq_eq_true hc.1, h2, Nat.le_of_ble_eq_true hc.2.1, Nat.le_of_ble_eq_true hc.2.2⟩ h
      rw [hq, Bool.or_false]
    · rw [if_neg (fun q => h2 q.1), if_neg (fun q => h2 q.1)]
theorem qz_cpS_C {μ : qz_M} {b0 b1 k w : Nat} {P : Nat → Nat → Nat → Bool} (hb : b0 ≠ b1) : qz_wC (qz_cpS μ b0 b1 P) (k, b1, 0) (va_cpy (qz_im (qz_cpS μ b0 b1 P) k b0 0) (qz_im (qz_cpS μ b0 b1 P) k b1 0) 0 0 w) = qz_cpS μ b0 b1 (fun k' i j => P k' i j || (Nat.beq k' k && (Nat.blt i 1 && Nat.blt j w))) := by
  have h := qz_cpT_s (μ := qz_cpS μ b0 b1 P) (k := k) (i := 0) (w := w) hb
  rw [qz_cpT_0] at h
  rw [h, qz_cpS_T hb]
