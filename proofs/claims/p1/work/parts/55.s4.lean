/-! ROWS OF THE REFERENCE COPIED. -/
/-- n numbers of a row of kind ks from so on go into one of kind kd from do on -/
def qz_ac (μ : qz_M) (kd ks dof sof n : Nat) : qz_M := qz_wC μ (kd, 0, 0) (va_cpy (μ.1 ks 0 0) (μ.1 kd 0 0) sof dof n)
theorem qz_ac_0 {μ : qz_M} {kd ks dof sof : Nat} : qz_ac μ kd ks dof sof 0 = μ := by
  refine Prod.ext (funext fun k => funext fun b => funext fun i => funext fun j => ?_) rfl
  show (if k = kd ∧ b = 0 ∧ i = 0 then va_cpy (μ.1 ks 0 0) (μ.1 kd 0 0) sof dof 0 else μ.1 k b i) j = μ.1 k b i j
  split
  · rename_i h
    obtain ⟨rfl, rfl, rfl⟩ := h
    exact if_neg (by omega)
  · rfl
theorem qz_ac_s {μ : qz_M} {kd ks dof sof i : Nat} (hk : kd ≠ ks) : qz_wI (qz_ac μ kd ks dof sof i) (kd, 0, 0) (dof + i) (qz_im (qz_ac μ kd ks dof sof i) ks 0 0 (sof + i)) = qz_ac μ kd ks dof sof (i + 1) := by
  have e0 : qz_im (qz_ac μ kd ks dof sof i) ks 0 0 (sof + i) = μ.1 ks 0 0 (sof + i) := congrFun (if_neg (fun q => hk q.1.symm)) _
  rw [e0]
  refine Prod.ext (funext fun k => funext fun b => funext fun i' => funext fun j => ?_) rfl
  show (if k = kd ∧ b = 0 ∧ i' = 0 ∧ j = dof + i then μ.1 ks 0 0 (sof + i) else (if k = kd ∧ b = 0 ∧ i' = 0 then va_cpy (μ.1 ks 0 0) (μ.1 kd 0 0) sof dof i else μ.1 k b i') j) = (if k = kd ∧ b = 0 ∧ i' = 0 then va_cpy (μ.1 ks 0 0) (μ.1 kd 0 0) sof dof (i + 1) else μ.1 k b i') j
  by_cases h : k = kd ∧ b = 0 ∧ i' = 0
  · rw [if_pos h, if_pos h]
    unfold va_cpy
    by_cases hj : j = dof + i
    · subst hj
      rw [if_pos ⟨h.1, h.2.1, h.2.2, rfl⟩, if_pos (by omega), Nat.add_sub_cancel_left]
    · rw [if_neg (fun q => hj q.2.2.2)]
      by_cases h3 : dof ≤ j ∧ j < dof + i
      · rw [if_pos h3, if_pos (by omega)]
      · rw [if_neg h3, if_neg (by omega)]
  · rw [if_neg h, if_neg h, if_neg (fun q => h ⟨q.1, q.2.1, q.2.2.1⟩)]
abbrev zz_m : qz_V := .inr (.inr (some (1, 0, 0)))
theorem i3_s (i : Nat) : i3 i + 1 = i3 ((i + 1 : Nat) : Int) := by
  rw [show (1 : Int32) = i3 1 from rfl, i3_add]
  rfl
theorem sp_hold (a : Nat) (μ : qz_M) (ha : a < 2) : qf_351 [zz_m, .inl (i3 a)] μ = some (qz_ac μ 81 2 (4400 * a) 0 4400, .inl none) := by
  refine wz_call_eq (fw_351 (i3 a) μ _ ?_)
  have main := wz_up (k := wz_sk gc_351_2 wz_k0 (fun μ2 o2 => μ2 = qz_ac μ 81 2 (4400 * a) 0 4400 ∧ o2 = .inl none)) (R := fun μ2 o2 => μ2 = qz_ac μ 81 2 (4400 * a) 0 4400 ∧ o2 = .inl none) sb_351_1 [true, true, true] 4400 (by omega)
    (fun i => [some zz_m, some (.inl (i3 a)), some (.inl (i3 i))]) (fun i => qz_ac μ 81 2 (4400 * a) 0 i) ?_ ?_ (L := [some zz_m, some (.inl (i3 a)), some (.inl (0 : Int32))]) rfl
  · rw [qz_ac_0] at main
    exact main
  · intro i hi L hL I hI
    refine fb_351_1 (i3 a) (i3 i) _ _ _ L hL ?_
    have hle : decide ((4400 : Int32) ≤ i3 i) = false := by
      rw [show (4400 : Int32) = i3 4400 from rfl, i3_decle ⟨by omega, by omega⟩ ⟨by omega, by omega⟩]
      exact decide_eq_false (by omega)
    have hx : (4400 : Int32) * i3 a + i3 i = i3 (4400 * a + i : Int) := by rw [show (4400 : Int32) = i3 4400 from rfl, i3_mul, i3_add]
    rw [hle, i3_out (by omega) (by omega) (by omega), hx, i3_out (by omega) (by omega) (by omega), i3_nat (by omega) (by omega), i3_nat (by omega) (by omega)]
    intro μ1 e1
    have e2 : (4400 * (a : Int) + (i : Int)).toNat = 4400 * a + i := by omega
    have e3 : ((i : Nat) : Int).toNat = 0 + i := by omega
    rw [e2, e3, qz_ac_s (by decide)] at e1
    subst e1
    refine hI _ ?_
    show ([_, _, some (.inl (i3 i + 1))] : qz_L) = [_, _, some (.inl (i3 ((i + 1 : Nat) : Int)))]
    rw [i3_s]
    rfl
  · intro L hL I
    refine fb_351_1 (i3 a) (i3 (4400 : Nat)) _ _ _ L hL ?_
    have hle : decide ((4400 : Int32) ≤ i3 (4400 : Nat)) = true := by
      rw [show (4400 : Int32) = i3 4400 from rfl, i3_decle ⟨by omega, by omega⟩ ⟨by omega, by omega⟩]
      exact decide_eq_true (by omega)
    rw [hle]
    rw [wz_lk_0, wz_sk_0]
    exact fc_351_2 (qz_ac μ 81 2 (4400 * a) 0 4400) wz_k0 _ _ rfl (And.intro (Eq.refl _) (Eq.refl _))
set_option maxRecDepth 8000 in
theorem sp_release (a : Nat) (μ : qz_M) (ha : a < 2) : qf_493 [zz_m, .inl (i3 a)] μ = some (qz_ac μ 2 81 0 (4400 * a) 4400, .inl none) := by
  refine wz_call_eq (fw_493 (i3 a) μ _ ?_)
  have main := wz_up (k := wz_sk gc_493_2 wz_k0 (fun μ2 o2 => μ2 = qz_ac μ 2 81 0 (4400 * a) 4400 ∧ o2 = .inl none)) (R := fun μ2 o2 => μ2 = qz_ac μ 2 81 0 (4400 * a) 4400 ∧ o2 = .inl none) sb_493_1 [true, true, true] 4400 (by omega)
    (fun i => [some zz_m, some (.inl (i3 a)), some (.inl (i3 i))]) (fun i => qz_ac μ 2 81 0 (4400 * a) i) ?_ ?_ (L := [some zz_m, some (.inl (i3 a)), some (.inl (0 : Int32))]) rfl
  · rw [qz_ac_0] at main
    exact main
  · intro i hi L hL I hI
    refine fb_493_1 (i3 a) (i3 i) _ _ _ L hL ?_
    have hle : decide ((4400 : Int32) ≤ i3 i) = false := by
      rw [show (4400 : Int32) = i3 4400 from rfl, i3_decle ⟨by omega, by omega⟩ ⟨by omega, by omega⟩]
      exact decide_eq_false (by omega)
    have hx : (4400 : Int32) * i3 a + i3 i = i3 (4400 * a + i : Int) := by rw [show (4400 : Int32) = i3 4400 from rfl, i3_mul, i3_add]
    rw [hle, hx, i3_out (by omega) (by omega) (by omega), i3_out (by omega) (by omega) (by omega), i3_nat (by omega) (by omega), i3_nat (by omega) (by omega)]
    intro μ1 e1
    have e2 : (4400 * (a : Int) + (i : Int)).toNat = 4400 * a + i := by omega
    have e3 : ((i : Nat) : Int).toNat = 0 + i := by omega
    rw [e2, e3, qz_ac_s (by decide)] at e1
    subst e1
    refine hI _ ?_
    show ([_, _, some (.inl (i3 i + 1))] : qz_L) = [_, _, some (.inl (i3 ((i + 1 : Nat) : Int)))]
    rw [i3_s]
    rfl
  · intro L hL I
    refine fb_493_1 (i3 a) (i3 (4400 : Nat)) _ _ _ L hL ?_
    have hle : decide ((4400 : Int32) ≤ i3 (4400 : Nat)) = true := by
      rw [show (4400 : Int32) = i3 4400 from rfl, i3_decle ⟨by omega, by omega⟩ ⟨by omega, by omega⟩]
      exact decide_eq_true (by omega)
    rw [hle]
    rw [wz_lk_0, wz_sk_0]
    exact fc_493_2 (qz_ac μ 2 81 0 (4400 * a) 4400) wz_k0 _ _ rfl (And.intro (Eq.refl _) (Eq.refl _))
