/-! WHAT IS MADE ON THE WAY, counted by the next free number: a cell each, K places at most. -/
def zGl (K : Nat) (ν0 ν : qz_N) : Prop := (∀ k b i j, k ≠ 200 → ν.1 k b i j = ν0.1 k b i j) ∧ (∀ k b i j, k ≠ 200 → ν.2.1 k b i j = ν0.2.1 k b i j) ∧ (∀ n, n < ν0.2.2.2.1 → ν.2.2.1 n = ν0.2.2.1 n) ∧ ν0.2.2.2.1 ≤ ν.2.2.2.1 ∧ ν.2.2.2.2.1 + ν0.2.2.2.1 ≤ ν0.2.2.2.2.1 + ν.2.2.2.1 ∧ ν.2.2.2.2.2 + K * ν0.2.2.2.1 ≤ ν0.2.2.2.2.2 + K * ν.2.2.2.1
theorem zGl_r {K : Nat} {ν : qz_N} : zGl K ν ν := ⟨fun _ _ _ _ _ => rfl, fun _ _ _ _ _ => rfl, fun _ _ => rfl, Nat.le_refl _, Nat.le_refl _, Nat.le_refl _⟩
theorem zGl_al {K : Nat} {ν0 ν ν1 : qz_N} {t c l m : Nat} (h : zGl K ν0 ν) (e : ν1 = nal ν t c l 1 m) (hm : m ≤ K) : zGl K ν0 ν1 := by
  have g := zG_al (zG_r (ν := ν)) (t := t) (c := c) (l := l) (k := 1) (m := m)
  obtain ⟨h1, h2, h3, h4, h5, h6⟩ := h
  subst e
  have n1 : (nal ν t c l 1 m).2.2.2.1 = ν.2.2.2.1 + 1 := rfl
  have n2 := g.2.2.2.2.1
  have n3 := g.2.2.2.2.2
  refine ⟨fun k b i j hk => (g.1 k b i j hk).trans (h1 k b i j hk), fun k b i j hk => (g.2.1 k b i j hk).trans (h2 k b i j hk), fun n hn => (g.2.2.1 n (by omega)).trans (h3 n hn), by omega, by omega, ?_⟩
  rw [n1, Nat.mul_add]
  omega
theorem zGl_t {K : Nat} {ν0 ν ν1 : qz_N} (h : zGl K ν0 ν) (g : zGl K ν ν1) : zGl K ν0 ν1 := by
  obtain ⟨h1, h2, h3, h4, h5, h6⟩ := h
  obtain ⟨g1, g2, g3, g4, g5, g6⟩ := g
  exact ⟨fun k b i j hk => (g1 k b i j hk).trans (h1 k b i j hk), fun k b i j hk => (g2 k b i j hk).trans (h2 k b i j hk), fun n hn => (g3 n (by omega)).trans (h3 n hn), by omega, by omega, by omega⟩
theorem zGl_5 {ν0 ν : qz_N} (h : zGl 5 ν0 ν) : zGl 192 ν0 ν := by
  obtain ⟨h1, h2, h3, h4, h5, h6⟩ := h
  exact ⟨h1, h2, h3, h4, h5, by omega⟩
theorem zGl_l {K : Nat} {ν0 ν : qz_N} {b i j : Nat} {v : Int64} (h : zGl K ν0 ν) : zGl K ν0 (nwl ν 200 b i j v) := ⟨fun k b i j hk => (if_neg (fun q => hk q.1)).trans (h.1 k b i j hk), h.2⟩
theorem zGl_c {K c z s n9 n1 : Nat} {ν0 ν : qz_N} (h : zGl K ν0 ν) (hn : ν0.2.2.2.1 = n9) (hn1 : ν.2.2.2.1 = n1) (hc : n1 ≤ n9 + c) (hz : c ≤ z) (hs : K * c ≤ s) : zG z s ν0 ν := by
  obtain ⟨h1, h2, h3, h4, h5, h6⟩ := h
  have : K * ν.2.2.2.1 ≤ K * ν0.2.2.2.1 + K * c := by rw [← Nat.mul_add]; exact Nat.mul_le_mul (Nat.le_refl _) (by omega)
  exact ⟨h1, h2, h3, h4, by omega, by omega⟩
theorem zSh_Gl {K : Nat} {ν ν1 : qz_N} {x t l : Nat} (h : zSh ν x t l) (g : zGl K ν ν1) : zSh ν1 x t l := ⟨Nat.lt_of_lt_of_le h.1 g.2.2.2.1, (g.2.2.1 x h.1).trans h.2⟩
/-- lots that are well behind a deed's beginning -/
theorem zLt_d {Z Z1 : qz_Z} (h : zLt 0 Z) (d : ∀ {k : Nat} {i j : Int}, zhall k = true → ¬ (k = 11 ∧ (j = 15 ∨ j = 16)) → Z1 k 0 i j = Z k 0 i j) : zLt 0 Z1 := zLt_e h (fun c _ _ => Int.le_of_eq (d rfl (fun q => absurd q.1 (by decide)))) (fun r j => d rfl (fun q => absurd q.1 (by decide)))
/-! WHAT MAY YET BE MADE in the hours of a hall: two rows for each truck that may go, three for each quarrel that is to be judged. -/
def zg1 (x : Int) : Int := if x = -1 then 0 else 1
def zq1 (x : Int) : Int := if x = 0 then 1 else 0
theorem zg1_b (x : Int) : 0 ≤ zg1 x ∧ zg1 x ≤ 1 := by unfold zg1; split <;> omega
theorem zq1_b (x : Int) : 0 ≤ zq1 x ∧ zq1 x ≤ 1 := by unfold zq1; split <;> omega
def zptG (Z : qz_Z) (b : Int) : Int := zg1 (Z 50 b 0 3) + zg1 (Z 50 b 1 3) + zg1 (Z 50 b 2 3) + zg1 (Z 50 b 3 3)
def zptQ (Z : qz_Z) (b : Int) : Int := zq1 (Z 54 b 0 2) + zq1 (Z 54 b 1 2) + zq1 (Z 54 b 2 2) + zq1 (Z 54 b 3 2) + zq1 (Z 54 b 4 2) + zq1 (Z 54 b 5 2) + zq1 (Z 54 b 6 2) + zq1 (Z 54 b 7 2) + zq1 (Z 54 b 8 2) + zq1 (Z 54 b 9 2) + zq1 (Z 54 b 10 2) + zq1 (Z 54 b 11 2)
def zpt (Z : qz_Z) (b : Int) : Int := 2 * zptG Z b + 3 * zptQ Z b
theorem zptG_b (Z : qz_Z) (b : Int) : 0 ≤ zptG Z b ∧ zptG Z b ≤ 4 := by
  unfold zptG
  have h0 := zg1_b (Z 50 b 0 3)
  have h1 := zg1_b (Z 50 b 1 3)
  have h2 := zg1_b (Z 50 b 2 3)
  have h3 := zg1_b (Z 50 b 3 3)
  omega
theorem zptQ_b (Z : qz_Z) (b : Int) : 0 ≤ zptQ Z b ∧ zptQ Z b ≤ 12 := by
  unfold zptQ
  have h0 := zq1_b (Z 54 b 0 2)
  have h1 := zq1_b (Z 54 b 1 2)
  have h2 := zq1_b (Z 54 b 2 2)
  have h3 := zq1_b (Z 54 b 3 2)
  have h4 := zq1_b (Z 54 b 4 2)
  have h5 := zq1_b (Z 54 b 5 2)
  have h6 := zq1_b (Z 54 b 6 2)
  have h7 := zq1_b (Z 54 b 7 2)
  have h8 := zq1_b (Z 54 b 8 2)
  have h9 := zq1_b (Z 54 b 9 2)
  have h10 := zq1_b (Z 54 b 10 2)
  have h11 := zq1_b (Z 54 b 11 2)
  omega
theorem zpt_b (Z : qz_Z) (b : Int) : 0 ≤ zpt Z b ∧ zpt Z b ≤ 44 := by
  have h0 := zptG_b Z b
  have h1 := zptQ_b Z b
  unfold zpt
  omega
section ZPT
variable {Z Z1 : qz_Z} {b b' i j v : Int} {k : Nat}
theorem zptG_e (h : ∀ t, Z1 50 b t 3 = Z 50 b t 3) : zptG Z1 b = zptG Z b := by
  unfold zptG
  rw [h, h, h, h]
theorem zptQ_e (h : ∀ t, Z1 54 b t 2 = Z 54 b t 2) : zptQ Z1 b = zptQ Z b := by
  unfold zptQ
  rw [h, h, h, h, h, h, h, h, h, h, h, h]
theorem zpt_e (h : ∀ t, Z1 50 b t 3 = Z 50 b t 3) (g : ∀ t, Z1 54 b t 2 = Z 54 b t 2) : zpt Z1 b = zpt Z b := by
  unfold zpt
  rw [zptG_e h, zptQ_e g]
theorem zpt_0 (hz : Z1 = zu Z k b' i j v) (hk : (Nat.beq k 50 || Nat.beq k 54) = false) : zpt Z1 b = zpt Z b := by
  rw [Bool.or_eq_false_iff] at hk
  exact zpt_e (fun t => zu_ne hz (fun q => by rw [← q.1] at hk; exact absurd hk.1 (by decide))) (fun t => zu_ne hz (fun q => by rw [← q.1] at hk; exact absurd hk.2 (by decide)))
theorem zpt_50 (hz : Z1 = zu Z 50 b' i j v) (hj : j ≠ 3) : zpt Z1 b = zpt Z b := zpt_e (fun t => zu_ne hz (fun q => hj q.2.2.2.symm)) (fun t => zu_ne hz (fun q => absurd q.1 (by decide)))
theorem zpt_54 (hz : Z1 = zu Z 54 b' i j v) (hj : j ≠ 2) : zpt Z1 b = zpt Z b := zpt_e (fun t => zu_ne hz (fun q => absurd q.1 (by decide))) (fun t => zu_ne hz (fun q => hj q.2.2.2.symm))
theorem zpt_50w (hz : Z1 = zu Z 50 b i 3 v) (hi : 0 ≤ i ∧ i ≤ 3) (hv : v = -1 ∧ Z 50 b i 3 ≠ -1) : zpt Z1 b + 2 = zpt Z b := by
  have e : zptQ Z1 b = zptQ Z b := zptQ_e (fun t => zu_ne hz (fun q => absurd q.1 (by decide)))
  have a1 : Z1 50 b i 3 = -1 := by rw [zu_at hz]; exact hv.1
  have o : ∀ t, t ≠ i → Z1 50 b t 3 = Z 50 b t 3 := fun t ht => zu_ne hz (fun q => ht q.2.2.1)
  have g1 : zg1 (-1) = 0 := rfl
  have g2 : zg1 (Z 50 b i 3) = 1 := if_neg hv.2
  unfold zpt
  rw [e]
  unfold zptG
  rcases (show i = 0 ∨ i = 1 ∨ i = 2 ∨ i = 3 by omega) with rfl | rfl | rfl | rfl
  · rw [a1, o 1 (by decide), o 2 (by decide), o 3 (by decide), g1, g2]; omega
  · rw [a1, o 0 (by decide), o 2 (by decide), o 3 (by decide), g1, g2]; omega
  · rw [a1, o 1 (by decide), o 0 (by decide), o 3 (by decide), g1, g2]; omega
  · rw [a1, o 1 (by decide), o 2 (by decide), o 0 (by decide), g1, g2]; omega
theorem zpt_54w (hz : Z1 = zu Z 54 b i 2 v) (hi : 0 ≤ i ∧ i ≤ 11) (hv : v ≠ 0 ∧ Z 54 b i 2 = 0) : zpt Z1 b + 3 = zpt Z b := by
  have e : zptG Z1 b = zptG Z b := zptG_e (fun t => zu_ne hz (fun q => absurd q.1 (by decide)))
  have a1 : zq1 (Z1 54 b i 2) = 0 := by rw [zu_at hz]; exact if_neg hv.1
  have o : ∀ t, t ≠ i → Z1 54 b t 2 = Z 54 b t 2 := fun t ht => zu_ne hz (fun q => ht q.2.2.1)
  have g2 : zq1 (Z 54 b i 2) = 1 := if_pos hv.2
  have d : ∀ t, t ≠ i → zq1 (Z1 54 b t 2) = zq1 (Z 54 b t 2) := fun t ht => by rw [o t ht]
  unfold zpt
  rw [e]
  unfold zptQ
  rcases (show i = 0 ∨ i = 1 ∨ i = 2 ∨ i = 3 ∨ i = 4 ∨ i = 5 ∨ i = 6 ∨ i = 7 ∨ i = 8 ∨ i = 9 ∨ i = 10 ∨ i = 11 by omega) with rfl | rfl | rfl | rfl | rfl | rfl | rfl | rfl | rfl | rfl | rfl | rfl
  all_goals
    first
    | have d0 := d 0 (by decide)
    | skip
    first
    | have d1 := d 1 (by decide)
    | skip
    first
    | have d2 := d 2 (by decide)
    | skip
    first
    | have d3 := d 3 (by decide)
    | skip
    first
    | have d4 := d 4 (by decide)
    | skip
    first
    | have d5 := d 5 (by decide)
    | skip
    first
    | have d6 := d 6 (by decide)
    | skip
    first
    | have d7 := d 7 (by decide)
    | skip
    first
    | have d8 := d 8 (by decide)
    | skip
    first
    | have d9 := d 9 (by decide)
    | skip
    first
    | have d10 := d 10 (by decide)
    | skip
    first
    | have d11 := d 11 (by decide)
    | skip
    omega
theorem zpt_c {ws : List Nat} (g : zC ws Z Z1) (hw : (ws.contains 50 || ws.contains 54) = false) : zpt Z1 b = zpt Z b := by
  rw [Bool.or_eq_false_iff] at hw
  exact zpt_e (fun t => g 50 b t 3 hw.1) (fun t => g 54 b t 2 hw.2)
theorem zpt_l {ws as : List Nat} {n : Nat} (g : zL ws as n Z Z1) (hw : (ws.contains 50 || ws.contains 54) = false) : zpt Z1 b = zpt Z b := by
  rw [Bool.or_eq_false_iff] at hw
  exact zpt_e (fun t => g 50 b t 3 hw.1 (fun q => absurd q.1 (by decide))) (fun t => g 54 b t 2 hw.2 (fun q => absurd q.1 (by decide)))
theorem zpt_z {n : Nat} (hz : Z1 = zzr Z n) : zpt Z1 b = zpt Z b := zpt_e (fun t => zz_o hz (by decide)) (fun t => zz_o hz (by decide))
theorem zpt_p {k1 : Nat} {i1 b1 d n : Int} (hz : Z1 = zpy Z k b' i k1 b1 i1 d n) (hk : k1 ≠ 50 ∧ (k1 ≠ 54 ∨ 3 ≤ d)) : zpt Z1 b = zpt Z b := by
  subst hz
  refine zpt_e (fun t => if_neg (fun q => hk.1 q.1.symm)) (fun t => if_neg (fun q => ?_))
  rcases hk.2 with g | g
  · exact g q.1.symm
  · have := q.2.2.2.1
    omega
end ZPT
