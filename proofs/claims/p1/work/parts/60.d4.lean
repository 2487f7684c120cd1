/-! THE CONSTRUCTORS: what stands behind them (all is of kind 200). -/
/-- n families stand: their shapes, references and ints -/
def d4 (μ : qz_M) (n : Nat) (S : Nat → Nat × Nat × Nat) (R : Nat → Nat → Option qz_R) (I : Nat → Nat → Nat → Int32) (c s : Nat) : Prop := qz_na μ = n ∧ (∀ o, o < n → qz_dn μ o = S o ∧ (∀ j, qz_rm μ 200 o 0 j = R o j) ∧ (∀ i j, qz_im μ 200 o i j = I o i j) ∧ (∀ i j, qz_lm μ 200 o i j = 0) ∧ (o = 0 → ∀ i j, qz_rm μ 200 o i j = none)) ∧ qz_kc μ = c ∧ qz_ks μ = s
section D4
variable {μ : qz_M} {n : Nat} {S : Nat → Nat × Nat × Nat} {R R' : Nat → Nat → Option qz_R} {I I' : Nat → Nat → Nat → Int32} {c s : Nat}
theorem d4_to (h : d4 μ n S R I c s) (hR : ∀ o, o < n → ∀ j, R o j = R' o j) (hI : ∀ o, o < n → ∀ i j, I o i j = I' o i j) : d4 μ n S R' I' c s :=
  ⟨h.1, fun o ho => ⟨(h.2.1 o ho).1, fun j => ((h.2.1 o ho).2.1 j).trans (hR o ho j), fun i j => ((h.2.1 o ho).2.2.1 i j).trans (hI o ho i j), (h.2.1 o ho).2.2.2⟩, h.2.2⟩
theorem d4_alr {t ct ln C SS : Nat} {f : Nat → Option qz_R} (h : d4 μ n S R I c s) (hS : S n = (t, ct, ln)) (hR : ∀ j, R n j = f j) (hI : ∀ i j, I n i j = 0) (hn0 : n ≠ 0) : d4 (qz_alr μ t ct ln C SS f) (n + 1) S R I (c + C) (s + SS) := by
  obtain ⟨hn, ho, hc, hs⟩ := h
  refine ⟨by show qz_na μ + 1 = _; rw [hn], fun o hlt => ?_, by show qz_kc μ + C = _; rw [hc], by show qz_ks μ + SS = _; rw [hs]⟩
  by_cases e : o = n
  · subst e
    refine ⟨?_, fun j => ?_, fun i j => ?_, fun i j => ?_, fun z => absurd z hn0⟩
    · show (if o = qz_na μ then (t, ct, ln) else qz_dn μ o) = _
      rw [if_pos hn.symm, hS]
    · show (if 200 = 200 ∧ o = qz_na μ then f j else qz_rm μ 200 o 0 j) = _
      rw [if_pos ⟨rfl, hn.symm⟩, hR]
    · show (if 200 = 200 ∧ o = qz_na μ then (0 : Int32) else qz_im μ 200 o i j) = _
      rw [if_pos ⟨rfl, hn.symm⟩, hI]
    · show (if 200 = 200 ∧ o = qz_na μ then (0 : Int64) else qz_lm μ 200 o i j) = _
      rw [if_pos ⟨rfl, hn.symm⟩]
  · have hq : ¬ o = qz_na μ := fun q => e (q.trans hn)
    obtain ⟨q1, q2, q3, q4⟩ := ho o (by omega)
    refine ⟨?_, fun j => ?_, fun i j => ?_, fun i j => ?_, fun z i j => ?_⟩
    · show (if o = qz_na μ then (t, ct, ln) else qz_dn μ o) = _
      rw [if_neg hq, q1]
    · show (if 200 = 200 ∧ o = qz_na μ then f j else qz_rm μ 200 o 0 j) = _
      rw [if_neg (fun q => hq q.2), q2]
    · show (if 200 = 200 ∧ o = qz_na μ then (0 : Int32) else qz_im μ 200 o i j) = _
      rw [if_neg (fun q => hq q.2), q3]
    · show (if 200 = 200 ∧ o = qz_na μ then (0 : Int64) else qz_lm μ 200 o i j) = _
      rw [if_neg (fun q => hq q.2), q4.1]
    · show (if 200 = 200 ∧ o = qz_na μ then f j else qz_rm μ 200 o i j) = _
      rw [if_neg (fun q => hq q.2), q4.2 z]
theorem d4_al {t ct ln C SS : Nat} (h : d4 μ n S R I c s) (hS : S n = (t, ct, ln)) (hR : ∀ j, R n j = none) (hI : ∀ i j, I n i j = 0) (hn0 : n ≠ 0) : d4 (qz_al μ t ct ln C SS) (n + 1) S R I (c + C) (s + SS) := d4_alr h hS hR hI hn0
theorem d4_wR {o j : Nat} {v : Option qz_R} (h : d4 μ n S R I c s) (hR : ∀ m, m < n → ∀ j', R' m j' = if m = o ∧ j' = j then v else R m j')  (ho0 : o ≠ 0) : d4 (qz_wR μ (200, o, 0) j v) n S R' I c s := by
  obtain ⟨hn, ho, hc⟩ := h
  refine ⟨hn, fun m hm => ?_, hc⟩
  obtain ⟨q1, q2, q3, q4⟩ := ho m hm
  refine ⟨q1, fun j' => ?_, q3, q4.1, fun z i' j' => (show (if 200 = 200 ∧ m = o ∧ i' = 0 ∧ j' = j then v else qz_rm μ 200 m i' j') = none from (if_neg (fun q => ho0 (q.2.1.symm.trans z))).trans (q4.2 z i' j'))⟩
  rw [hR m hm j', ← q2 j']
  show (if 200 = 200 ∧ m = o ∧ 0 = 0 ∧ j' = j then v else qz_rm μ 200 m 0 j') = _
  by_cases q : m = o ∧ j' = j
  · rw [if_pos q, if_pos ⟨rfl, q.1, rfl, q.2⟩]
  · rw [if_neg q, if_neg (fun z => q ⟨z.2.1, z.2.2.2⟩)]
theorem d4_wI {o a j : Nat} {v : Int32} (h : d4 μ n S R I c s) (hI : ∀ m, m < n → ∀ i' j', I' m i' j' = if m = o ∧ i' = a ∧ j' = j then v else I m i' j') : d4 (qz_wI μ (200, o, a) j v) n S R I' c s := by
  obtain ⟨hn, ho, hc⟩ := h
  refine ⟨hn, fun m hm => ?_, hc⟩
  obtain ⟨q1, q2, q3, q4⟩ := ho m hm
  refine ⟨q1, q2, fun i' j' => ?_, q4⟩
  rw [hI m hm i' j', ← q3 i' j']
  show (if 200 = 200 ∧ m = o ∧ i' = a ∧ j' = j then v else qz_im μ 200 m i' j') = _
  by_cases q : m = o ∧ i' = a ∧ j' = j
  · rw [if_pos q, if_pos ⟨rfl, q⟩]
  · rw [if_neg q, if_neg (fun z => q z.2)]
theorem d4_tag {o i : Nat} {t ct ln : Nat} (h : d4 μ n S R I c s) (ho : o < n) (hS : S o = (t, ct, ln)) (hi : i < ct) : qz_tag μ (200, o, i) = t := by
  have e := (h.2.1 o ho).1.trans hS
  show (bif Nat.blt i (qz_dn μ o).2.1 then (qz_dn μ o).1 else 255) = t
  rw [e]
  show (bif Nat.ble (i + 1) ct then t else 255) = t
  rw [Nat.ble_eq_true_of_le hi]
  rfl
theorem d4_len {o i : Nat} (h : d4 μ n S R I c s) (ho : o < n) : qz_len μ (200, o, i) = (S o).2.2 := by
  show (qz_dn μ o).2.2 = _
  rw [(h.2.1 o ho).1]
theorem d4_rm {o : Nat} (h : d4 μ n S R I c s) (ho : o < n) (j : Nat) : qz_rm μ 200 o 0 j = R o j := (h.2.1 o ho).2.1 j
end D4
/-- a loop that counts up; of the memory only what it says -/
theorem wz_uD {F : qz_F} {G : wz_W} {k : wz_K} {R : wz_R} (hS : wz_S G F) (ms : List Bool) (N : Nat) (hN : N < 65536) (Ls : Nat → qz_L) (D : Nat → qz_M → Prop)
    (hstep : ∀ i, i < N → ∀ L μ, qz_fg ms L = Ls i → D i μ → ∀ I : qz_X → Prop, (∀ L' μ', qz_fg ms L' = Ls (i + 1) → D (i + 1) μ' → I (L', [], μ')) → G (wz_lk k I) R (L, [], μ))
    (hend : ∀ L μ, qz_fg ms L = Ls N → D N μ → ∀ I : qz_X → Prop, G (wz_lk k I) R (L, [], μ)) {L : qz_L} {μ : qz_M} (h0 : qz_fg ms L = Ls 0) (hD : D 0 μ) : wz_loop F 65536 k R (L, [], μ) := by
  refine wz_lp hS (fun m x => ∃ i, i ≤ N ∧ m = N - i ∧ qz_fg ms x.1 = Ls i ∧ x.2.1 = [] ∧ D i x.2.2) ?_ 65536 N _ hN ⟨0, Nat.zero_le _, rfl, h0, rfl, hD⟩
  rintro m ⟨L, st, μ⟩ ⟨i, hi, rfl, hL, e, hD⟩
  cases e
  rcases Nat.lt_or_ge i N with h | h
  · exact hstep i h L μ hL hD _ (fun L' μ' hL' hD' => ⟨N - (i + 1), by omega, i + 1, h, rfl, hL', rfl, hD'⟩)
  · obtain rfl : i = N := Nat.le_antisymm hi h
    exact hend L μ hL hD _
/-! a hall's constructor -/
def hl_S : List (Nat × Nat × Nat) := [(50, 1, 17), (50, 1, 28), (50, 1, 4), (50, 1, 10), (50, 6, 6), (53, 1, 6), (50, 5, 5), (53, 1, 5), (50, 6, 7), (53, 1, 6), (50, 6, 11), (53, 1, 6), (50, 48, 16), (53, 1, 48), (50, 8, 15), (53, 1, 8), (50, 24, 10), (53, 1, 24), (50, 60, 21), (53, 1, 60), (50, 2, 12), (53, 1, 2), (50, 24, 3), (53, 1, 24), (50, 4, 22), (53, 1, 4), (50, 2, 8), (53, 1, 2), (50, 24, 6), (53, 1, 24), (50, 60, 5), (53, 1, 60), (50, 12, 8), (53, 1, 12)]
def hl_s (k : Nat) : Nat × Nat × Nat := hl_S.getD k (0, 0, 0)
/-- a hall's field -/
def hl_F (n j : Nat) : Option qz_R := if j < 4 then some (200, n + j, 0) else some (200, n + (5 + 2 * (j - 4)), 0)
/-- what its families hold -/
def hl_R (n k j : Nat) : Option qz_R := if (hl_s k).1 = 53 ∧ j < (hl_s k).2.2 then some (200, n + (k - 1), j) else none
def hl_T (j : Nat) : Int32 := match j with | 0 => 50 | 1 => 120 | 2 => 400 | _ => 2500
/-- its ints, g of them written -/
def hl_I (g k i j : Nat) : Int32 := match k with
  | 0 => if i = 0 ∧ j = 14 ∧ 5 ≤ g then 2 else if i = 0 ∧ j = 16 ∧ 6 ≤ g then -1 else 0
  | 1 => if i = 0 ∧ j < 28 ∧ 7 + j ≤ g then 18 else 0
  | 2 => if i = 0 ∧ j < 4 ∧ j + 1 ≤ g then hl_T j else 0
  | 4 => if i < 6 ∧ j < 6 ∧ 35 + 6 * i + j ≤ g then (if i = j then 0 else 3) else 0
  | _ => 0
section HL
variable (n sn : Nat) (S : Nat → Nat × Nat × Nat) (R : Nat → Nat → Option qz_R) (I : Nat → Nat → Nat → Int32)
def hl_Sn (m : Nat) : Nat × Nat × Nat := if m < n then S m else hl_s (m - n)
def hl_Rn (f m j : Nat) : Option qz_R := if m < n then (if m = sn ∧ j < f then hl_F n j else R m j) else hl_R n (m - n) j
def hl_In (g m i j : Nat) : Int32 := if m < n then I m i j else hl_I g (m - n) i j
/-- the state when k families, f fields and g ints stand -/
def hl (μ : qz_M) (k f g c s : Nat) : Prop := d4 μ (n + k) (hl_Sn n S) (hl_Rn n sn R f) (hl_In n I g) c s
end HL
section HM
variable {n sn : Nat} {S : Nat → Nat × Nat × Nat} {R : Nat → Nat → Option qz_R} {I : Nat → Nat → Nat → Int32} {μ : qz_M} {k f g c s : Nat}
theorem hl_n {k : Nat} : hl_Sn n S (n + k) = hl_s k := by
  unfold hl_Sn
  rw [if_neg (by omega), Nat.add_sub_cancel_left]
theorem hl_na (h : hl n sn S R I μ k f g c s) : qz_na μ = n + k := h.1
theorem hl_tn (h : hl n sn S R I μ k f g c s) (hs : sn ≠ 0 ∧ sn < n) (hS : S sn = (1, 1, 0)) : qz_tag μ (200, sn, 0) = 1 :=
  d4_tag h (by omega) (show hl_Sn n S sn = (1, 1, 0) from (if_pos hs.2).trans hS) (by decide)
theorem hl_Rk {k j : Nat} : hl_Rn n sn R f (n + k) j = hl_R n k j := by
  unfold hl_Rn
  rw [if_neg (by omega), Nat.add_sub_cancel_left]
theorem hl_Ik {k i j : Nat} : hl_In n I g (n + k) i j = hl_I g k i j := by
  unfold hl_In
  rw [if_neg (by omega), Nat.add_sub_cancel_left]
theorem hl_R0 {k j a b : Nat} (hk : hl_s k = (50, a, b)) : hl_R n k j = none := by
  unfold hl_R
  rw [hk, if_neg (by rintro ⟨q, _⟩; cases q)]
theorem hl_al {w : Nat} (h : hl n sn S R I μ k f g c s) (hk : hl_s k = (50, 1, w)) (hI : ∀ i j, hl_I g k i j = 0) (hs : sn ≠ 0 ∧ sn < n) : hl n sn S R I (qz_al μ 50 1 w 1 w) (k + 1) f g (c + 1) (s + w) :=
  d4_al h (hl_n.trans hk) (fun _ => hl_Rk.trans (hl_R0 hk)) (fun i j => hl_Ik.trans (hI i j)) (show n + k ≠ 0 by omega)
theorem hl_al2 {a b : Nat} (h : hl n sn S R I μ k f g c s) (hk : hl_s k = (50, a, b)) (hk1 : hl_s (k + 1) = (53, 1, a)) (hI : ∀ i j, hl_I g k i j = 0) (hI1 : ∀ i j, hl_I g (k + 1) i j = 0) (hs : sn ≠ 0 ∧ sn < n) :
    hl n sn S R I (qz_alr (qz_al μ 50 a b a (a * b)) 53 1 a 1 a (fun j => if j < a then some (200, qz_na μ, j) else none)) (k + 2) f g (c + a + 1) (s + a * b + a) := by
  have h1 : hl n sn S R I (qz_al μ 50 a b a (a * b)) (k + 1) f g (c + a) (s + a * b) :=
    d4_al h (hl_n.trans hk) (fun _ => hl_Rk.trans (hl_R0 hk)) (fun i j => hl_Ik.trans (hI i j)) (show n + k ≠ 0 by omega)
  refine d4_alr h1 (hl_n.trans hk1) (fun j => (hl_Rk (k := k + 1)).trans ?_) (fun i j => (hl_Ik (k := k + 1)).trans (hI1 i j)) (show n + (k + 1) ≠ 0 by omega)
  unfold hl_R
  rw [hk1, h.1]
  show (if 53 = 53 ∧ j < a then some (200, n + (k + 1 - 1), j) else none) = (if j < a then some (200, n + k, j) else none)
  rw [Nat.add_sub_cancel]
  by_cases q : j < a
  · rw [if_pos q, if_pos ⟨rfl, q⟩]
  · rw [if_neg q, if_neg (fun z => q z.2)]
theorem hl_put {r : qz_R} {P : qz_M → Prop} (h : hl n sn S R I μ k f g c s) (hs : sn ≠ 0 ∧ sn < n) (hS : S sn = (1, 1, 0)) (hf : hl_F n f = some r) (K : ∀ μ', hl n sn S R I μ' k (f + 1) g c s → P μ') :
    (bif (Nat.beq (qz_tag μ (200, sn, 0)) 1 && true) && (true && (true && qz_dy (200, sn, 0) f)) then wz_wr (qz_wR μ (200, sn, 0) f (some r)) P else False) := by
  refine wz_i1 ?_ ?_
  · rw [hl_tn h hs hS]
    rfl
  · rintro μ' rfl
    refine K _ (d4_wR h (fun m hm j' => ?_) hs.1)
    unfold hl_Rn
    by_cases hmn : m < n
    · rw [if_pos hmn, if_pos hmn]
      by_cases q : m = sn ∧ j' = f
      · rw [if_pos q, if_pos ⟨q.1, by omega⟩, q.2, hf]
      · rw [if_neg q]
        by_cases q2 : m = sn ∧ j' < f
        · rw [if_pos q2, if_pos ⟨q2.1, by omega⟩]
        · rw [if_neg q2, if_neg (fun z => by
            rcases Nat.lt_or_ge j' f with z2 | z2
            · exact q2 ⟨z.1, z2⟩
            · exact q ⟨z.1, by have := z.2; omega⟩)]
    · rw [if_neg hmn, if_neg hmn, if_neg (by rintro ⟨z, _⟩; omega)]
theorem hl_row {w : Nat} {P : qz_M → Prop} (h : hl n sn S R I μ k f g c s) (hs : sn ≠ 0 ∧ sn < n) (hS : S sn = (1, 1, 0)) (hk : hl_s k = (50, 1, w)) (hI : ∀ i j, hl_I g k i j = 0) (hf : hl_F n f = some (200, n + k, 0)) (K : ∀ μ', hl n sn S R I μ' (k + 1) (f + 1) g (c + 1) (s + w) → P μ') :
    wz_wr (qz_al μ 50 1 w 1 w) (fun μ1 => (bif (Nat.beq (qz_tag μ1 (200, sn, 0)) 1 && true) && (true && (true && qz_dy (200, sn, 0) f)) then wz_wr (qz_wR μ1 (200, sn, 0) f (some (200, qz_na μ, 0))) P else False)) := by
  rintro μ1 rfl
  refine hl_put (hl_al h hk hI hs) hs hS ?_ K
  rw [hf, h.1]
theorem hl_tab {a b : Nat} {P : qz_M → Prop} (h : hl n sn S R I μ k f g c s) (hs : sn ≠ 0 ∧ sn < n) (hS : S sn = (1, 1, 0)) (hk : hl_s k = (50, a, b)) (hk1 : hl_s (k + 1) = (53, 1, a)) (hI : ∀ i j, hl_I g k i j = 0) (hI1 : ∀ i j, hl_I g (k + 1) i j = 0) (hf : hl_F n f = some (200, n + k + 1, 0)) (K : ∀ μ', hl n sn S R I μ' (k + 2) (f + 1) g (c + a + 1) (s + a * b + a) → P μ') :
    wz_wr (qz_alr (qz_al μ 50 a b a (a * b)) 53 1 a 1 a (fun j => if j < a then some (200, qz_na μ, j) else none)) (fun μ1 => (bif (Nat.beq (qz_tag μ1 (200, sn, 0)) 1 && true) && (true && (true && qz_dy (200, sn, 0) f)) then wz_wr (qz_wR μ1 (200, sn, 0) f (some (200, qz_na μ + 1, 0))) P else False)) := by
  rintro μ1 rfl
  refine hl_put (hl_al2 h hk hk1 hI hI1 hs) hs hS ?_ K
  rw [hf, h.1]
/-- an int written -/
theorem hl_w {o i j : Nat} {v : Int32} (h : hl n sn S R I μ k f g c s) (hI : ∀ m, m < k → ∀ i' j', hl_I (g + 1) m i' j' = if m = o ∧ i' = i ∧ j' = j then v else hl_I g m i' j') : hl n sn S R I (qz_wI μ (200, n + o, i) j v) k f (g + 1) c s := by
  refine d4_wI h (fun m hm i' j' => ?_)
  unfold hl_In
  by_cases hmn : m < n
  · rw [if_pos hmn, if_pos hmn, if_neg (by rintro ⟨z, _⟩; omega)]
  · rw [if_neg hmn, if_neg hmn, hI (m - n) (by omega)]
    by_cases q : m = n + o ∧ i' = i ∧ j' = j
    · rw [if_pos q, if_pos ⟨by omega, q.2⟩]
    · rw [if_neg q, if_neg (fun z => q ⟨by omega, z.2⟩)]
theorem hl_tk {o i t ct ln : Nat} (h : hl n sn S R I μ k f g c s) (ho : o < k) (hk : hl_s o = (t, ct, ln)) (hi : i < ct) : qz_tag μ (200, n + o, i) = t :=
  d4_tag h (by omega) (hl_n.trans hk) hi
theorem hl_lk {o i t ct ln : Nat} (h : hl n sn S R I μ k f g c s) (ho : o < k) (hk : hl_s o = (t, ct, ln)) : qz_len μ (200, n + o, i) = ln := by
  rw [d4_len h (by omega), hl_n, hk]
theorem hl_fd (h : hl n sn S R I μ k f g c s) (hs : sn ≠ 0 ∧ sn < n) {j : Nat} (hj : j < f) : qz_rm μ 200 sn 0 j = hl_F n j := by
  rw [d4_rm h (by omega)]
  unfold hl_Rn
  rw [if_pos hs.2, if_pos ⟨rfl, hj⟩]
end HM
theorem hl_0 {n sn : Nat} {S : Nat → Nat × Nat × Nat} {R : Nat → Nat → Option qz_R} {I : Nat → Nat → Nat → Int32} {μ : qz_M} {c s : Nat} (h : d4 μ n S R I c s) : hl n sn S R I μ 0 0 0 c s := by
  refine ⟨h.1, fun o ho => ?_, h.2.2⟩
  obtain ⟨q1, q2, q3, q4⟩ := h.2.1 o ho
  have ho : o < n := ho
  refine ⟨?_, fun j => ?_, fun i j => ?_, q4⟩
  · unfold hl_Sn
    rw [if_pos ho, q1]
  · unfold hl_Rn
    rw [if_pos ho, if_neg (by omega), q2]
  · unfold hl_In
    rw [if_pos ho, q3]
/-- a place of an array of ints is written -/
theorem hl_iw {n sn : Nat} {S : Nat → Nat × Nat × Nat} {R : Nat → Nat → Option qz_R} {I : Nat → Nat → Nat → Int32} {μ : qz_M} {k f g c s o i a j b ct ln : Nat} {x v : Int32} {P : qz_M → Prop} (h : hl n sn S R I μ k f g c s) (ho : o < k) (hk : hl_s o = (50, ct, ln)) (hi : i < ct) (hx : x = i3 j) (hj : j < ln) (hl2 : ln ≤ 2147483648) (hb : b = j)
    (hI : ∀ m, m < k → ∀ i' j', hl_I (g + 1) m i' j' = if m = o ∧ i' = i ∧ j' = j then v else hl_I g m i' j') (ha : a = n + o) (K : ∀ μ', hl n sn S R I μ' k f (g + 1) c s → P μ') :
    (bif Nat.beq (qz_tag μ (200, a, i)) 50 then (bif pz_out x (qz_len μ (200, a, i)) then False else (wz_wr (qz_wI μ (200, a, i) b v) P)) else False) := by
  subst ha hb hx
  refine wz_i1 (by rw [hl_tk h ho hk hi]; rfl) (wz_i0 ?_ ?_)
  · rw [hl_lk h ho hk]
    exact i3_out (by omega) (by omega) hl2
  · rintro μ' rfl
    exact K _ (hl_w h hI)
theorem hl_i0 {g i j : Nat} (h : g < 5) : hl_I g 0 i j = 0 := by
  show (if i = 0 ∧ j = 14 ∧ 5 ≤ g then (2 : Int32) else if i = 0 ∧ j = 16 ∧ 6 ≤ g then -1 else 0) = 0
  rw [if_neg (by omega), if_neg (by omega)]
theorem hl_i1 {g i j : Nat} (h : g < 7) : hl_I g 1 i j = 0 := by
  show (if i = 0 ∧ j < 28 ∧ 7 + j ≤ g then (18 : Int32) else 0) = 0
  rw [if_neg (by omega)]
theorem hl_i2 {i j : Nat} : hl_I 0 2 i j = 0 := if_neg (by omega)
theorem hl_i4 {g i j : Nat} (h : g < 35) : hl_I g 4 i j = 0 := if_neg (by omega)
/-- the g-th int: tariffs -/
theorem hl_w2 {g : Nat} {v : Int32} (h : g < 4) (hv : v = hl_T g) (m i' j' : Nat) : hl_I (g + 1) m i' j' = if m = 2 ∧ i' = 0 ∧ j' = g then v else hl_I g m i' j' := by
  match m with
  | 0 => rw [hl_i0 (g := g) (by omega), hl_i0 (g := g + 1) (by omega), if_neg (by omega)]
  | 1 => rw [hl_i1 (by omega), hl_i1 (by omega), if_neg (by omega)]
  | 2 =>
    show (if i' = 0 ∧ j' < 4 ∧ j' + 1 ≤ g + 1 then hl_T j' else (0 : Int32)) = if 2 = 2 ∧ i' = 0 ∧ j' = g then v else (if i' = 0 ∧ j' < 4 ∧ j' + 1 ≤ g then hl_T j' else 0)
    by_cases q : i' = 0 ∧ j' = g
    · rw [if_pos (c := 2 = 2 ∧ i' = 0 ∧ j' = g) ⟨rfl, q⟩, if_pos (by omega), hv, q.2]
    · rw [if_neg (c := 2 = 2 ∧ i' = 0 ∧ j' = g) (by omega)]
      by_cases q2 : i' = 0 ∧ j' < 4 ∧ j' + 1 ≤ g
      · rw [if_pos (c := i' = 0 ∧ j' < 4 ∧ j' + 1 ≤ g) q2, if_pos (by omega)]
      · rw [if_neg (c := i' = 0 ∧ j' < 4 ∧ j' + 1 ≤ g) q2, if_neg (by omega)]
  | 3 => rw [if_neg (by omega)]; rfl
  | 4 => rw [hl_i4 (by omega), hl_i4 (by omega), if_neg (by omega)]
  | m + 5 => rw [if_neg (by omega)]; rfl
theorem hl_2g {g g' i j : Nat} (h : 4 ≤ g) (h' : 4 ≤ g') : hl_I g 2 i j = hl_I g' 2 i j := by
  show (if i = 0 ∧ j < 4 ∧ j + 1 ≤ g then hl_T j else (0 : Int32)) = (if i = 0 ∧ j < 4 ∧ j + 1 ≤ g' then hl_T j else 0)
  by_cases q2 : i = 0 ∧ j < 4
  · rw [if_pos (by omega), if_pos (by omega)]
  · rw [if_neg (by omega), if_neg (by omega)]
theorem hl_w5 (m i' j' : Nat) : hl_I 5 m i' j' = if m = 0 ∧ i' = 0 ∧ j' = 14 then 2 else hl_I 4 m i' j' := by
  match m with
  | 0 =>
    rw [hl_i0 (g := 4) (by omega)]
    show (if i' = 0 ∧ j' = 14 ∧ 5 ≤ 5 then (2 : Int32) else if i' = 0 ∧ j' = 16 ∧ 6 ≤ 5 then -1 else 0) = _
    rw [if_neg (c := i' = 0 ∧ j' = 16 ∧ 6 ≤ 5) (by omega)]
    by_cases q : i' = 0 ∧ j' = 14
    · rw [if_pos (by omega), if_pos (by omega)]
    · rw [if_neg (by omega), if_neg (by omega)]
  | 1 => rw [hl_i1 (by omega), hl_i1 (by omega), if_neg (by omega)]
  | 2 =>
    rw [if_neg (by omega)]
    exact hl_2g (by omega) (by omega)
  | 3 => rw [if_neg (by omega)]; rfl
  | 4 => rw [hl_i4 (by omega), hl_i4 (by omega), if_neg (by omega)]
  | m + 5 => rw [if_neg (by omega)]; rfl
theorem hl_w6 (m i' j' : Nat) : hl_I 6 m i' j' = if m = 0 ∧ i' = 0 ∧ j' = 16 then -1 else hl_I 5 m i' j' := by
  match m with
  | 0 =>
    show (if i' = 0 ∧ j' = 14 ∧ 5 ≤ 6 then (2 : Int32) else if i' = 0 ∧ j' = 16 ∧ 6 ≤ 6 then -1 else 0) = if 0 = 0 ∧ i' = 0 ∧ j' = 16 then -1 else (if i' = 0 ∧ j' = 14 ∧ 5 ≤ 5 then (2 : Int32) else if i' = 0 ∧ j' = 16 ∧ 6 ≤ 5 then -1 else 0)
    rw [if_neg (c := i' = 0 ∧ j' = 16 ∧ 6 ≤ 5) (by omega)]
    by_cases q : i' = 0 ∧ j' = 14
    · rw [if_pos (by omega), if_neg (by omega), if_pos (by omega)]
    · rw [if_neg (by omega), if_neg (c := i' = 0 ∧ j' = 14 ∧ 5 ≤ 5) (by omega)]
      by_cases q2 : i' = 0 ∧ j' = 16
      · rw [if_pos (by omega), if_pos (by omega)]
      · rw [if_neg (by omega), if_neg (by omega)]
  | 1 => rw [hl_i1 (by omega), hl_i1 (by omega), if_neg (by omega)]
  | 2 => rw [if_neg (by omega)]; exact hl_2g (by omega) (by omega)
  | 3 => rw [if_neg (by omega)]; rfl
  | 4 => rw [hl_i4 (by omega), hl_i4 (by omega), if_neg (by omega)]
  | m + 5 => rw [if_neg (by omega)]; rfl
theorem hl_0g {g g' i j : Nat} (h : 6 ≤ g) (h' : 6 ≤ g') : hl_I g 0 i j = hl_I g' 0 i j := by
  show (if i = 0 ∧ j = 14 ∧ 5 ≤ g then (2 : Int32) else if i = 0 ∧ j = 16 ∧ 6 ≤ g then -1 else 0) = (if i = 0 ∧ j = 14 ∧ 5 ≤ g' then (2 : Int32) else if i = 0 ∧ j = 16 ∧ 6 ≤ g' then -1 else 0)
  by_cases q : i = 0 ∧ j = 14
  · rw [if_pos (by omega), if_pos (by omega)]
  · rw [if_neg (by omega), if_neg (c := i = 0 ∧ j = 14 ∧ 5 ≤ g') (by omega)]
    by_cases q2 : i = 0 ∧ j = 16
    · rw [if_pos (by omega), if_pos (by omega)]
    · rw [if_neg (by omega), if_neg (by omega)]
theorem hl_w7 {x : Nat} (h : x < 28) (m i' j' : Nat) : hl_I (6 + x + 1) m i' j' = if m = 1 ∧ i' = 0 ∧ j' = x then 18 else hl_I (6 + x) m i' j' := by
  match m with
  | 0 => rw [if_neg (by omega)]; exact hl_0g (by omega) (by omega)
  | 1 =>
    show (if i' = 0 ∧ j' < 28 ∧ 7 + j' ≤ 6 + x + 1 then (18 : Int32) else 0) = if 1 = 1 ∧ i' = 0 ∧ j' = x then 18 else (if i' = 0 ∧ j' < 28 ∧ 7 + j' ≤ 6 + x then (18 : Int32) else 0)
    by_cases q : i' = 0 ∧ j' = x
    · rw [if_pos (by omega), if_pos (by omega)]
    · rw [if_neg (c := 1 = 1 ∧ i' = 0 ∧ j' = x) (by omega)]
      by_cases q2 : i' = 0 ∧ j' < 28 ∧ 7 + j' ≤ 6 + x
      · rw [if_pos q2, if_pos (by omega)]
      · rw [if_neg q2, if_neg (by omega)]
  | 2 => rw [if_neg (by omega)]; exact hl_2g (by omega) (by omega)
  | 3 => rw [if_neg (by omega)]; rfl
  | 4 => rw [hl_i4 (by omega), hl_i4 (by omega), if_neg (by omega)]
  | m + 5 => rw [if_neg (by omega)]; rfl
theorem hl_1g {g g' i j : Nat} (h : 34 ≤ g) (h' : 34 ≤ g') : hl_I g 1 i j = hl_I g' 1 i j := by
  show (if i = 0 ∧ j < 28 ∧ 7 + j ≤ g then (18 : Int32) else 0) = (if i = 0 ∧ j < 28 ∧ 7 + j ≤ g' then (18 : Int32) else 0)
  by_cases q2 : i = 0 ∧ j < 28
  · rw [if_pos (by omega), if_pos (by omega)]
  · rw [if_neg (by omega), if_neg (by omega)]
theorem hl_w8 {a b : Nat} {v : Int32} (ha : a < 6) (hb : b < 6) (hv : v = if a = b then 0 else 3) (m i' j' : Nat) : hl_I (34 + 6 * a + b + 1) m i' j' = if m = 4 ∧ i' = a ∧ j' = b then v else hl_I (34 + 6 * a + b) m i' j' := by
  match m with
  | 0 => rw [if_neg (by omega)]; exact hl_0g (by omega) (by omega)
  | 1 => rw [if_neg (by omega)]; exact hl_1g (by omega) (by omega)
  | 2 => rw [if_neg (by omega)]; exact hl_2g (by omega) (by omega)
  | 3 => rw [if_neg (by omega)]; rfl
  | 4 =>
    show (if i' < 6 ∧ j' < 6 ∧ 35 + 6 * i' + j' ≤ 34 + 6 * a + b + 1 then (if i' = j' then (0 : Int32) else 3) else 0) = if 4 = 4 ∧ i' = a ∧ j' = b then v else (if i' < 6 ∧ j' < 6 ∧ 35 + 6 * i' + j' ≤ 34 + 6 * a + b then (if i' = j' then (0 : Int32) else 3) else 0)
    by_cases q : i' = a ∧ j' = b
    · obtain ⟨rfl, rfl⟩ := q
      rw [if_pos (c := 4 = 4 ∧ i' = i' ∧ j' = j') ⟨rfl, rfl, rfl⟩, if_pos (c := i' < 6 ∧ j' < 6 ∧ 35 + 6 * i' + j' ≤ 34 + 6 * i' + j' + 1) (by omega), hv]
    · rw [if_neg (c := 4 = 4 ∧ i' = a ∧ j' = b) (by omega)]
      by_cases q2 : i' < 6 ∧ j' < 6 ∧ 35 + 6 * i' + j' ≤ 34 + 6 * a + b
      · rw [if_pos (c := i' < 6 ∧ j' < 6 ∧ 35 + 6 * i' + j' ≤ 34 + 6 * a + b) q2, if_pos (by omega)]
      · rw [if_neg (c := i' < 6 ∧ j' < 6 ∧ 35 + 6 * i' + j' ≤ 34 + 6 * a + b) q2, if_neg (by omega)]
  | m + 5 => rw [if_neg (by omega)]; rfl
set_option maxHeartbeats 1000000 in
theorem sp_hall {n sn : Nat} {S : Nat → Nat × Nat × Nat} {R : Nat → Nat → Option qz_R} {I : Nat → Nat → Nat → Int32} {μ : qz_M} {c s : Nat} (hs : sn ≠ 0 ∧ sn < n) (hS : S sn = (1, 1, 0)) (h : d4 μ n S R I c s) :
    wz_call qf_115 [.inr (.inr (some (200, sn, 0)))] μ (fun μ' o => o = .inl none ∧ hl n sn S R I μ' 34 19 70 (c + 310) (s + 3647)) := by
  refine fw_115 sn μ _ ?_
  have h := hl_0 (sn := sn) h
  refine hl_row h hs hS rfl (fun i j => hl_i0 (by decide)) rfl (fun μ2 h => ?_)
  refine hl_row h hs hS rfl (fun i j => hl_i1 (by decide)) rfl (fun μ4 h => ?_)
  rintro μ5 rfl
  have hna := h.1
  rw [hna]
  replace h := hl_al (w := 4) h rfl (fun i j => hl_i2) hs
  refine hl_iw (o := 2) (j := 0) h (by decide) rfl (by decide) rfl (by decide) (by decide) rfl (fun m _ i' j' => hl_w2 (g := 0) (by decide) rfl m i' j') rfl (fun μ6 h => ?_)
  refine hl_iw (o := 2) (j := 1) h (by decide) rfl (by decide) rfl (by decide) (by decide) rfl (fun m _ i' j' => hl_w2 (g := 1) (by decide) rfl m i' j') rfl (fun μ7 h => ?_)
  refine hl_iw (o := 2) (j := 2) h (by decide) rfl (by decide) rfl (by decide) (by decide) rfl (fun m _ i' j' => hl_w2 (g := 2) (by decide) rfl m i' j') rfl (fun μ8 h => ?_)
  refine hl_iw (o := 2) (j := 3) h (by decide) rfl (by decide) rfl (by decide) (by decide) rfl (fun m _ i' j' => hl_w2 (g := 3) (by decide) rfl m i' j') rfl (fun μ9 h => ?_)
  refine hl_put h hs hS rfl (fun μ10 h => ?_)
  refine hl_row h hs hS rfl (fun i j => rfl) rfl (fun μ12 h => ?_)
  refine hl_tab h hs hS rfl rfl (fun i j => hl_i4 (by decide)) (fun i j => rfl) rfl (fun μ14 h => ?_)
  refine hl_tab h hs hS rfl rfl (fun i j => rfl) (fun i j => rfl) rfl (fun μ16 h => ?_)
  refine hl_tab h hs hS rfl rfl (fun i j => rfl) (fun i j => rfl) rfl (fun μ18 h => ?_)
  refine hl_tab h hs hS rfl rfl (fun i j => rfl) (fun i j => rfl) rfl (fun μ20 h => ?_)
  refine hl_tab h hs hS rfl rfl (fun i j => rfl) (fun i j => rfl) rfl (fun μ22 h => ?_)
  refine hl_tab h hs hS rfl rfl (fun i j => rfl) (fun i j => rfl) rfl (fun μ24 h => ?_)
  refine hl_tab h hs hS rfl rfl (fun i j => rfl) (fun i j => rfl) rfl (fun μ26 h => ?_)
  refine hl_tab h hs hS rfl rfl (fun i j => rfl) (fun i j => rfl) rfl (fun μ28 h => ?_)
  refine hl_tab h hs hS rfl rfl (fun i j => rfl) (fun i j => rfl) rfl (fun μ30 h => ?_)
  refine hl_tab h hs hS rfl rfl (fun i j => rfl) (fun i j => rfl) rfl (fun μ32 h => ?_)
  refine hl_tab h hs hS rfl rfl (fun i j => rfl) (fun i j => rfl) rfl (fun μ34 h => ?_)
  refine hl_tab h hs hS rfl rfl (fun i j => rfl) (fun i j => rfl) rfl (fun μ36 h => ?_)
  refine hl_tab h hs hS rfl rfl (fun i j => rfl) (fun i j => rfl) rfl (fun μ38 h => ?_)
  refine hl_tab h hs hS rfl rfl (fun i j => rfl) (fun i j => rfl) rfl (fun μ40 h => ?_)
  refine hl_tab h hs hS rfl rfl (fun i j => rfl) (fun i j => rfl) rfl (fun μ42 h => ?_)
  have hc : c + 1 + 1 + 1 + 1 = c + 4 := by omega
  refine wz_i1 (by rw [hl_tn h hs hS]; rfl) ?_
  rw [hl_fd h hs (j := 0) (by decide)]
  refine hl_iw (o := 0) (i := 0) (j := 14) h (by decide) rfl (by decide) rfl (by decide) (by decide) rfl (fun m _ i' j' => hl_w5 m i' j') rfl (fun μ44 h => ?_)
  refine wz_i1 (by rw [hl_tn h hs hS]; rfl) ?_
  rw [hl_fd h hs (j := 0) (by decide)]
  refine hl_iw (o := 0) (i := 0) (j := 16) h (by decide) rfl (by decide) rfl (by decide) (by decide) rfl (fun m _ i' j' => hl_w6 m i' j') rfl (fun μ46 h => ?_)
  replace h : hl n sn S R I μ46 34 19 6 (c + 310) (s + 3647) := h
  generalize c + 310 = c at h ⊢
  generalize s + 3647 = s at h ⊢
  refine wz_uD sb_115_1 [true, true, false] 28 (by decide) (fun i => [some (.inr (.inr (some (200, sn, 0)))), some (.inl (i3 i)), none]) (fun i μ' => hl n sn S R I μ' 34 19 (6 + i) c s) ?_ ?_ rfl h
  · intro i hi L μ hL h Iv hI
    refine fb_115_1 sn (i3 i) μ _ _ L hL ?_
    refine wz_i0 ?_ (wz_i1 (by rw [hl_tn h hs hS]; rfl) ?_)
    · rw [show (28 : Int32) = i3 28 from rfl, i3_decle ⟨by omega, by omega⟩ ⟨by omega, by omega⟩]
      exact decide_eq_false (by omega)
    rw [hl_fd h hs (j := 1) (by decide)]
    refine hl_iw (o := 1) (i := 0) (j := i) h (by decide) rfl (by decide) rfl (by omega) (by decide) ?_ (fun m _ i' j' => hl_w7 hi m i' j') rfl (fun μ44 h => ?_)
    · rw [i3_nat (by omega) (by omega)]
      omega
    · refine hI _ _ ?_ h
      rw [show (1 : Int32) = i3 1 from rfl, i3_add]
      rfl
  · intro L μ hL h Iv
    refine fb_115_1 sn (i3 28) μ _ _ L hL (wz_i1 rfl ?_)
    rw [wz_lk_0, wz_sk_0]
    refine fc_115_6 sn μ _ _ _ rfl ?_
    refine wz_uD sb_115_4 [true, true, false] 6 (by decide) (fun i => [some (.inr (.inr (some (200, sn, 0)))), some (.inl (i3 i)), none]) (fun i μ' => hl n sn S R I μ' 34 19 (34 + 6 * i) c s) ?_ ?_ rfl h
    · intro a ha L μ hL h Iv hI
      refine fb_115_4 sn (i3 a) μ _ _ L hL (wz_i0 ?_ ?_)
      · rw [show (5 : Int32) = i3 5 from rfl, i3_declt ⟨by omega, by omega⟩ ⟨by omega, by omega⟩]
        exact decide_eq_false (by omega)
      refine wz_uD sb_115_2 [true, true, true] 6 (by decide) (fun b => [some (.inr (.inr (some (200, sn, 0)))), some (.inl (i3 a)), some (.inl (i3 b))]) (fun b μ' => hl n sn S R I μ' 34 19 (34 + 6 * a + b) c s) ?_ ?_ rfl h
      · intro b hb L μ hL h Iv hI
        refine fb_115_2 sn (i3 a) (i3 b) μ _ _ L hL (wz_i0 ?_ (wz_i1 (by rw [hl_tn h hs hS]; rfl) ?_))
        · rw [show (5 : Int32) = i3 5 from rfl, i3_declt ⟨by omega, by omega⟩ ⟨by omega, by omega⟩]
          exact decide_eq_false (by omega)
        rw [hl_fd h hs (j := 4) (by decide)]
        refine wz_i1 (by rw [hl_tk (o := 5) h (by decide) rfl (by decide)]; rfl) (wz_i0 ?_ ?_)
        · rw [hl_lk (o := 5) h (by decide) rfl]
          exact i3_out (by omega) (by omega) (by decide)
        have e : qz_rf μ (200, n + (5 + 2 * (4 - 4)), 0) (i3 a).toNatClampNeg = some (200, n + 4, a) := by
          rw [i3_nat (by omega) (by omega)]
          show qz_rm μ 200 (n + 5) 0 (a : Int).toNat = _
          rw [d4_rm h (by omega), hl_Rk, Int.toNat_natCast]
          exact if_pos ⟨rfl, ha⟩
        rw [e]
        have hk : ∀ {μ' : qz_M} {v : Int32}, v = (if a = b then 0 else 3) → hl n sn S R I μ' 34 19 (34 + 6 * a + (b + 1)) c s → Iv ([some (.inr (.inr (some (200, sn, 0)))), some (.inl (i3 a)), some (.inl (i3 b + (1 : Int32)))], [], μ') := by
          intro μ' v _ h
          refine hI _ _ ?_ h
          rw [show (1 : Int32) = i3 1 from rfl, i3_add]
          rfl
        refine wz_if (fun q => ?_) (fun q => ?_)
        · have q : ¬ a = b := by
            rintro rfl
            rw [decide_eq_true rfl] at q
            cases q
          refine hl_iw (o := 4) (i := a) (j := b) h (by decide) rfl ha rfl hb (by decide) ?_ (fun m _ i' j' => hl_w8 ha hb (if_neg q).symm m i' j') rfl (fun μ44 h => hk (if_neg q).symm h)
          rw [i3_nat (by omega) (by omega), Int.toNat_natCast]
        · have q : a = b := by
            have q := of_decide_eq_true (p := i3 a = i3 b) (by cases hq : decide (i3 a = i3 b) <;> rw [hq] at q <;> first | rfl | cases q)
            rw [i3_eq ⟨by omega, by omega⟩ ⟨by omega, by omega⟩] at q
            omega
          refine hl_iw (o := 4) (i := a) (j := b) h (by decide) rfl ha rfl hb (by decide) ?_ (fun m _ i' j' => hl_w8 ha hb (if_pos q).symm m i' j') rfl (fun μ44 h => hk (if_pos q).symm h)
          rw [i3_nat (by omega) (by omega), Int.toNat_natCast]
      · intro L μ hL h Iv2
        refine fb_115_2 sn (i3 a) (i3 6) μ _ _ L hL (wz_i1 rfl ?_)
        rw [wz_lk_0, wz_sk_0]
        refine fc_115_3 sn (i3 a) μ _ _ _ rfl ?_
        refine hI _ _ ?_ h
        rw [show (1 : Int32) = i3 1 from rfl, i3_add]
        rfl
    · intro L μ hL h Iv
      refine fb_115_4 sn (i3 6) μ _ _ L hL (wz_i1 rfl ?_)
      rw [wz_lk_0, wz_sk_0]
      exact fc_115_5 μ _ _ _ rfl ⟨rfl, h⟩
/-! a new hall -/
def hx_S (q : Nat) : Nat × Nat × Nat := if q = 0 then (1, 1, 0) else hl_s (q - 1)
def hx_R (n q j : Nat) : Option qz_R := if q = 0 then (if j < 19 then hl_F (n + 1) j else none) else hl_R (n + 1) (q - 1) j
def hx_I (q i j : Nat) : Int32 := if q = 0 then 0 else hl_I 70 (q - 1) i j
/-- `new Hall()` -/
theorem d4_hall {μ : qz_M} {n : Nat} {S : Nat → Nat × Nat × Nat} {R : Nat → Nat → Option qz_R} {I : Nat → Nat → Nat → Int32} {c s : Nat} {P : qz_M → Prop} {E : qz_M → Nat → Prop} (h : d4 μ n S R I c s)
    (hS : ∀ q, q < 35 → S (n + q) = hx_S q) (hR : ∀ q, q < 35 → ∀ j, R (n + q) j = hx_R n q j) (hI : ∀ q, q < 35 → ∀ i j, I (n + q) i j = hx_I q i j) (h0 : n ≠ 0) (K : ∀ μ', d4 μ' (n + 35) S R I (c + 311) (s + 3666) → P μ') :
    wz_wr (qz_al μ 1 1 0 1 19) (fun μ5 => (bif Nat.beq (qz_tag μ5 (200, (qz_na μ), 0)) 1 && true then (wz_cV qf_115 [.inr (.inr (some (200, (qz_na μ), 0)))] μ5 P E) else False)) := by
  rintro μ5 rfl
  rw [h.1]
  -- behind the allocation: the new one has no fields yet
  have h1 : d4 (qz_al μ 1 1 0 1 19) (n + 1) S (fun o j => if o < n then R o j else none) I (c + 1) (s + 19) := by
    refine d4_al (d4_to h (fun o ho j => (if_pos ho).symm) (fun _ _ _ _ => rfl)) ?_ (fun j => if_neg (Nat.lt_irrefl n)) ?_ ?_
    · exact hS 0 (by decide)
    · exact fun i j => (hI 0 (by decide) i j).trans rfl
    · exact h0
  refine wz_i1 ?_ ?_
  · rw [d4_tag (t := 1) (ct := 1) (ln := 0) h1 (Nat.lt_succ_self n) ((hS 0 (by decide)).trans rfl) (by decide)]
    rfl
  obtain ⟨μ', o, e, rfl, hh⟩ := sp_hall ⟨h0, Nat.lt_succ_self n⟩ ((hS 0 (by decide)).trans rfl) h1
  refine wz_cV_of e (K μ' ?_)
  refine ⟨hh.1, fun o ho => ?_, hh.2.2⟩
  obtain ⟨q1, q2, q3, q4⟩ := hh.2.1 o (by omega)
  by_cases hlt : o < n + 1
  · refine ⟨q1.trans (if_pos hlt), fun j => (q2 j).trans ?_, fun i j => (q3 i j).trans (if_pos hlt), q4⟩
    unfold hl_Rn
    rw [if_pos hlt]
    by_cases e : o = n
    · subst e
      rw [show R o j = hx_R o 0 j from hR 0 (by decide) j]
      show _ = if j < 19 then hl_F (o + 1) j else none
      by_cases q : j < 19
      · rw [if_pos ⟨rfl, q⟩, if_pos q]
      · rw [if_neg (fun z => q z.2), if_neg q]
        exact if_neg (Nat.lt_irrefl o)
    · rw [if_neg (fun z => e z.1)]
      exact if_pos (by omega)
  · obtain ⟨q, rfl, hq⟩ : ∃ q, o = n + (q + 1) ∧ q + 1 < 35 := ⟨o - n - 1, by omega, by omega⟩
    refine ⟨q1.trans ?_, fun j => (q2 j).trans ?_, fun i j => (q3 i j).trans ?_, q4⟩
    · rw [hS _ hq]
      unfold hl_Sn
      rw [if_neg hlt, show n + (q + 1) - (n + 1) = q by omega]
      rfl
    · rw [hR _ hq]
      unfold hl_Rn
      rw [if_neg hlt, show n + (q + 1) - (n + 1) = q by omega]
      rfl
    · rw [hI _ hq]
      unfold hl_In
      rw [if_neg hlt, show n + (q + 1) - (n + 1) = q by omega]
      rfl
/-! what stands behind all constructors, all numbers told -/
def mh_hb : List Nat := [2, 41, 77, 112, 147, 182, 217, 252, 287, 322, 358, 393, 432, 467, 502]
def mh_h (m : Nat) : Option Nat := mh_hb.find? (fun a => Nat.ble a m && Nat.blt m (a + 35))
/-- those that are no halls -/
def mh_s (L m : Nat) : Nat × Nat × Nat := match m with | 0 => (60, 1, L) | 1 => (4, 1, 0) | 37 => (0, 1, 0) | 38 => (50, 520, 8) | 39 => (53, 1, 520) | 40 => (50, 1, 520) | 76 => (54, 1, 8) | 357 => (54, 1, 2) | 428 => (52, 1, 2) | 429 => (3, 1, 0) | 430 => (50, 1, 120) | 431 => (54, 1, 3) | 537 => (50, 1, 7) | 538 => (50, 1, 24) | 539 => (50, 1, 1024) | 540 => (5, 1, 0) | 541 => (50, 1, 4400) | 542 => (50, 1, 8800) | 543 => (50, 1, 3) | 544 => (50, 1, 1152) | 545 => (50, 1, 48) | 546 => (52, 1, 1152) | 547 => (50, 1, 48) | 548 => (50, 1, 24) | 549 => (50, 1, 24) | 550 => (50, 1, 24) | 551 => (52, 1, 24) | 552 => (50, 1, 5) | 553 => (50, 1, 5) | 554 => (50, 1, 5) | 555 => (50, 1, 15) | 556 => (50, 1, 5) | 557 => (50, 1, 5) | 558 => (50, 1, 160) | 559 => (50, 1, 60) | 560 => (50, 1, 1024) | 561 => (50, 1, 4400) | 562 => (50, 1, 35200) | 563 => (50, 1, 512) | 564 => (50, 1, 256) | 565 => (50, 1, 8800) | 566 => (50, 1, 0) | 567 => (50, 1, 0) | 568 => (50, 1, 0) | 569 => (50, 1, 0) | 570 => (50, 1, 2) | 571 => (50, 1, 2) | 572 => (50, 1, 2) | 573 => (50, 1, 120) | 574 => (50, 1, 4) | 575 => (51, 1, 1) | _ => (0, 0, 0)
def mh_S (L m : Nat) : Nat × Nat × Nat := match mh_h m with | some a => hx_S (m - a) | none => mh_s L m
def mh_R (m j : Nat) : Option qz_R := match mh_h m with | some a => hx_R a (m - a) j | none => if m = 39 ∧ j < 520 then some (200, 38, j) else none
def mh_I (f : Nat → Int32) (m i j : Nat) : Int32 := match mh_h m with | some a => hx_I (m - a) i j | none => if m = 0 ∧ i = 0 then f j else 0
/-- fields written since -/
def nu (R : Nat → Nat → Option qz_R) (l : List (Nat × Nat × qz_R)) (m j : Nat) : Option qz_R := match l with
  | [] => R m j
  | x :: l => if m = x.1 ∧ j = x.2.1 then some x.2.2 else nu R l m j
theorem nu_off {R : Nat → Nat → Option qz_R} {n m j : Nat} (hm : n ≤ m) : ∀ {l : List (Nat × Nat × qz_R)}, (l.all (fun x => Nat.blt x.1 n)) = true → nu R l m j = R m j
  | [], _ => rfl
  | x :: l, h => by
    rw [List.all_cons, Bool.and_eq_true] at h
    have := Nat.le_of_ble_eq_true h.1
    show (if m = x.1 ∧ j = x.2.1 then some x.2.2 else nu R l m j) = _
    rw [if_neg (by omega), nu_off hm h.2]
/-- the state when n families stand and the fields l are written -/
abbrev gd (L : Nat) (f : Nat → Int32) (μ : qz_M) (n : Nat) (l : List (Nat × Nat × qz_R)) (c s : Nat) : Prop := d4 μ n (mh_S L) (nu mh_R l) (mh_I f) c s
section GD
variable {L : Nat} {f : Nat → Int32} {μ : qz_M} {n c s : Nat} {l : List (Nat × Nat × qz_R)} {P : qz_M → Prop}
theorem mh_at {a q : Nat} (h : ((List.range 35).all (fun q => (mh_h (a + q) == some a))) = true) (hq : q < 35) : mh_h (a + q) = some a :=
  eq_of_beq (List.all_eq_true.mp h q (List.mem_range.mpr hq))
theorem gd_hall {E : qz_M → Nat → Prop} (h : gd L f μ n l c s) (hn : ((List.range 35).all (fun q => (mh_h (n + q) == some n))) = true) (hl : (l.all (fun x => Nat.blt x.1 n)) = true) (K : ∀ μ', gd L f μ' (n + 35) l (c + 311) (s + 3666) → P μ') (h0 : n ≠ 0 := by decide) :
    wz_wr (qz_al μ 1 1 0 1 19) (fun μ5 => (bif Nat.beq (qz_tag μ5 (200, (qz_na μ), 0)) 1 && true then (wz_cV qf_115 [.inr (.inr (some (200, (qz_na μ), 0)))] μ5 P E) else False)) := by
  refine d4_hall h (fun q hq => ?_) (fun q hq j => ?_) (fun q hq i j => ?_) h0 K
  · unfold mh_S
    rw [mh_at hn hq]
    show hx_S (n + q - n) = _
    rw [Nat.add_sub_cancel_left]
  · rw [nu_off (n := n) (by omega) hl]
    unfold mh_R
    rw [mh_at hn hq]
    show hx_R n (n + q - n) j = _
    rw [Nat.add_sub_cancel_left]
  · unfold mh_I
    rw [mh_at hn hq]
    show hx_I (n + q - n) i j = _
    rw [Nat.add_sub_cancel_left]
theorem gd_put {sn t k x y : Nat} (h : gd L f μ n l c s) (hs : sn < n) (hS : mh_S L sn = (t, 1, 0)) (hx : x = y) (K : ∀ μ', gd L f μ' n ((sn, k, (200, y, 0)) :: l) c s → P μ') (h0 : sn ≠ 0 := by decide) :
    (bif (Nat.beq (qz_tag μ (200, sn, 0)) t && true) && (true && (true && qz_dy (200, sn, 0) k)) then wz_wr (qz_wR μ (200, sn, 0) k (some (200, x, 0))) P else False) := by
  subst hx
  refine wz_i1 ?_ ?_
  · rw [d4_tag h hs hS (by decide), Nat.beq_refl]
    rfl
  · rintro μ' rfl
    exact K _ (d4_wR h (fun m _ j' => rfl) h0)
theorem gd_al {t w : Nat} (h : gd L f μ n l c s) (hh : mh_h n = none) (h0 : n ≠ 0) (h39 : n ≠ 39) (hS : mh_s L n = (t, 1, w)) (C SS : Nat) (hl : (l.all (fun x => Nat.blt x.1 n)) = true) : gd L f (qz_al μ t 1 w C SS) (n + 1) l (c + C) (s + SS) := by
  refine d4_al h ?_ (fun j => ?_) (fun i j => ?_) ?_
  · unfold mh_S
    rw [hh]
    exact hS
  · rw [nu_off (n := n) (Nat.le_refl n) hl]
    unfold mh_R
    rw [hh]
    exact if_neg (fun z => h39 z.1)
  · unfold mh_I
    rw [hh]
    exact if_neg (fun z => h0 z.1)
  · exact h0
theorem gd_row {sn t k t2 w : Nat} (h : gd L f μ n l c s) (hs : sn < n) (hS : mh_S L sn = (t2, 1, 0)) (hh : mh_h n = none) (h0 : n ≠ 0) (h39 : n ≠ 39) (hw : mh_s L n = (t, 1, w)) (hl : (l.all (fun x => Nat.blt x.1 n)) = true) (K : ∀ μ', gd L f μ' (n + 1) ((sn, k, (200, n, 0)) :: l) (c + 1) (s + w) → P μ') (hs0 : sn ≠ 0 := by decide) :
    wz_wr (qz_al μ t 1 w 1 w) (fun μ1 => (bif (Nat.beq (qz_tag μ1 (200, sn, 0)) t2 && true) && (true && (true && qz_dy (200, sn, 0) k)) then wz_wr (qz_wR μ1 (200, sn, 0) k (some (200, (qz_na μ), 0))) P else False)) := by
  rintro μ1 rfl
  exact gd_put (gd_al h hh h0 h39 hw 1 w hl) (by omega) hS h.1 K hs0
theorem gd_int {sn t k : Nat} (h : gd L f μ n l c s) (hs : sn < n) (hS : mh_S L sn = (t, 1, 0)) (hI : mh_I f sn 0 k = 0) (K : ∀ μ', gd L f μ' n l c s → P μ') :
    (bif (Nat.beq (qz_tag μ (200, sn, 0)) t && true) && true then wz_wr (qz_wI μ (200, sn, 0) k (0 : Int32)) P else False) := by
  refine wz_i1 ?_ ?_
  · rw [d4_tag h hs hS (by decide), Nat.beq_refl]
    rfl
  · rintro μ' rfl
    refine K _ (d4_wI h (fun m _ i' j' => ?_))
    by_cases q : m = sn ∧ i' = 0 ∧ j' = k
    · rw [if_pos q, q.1, q.2.1, q.2.2, hI]
    · rw [if_neg q]
theorem gd_aput {A H a b w k : Nat} {x : Int32} (h : gd L f μ n l c s) (hA : A = a) (hH : H = b) (ha : a < n) (hb : b < n) (hSa : mh_S L a = (54, 1, w)) (hSb : mh_S L b = (1, 1, 0)) (hx : x = i3 k) (hk : k < w) (hw : w ≤ 2147483648) (K : ∀ μ', gd L f μ' n ((a, k, (200, b, 0)) :: l) c s → P μ') (ha0 : a ≠ 0 := by decide) :
    (bif Nat.beq (qz_tag μ (200, A, 0)) 54 && (Nat.beq (qz_tag μ (200, H, 0)) 1 && true) then (bif pz_out x (qz_len μ (200, A, 0)) then False else wz_wr (qz_wR μ (200, A, 0) k (some (200, H, 0))) P) else False) := by
  subst hA hH hx
  refine wz_i1 ?_ (wz_i0 ?_ ?_)
  · rw [d4_tag h ha hSa (by decide), d4_tag h hb hSb (by decide)]
    rfl
  · rw [d4_len h ha, hSa]
    exact i3_out (by omega) (by show (k : Int) < (w : Nat); omega) hw
  · rintro μ' rfl
    exact K _ (d4_wR h (fun m _ j' => rfl) ha0)
end GD
theorem gd_cs {L : Nat} {f : Nat → Int32} {μ : qz_M} {n c s c' s' : Nat} {l : List (Nat × Nat × qz_R)} (h : gd L f μ n l c s) (hc : c = c') (hs : s = s') : gd L f μ n l c' s' := by
  subst hc hs
  exact h
theorem gd_acts {L : Nat} {f : Nat → Int32} {μ : qz_M} {c s : Nat} {l : List (Nat × Nat × qz_R)} (h : gd L f μ 38 l c s) (hl : (l.all (fun x => Nat.blt x.1 38)) = true) : gd L f (qz_alr (qz_al μ 50 520 8 520 (520 * 8)) 53 1 520 1 520 (fun j => if j < 520 then some (200, qz_na μ, j) else none)) 40 l (c + 520 + 1) (s + 520 * 8 + 520) := by
  have hl2 : (l.all (fun x => Nat.blt x.1 39)) = true := by
    rw [List.all_eq_true] at hl ⊢
    intro x hx
    have := Nat.le_of_ble_eq_true (hl x hx)
    exact Nat.ble_eq_true_of_le (by omega)
  have h1 : gd L f (qz_al μ 50 520 8 520 (520 * 8)) 39 l (c + 520) (s + 520 * 8) :=
    d4_al h rfl (fun j => (nu_off (Nat.le_refl 38) hl).trans (show (if 38 = 39 ∧ j < 520 then some (200, 38, j) else none) = none from if_neg (fun z => absurd z.1 (by decide)))) (fun i j => show (if 38 = 0 ∧ i = 0 then f j else 0) = 0 from if_neg (fun z => absurd z.1 (by decide))) (by decide)
  refine d4_alr h1 rfl (fun j => (nu_off (Nat.le_refl 39) hl2).trans ?_) (fun i j => show (if 39 = 0 ∧ i = 0 then f j else 0) = 0 from if_neg (fun z => absurd z.1 (by decide))) (by decide)
  rw [h.1]
  show (if 39 = 39 ∧ j < 520 then some (200, 38, j) else none) = if j < 520 then some (200, 38, j) else none
  by_cases q : j < 520
  · rw [if_pos q, if_pos ⟨rfl, q⟩]
  · rw [if_neg q, if_neg (fun z => q z.2)]
set_option maxHeartbeats 4000000 in
/-- `new Deeds()` behind its own allocation -/
theorem sp_deeds {L : Nat} {f : Nat → Int32} {μ : qz_M} {c s : Nat} {l : List (Nat × Nat × qz_R)} (h : gd L f μ 38 l c s) (hl : (l.all (fun x => Nat.blt x.1 38)) = true) : wz_call qf_82 [.inr (.inr (some (200, 37, 0)))] μ (fun μ' o => o = .inl none ∧ gd L f μ' 429 ((37, 5, (200, 428, 0)) :: (37, 4, (200, 357, 0)) :: (357, 1, (200, 393, 0)) :: (357, 0, (200, 358, 0)) :: (37, 3, (200, 76, 0)) :: (76, 7, (200, 322, 0)) :: (76, 6, (200, 287, 0)) :: (76, 5, (200, 252, 0)) :: (76, 4, (200, 217, 0)) :: (76, 3, (200, 182, 0)) :: (76, 2, (200, 147, 0)) :: (76, 1, (200, 112, 0)) :: (76, 0, (200, 77, 0)) :: (37, 2, (200, 41, 0)) :: (37, 1, (200, 40, 0)) :: (37, 0, (200, 39, 0)) :: l) (c + 3946) (s + 45538)) := by
  have hl' : ∀ {n : Nat}, 38 ≤ n → (l.all (fun x => Nat.blt x.1 n)) = true := fun {n} hn => by
    rw [List.all_eq_true] at hl ⊢
    intro x hx
    have := Nat.le_of_ble_eq_true (hl x hx)
    exact Nat.ble_eq_true_of_le (by omega)
  refine fw_82 37 μ _ ?_
  rintro μ1 rfl
  have e0 := h.1
  replace h := gd_acts h hl
  refine gd_put h (by decide) rfl (y := 39) (by rw [e0]) (fun μ2 h => ?_)
  refine gd_row h (by decide) rfl rfl (by decide) (by decide) rfl (by simp only [List.all_cons, hl' (show 38 ≤ 40 from by decide)]; rfl) (fun μ4 h => ?_)
  have e4 := h.1
  refine gd_hall h (by decide) (by simp only [List.all_cons, hl' (show 38 ≤ 41 from by decide)]; rfl) (fun μ6 h => ?_)
  refine gd_put h (by decide) rfl e4 (fun μ7 h => ?_)
  have e7 := h.1
  rintro μ8 rfl
  replace h := gd_al (t := 54) (w := 8) h rfl (by decide) (by decide) rfl 1 8 (by simp only [List.all_cons, hl' (show 38 ≤ 76 from by decide)]; rfl)
  have e8 := h.1
  refine gd_hall h (by decide) (by simp only [List.all_cons, hl' (show 38 ≤ 77 from by decide)]; rfl) (fun μ10 h => ?_)
  refine gd_aput (w := 8) h e7 e8 (by decide) (by decide) rfl rfl rfl (by decide) (by decide) (fun μ11 h => ?_)
  have e11 := h.1
  refine gd_hall h (by decide) (by simp only [List.all_cons, hl' (show 38 ≤ 112 from by decide)]; rfl) (fun μ13 h => ?_)
  refine gd_aput (w := 8) h e7 e11 (by decide) (by decide) rfl rfl rfl (by decide) (by decide) (fun μ14 h => ?_)
  have e14 := h.1
  refine gd_hall h (by decide) (by simp only [List.all_cons, hl' (show 38 ≤ 147 from by decide)]; rfl) (fun μ16 h => ?_)
  refine gd_aput (w := 8) h e7 e14 (by decide) (by decide) rfl rfl rfl (by decide) (by decide) (fun μ17 h => ?_)
  have e17 := h.1
  refine gd_hall h (by decide) (by simp only [List.all_cons, hl' (show 38 ≤ 182 from by decide)]; rfl) (fun μ19 h => ?_)
  refine gd_aput (w := 8) h e7 e17 (by decide) (by decide) rfl rfl rfl (by decide) (by decide) (fun μ20 h => ?_)
  have e20 := h.1
  refine gd_hall h (by decide) (by simp only [List.all_cons, hl' (show 38 ≤ 217 from by decide)]; rfl) (fun μ22 h => ?_)
  refine gd_aput (w := 8) h e7 e20 (by decide) (by decide) rfl rfl rfl (by decide) (by decide) (fun μ23 h => ?_)
  have e23 := h.1
  refine gd_hall h (by decide) (by simp only [List.all_cons, hl' (show 38 ≤ 252 from by decide)]; rfl) (fun μ25 h => ?_)
  refine gd_aput (w := 8) h e7 e23 (by decide) (by decide) rfl rfl rfl (by decide) (by decide) (fun μ26 h => ?_)
  have e26 := h.1
  refine gd_hall h (by decide) (by simp only [List.all_cons, hl' (show 38 ≤ 287 from by decide)]; rfl) (fun μ28 h => ?_)
  refine gd_aput (w := 8) h e7 e26 (by decide) (by decide) rfl rfl rfl (by decide) (by decide) (fun μ29 h => ?_)
  have e29 := h.1
  refine gd_hall h (by decide) (by simp only [List.all_cons, hl' (show 38 ≤ 322 from by decide)]; rfl) (fun μ31 h => ?_)
  refine gd_aput (w := 8) h e7 e29 (by decide) (by decide) rfl rfl rfl (by decide) (by decide) (fun μ32 h => ?_)
  refine gd_put h (by decide) rfl e7 (fun μ33 h => ?_)
  have e33 := h.1
  rintro μ34 rfl
  replace h := gd_al (t := 54) (w := 2) h rfl (by decide) (by decide) rfl 1 2 (by simp only [List.all_cons, hl' (show 38 ≤ 357 from by decide)]; rfl)
  have e34 := h.1
  refine gd_hall h (by decide) (by simp only [List.all_cons, hl' (show 38 ≤ 358 from by decide)]; rfl) (fun μ36 h => ?_)
  refine gd_aput (w := 2) h e33 e34 (by decide) (by decide) rfl rfl rfl (by decide) (by decide) (fun μ37 h => ?_)
  have e37 := h.1
  refine gd_hall h (by decide) (by simp only [List.all_cons, hl' (show 38 ≤ 393 from by decide)]; rfl) (fun μ39 h => ?_)
  refine gd_aput (w := 2) h e33 e37 (by decide) (by decide) rfl rfl rfl (by decide) (by decide) (fun μ40 h => ?_)
  refine gd_put h (by decide) rfl e33 (fun μ41 h => ?_)
  refine gd_row h (by decide) rfl rfl (by decide) (by decide) rfl (by simp only [List.all_cons, hl' (show 38 ≤ 428 from by decide)]; rfl) (fun μ42 h => ?_)
  refine gd_int h (by decide) rfl rfl (fun μ43 h => ?_)
  refine gd_int h (by decide) rfl rfl (fun μ44 h => ?_)
  refine gd_int h (by decide) rfl rfl (fun μ45 h => ?_)
  exact ⟨rfl, gd_cs h (by omega) (by omega)⟩
theorem sp_slate {L : Nat} {f : Nat → Int32} {μ : qz_M} {c s : Nat} {l : List (Nat × Nat × qz_R)} (h : gd L f μ 430 l c s) (hl : (l.all (fun x => Nat.blt x.1 430)) = true) : wz_call qf_153 [.inr (.inr (some (200, 429, 0)))] μ (fun μ' o => o = .inl none ∧ gd L f μ' 431 ((429, 0, (200, 430, 0)) :: l) (c + 1) (s + 120)) := by
  refine fw_153 429 μ _ ?_
  refine gd_row h (by decide) rfl rfl (by decide) (by decide) rfl hl (fun μ2 h => ?_)
  refine gd_int h (by decide) rfl rfl (fun μ3 h => ?_)
  exact ⟨rfl, h⟩
def mh_l : List (Nat × Nat × qz_R) := (1, 6, (200, 539, 0)) :: (1, 5, (200, 538, 0)) :: (1, 4, (200, 537, 0)) :: (1, 3, (200, 431, 0)) :: (431, 2, (200, 502, 0)) :: (431, 1, (200, 467, 0)) :: (431, 0, (200, 432, 0)) :: (1, 2, (200, 429, 0)) :: (429, 0, (200, 430, 0)) :: (1, 1, (200, 37, 0)) :: (37, 5, (200, 428, 0)) :: (37, 4, (200, 357, 0)) :: (357, 1, (200, 393, 0)) :: (357, 0, (200, 358, 0)) :: (37, 3, (200, 76, 0)) :: (76, 7, (200, 322, 0)) :: (76, 6, (200, 287, 0)) :: (76, 5, (200, 252, 0)) :: (76, 4, (200, 217, 0)) :: (76, 3, (200, 182, 0)) :: (76, 2, (200, 147, 0)) :: (76, 1, (200, 112, 0)) :: (76, 0, (200, 77, 0)) :: (37, 2, (200, 41, 0)) :: (37, 1, (200, 40, 0)) :: (37, 0, (200, 39, 0)) :: (1, 0, (200, 2, 0)) :: []
set_option maxHeartbeats 4000000 in
/-- `new MarketHall()` behind its own allocation -/
theorem sp_mh {L : Nat} {f : Nat → Int32} {μ : qz_M} {c s : Nat} (h : gd L f μ 2 [] c s) : wz_call qf_210 [.inr (.inr (some (200, 1, 0)))] μ (fun μ' o => o = .inl none ∧ gd L f μ' 540 mh_l (c + 5197) (s + 61391)) := by
  refine fw_210 1 μ _ ?_
  have e0 := h.1
  refine gd_hall h (by decide) rfl (fun μ2 h => ?_)
  refine gd_put h (by decide) rfl e0 (fun μ3 h => ?_)
  have e3 := h.1
  rintro μ4 rfl
  rw [e3]
  replace h := gd_al (t := 0) (w := 0) h rfl (by decide) (by decide) rfl 1 9 rfl
  refine wz_i1 (by rw [d4_tag (t := 0) (ct := 1) (ln := 0) h (by decide) rfl (by decide)]; rfl) ?_
  obtain ⟨μ5, o, e, rfl, h⟩ := sp_deeds h rfl
  refine wz_cV_of e ?_
  refine gd_put h (by decide) rfl rfl (fun μ6 h => ?_)
  have e6 := h.1
  rintro μ7 rfl
  rw [e6]
  replace h := gd_al (t := 3) (w := 0) h rfl (by decide) (by decide) rfl 1 2 rfl
  refine wz_i1 (by rw [d4_tag (t := 3) (ct := 1) (ln := 0) h (by decide) rfl (by decide)]; rfl) ?_
  obtain ⟨μ8, o, e, rfl, h⟩ := sp_slate h rfl
  refine wz_cV_of e ?_
  refine gd_put h (by decide) rfl rfl (fun μ9 h => ?_)
  have e9 := h.1
  rintro μ10 rfl
  replace h := gd_al (t := 54) (w := 3) h rfl (by decide) (by decide) rfl 1 3 rfl
  have e10 := h.1
  refine gd_hall h (by decide) rfl (fun μ12 h => ?_)
  refine gd_aput (w := 3) h e9 e10 (by decide) (by decide) rfl rfl rfl (by decide) (by decide) (fun μ13 h => ?_)
  have e13 := h.1
  refine gd_hall h (by decide) rfl (fun μ15 h => ?_)
  refine gd_aput (w := 3) h e9 e13 (by decide) (by decide) rfl rfl rfl (by decide) (by decide) (fun μ16 h => ?_)
  have e16 := h.1
  refine gd_hall h (by decide) rfl (fun μ18 h => ?_)
  refine gd_aput (w := 3) h e9 e16 (by decide) (by decide) rfl rfl rfl (by decide) (by decide) (fun μ19 h => ?_)
  refine gd_put h (by decide) rfl e9 (fun μ20 h => ?_)
  refine gd_row h (by decide) rfl rfl (by decide) (by decide) rfl rfl (fun μ21 h => ?_)
  refine gd_row h (by decide) rfl rfl (by decide) (by decide) rfl rfl (fun μ23 h => ?_)
  refine gd_row h (by decide) rfl rfl (by decide) (by decide) rfl rfl (fun μ25 h => ?_)
  exact ⟨rfl, gd_cs h (by omega) (by omega)⟩
