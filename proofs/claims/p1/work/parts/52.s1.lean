/-! LOOPS THAT COUNT UP, what is read behind a write, and the first specs. -/
theorem wz_up {F : qz_F} {G : wz_W} {k : wz_K} {R : wz_R} (hS : wz_S G F) (ms : List Bool) (N : Nat) (hN : N < 65536) (Ls : Nat → qz_L) (μs : Nat → qz_M)
    (hstep : ∀ i, i < N → ∀ L, qz_fg ms L = Ls i → ∀ I : qz_X → Prop, (∀ L', qz_fg ms L' = Ls (i + 1) → I (L', [], μs (i + 1))) → G (wz_lk k I) R (L, [], μs i))
    (hend : ∀ L, qz_fg ms L = Ls N → ∀ I : qz_X → Prop, G (wz_lk k I) R (L, [], μs N)) {L : qz_L} (h0 : qz_fg ms L = Ls 0) : wz_loop F 65536 k R (L, [], μs 0) := by
  refine wz_lp hS (fun m x => ∃ i, i ≤ N ∧ m = N - i ∧ qz_fg ms x.1 = Ls i ∧ x.2 = ([], μs i)) ?_ 65536 N _ hN ⟨0, Nat.zero_le _, rfl, h0, rfl⟩
  rintro m ⟨L, st, μ⟩ ⟨i, hi, rfl, hL, e⟩
  cases e
  rcases Nat.lt_or_ge i N with h | h
  · exact hstep i h L hL _ (fun L' hL' => ⟨N - (i + 1), by omega, i + 1, h, rfl, hL', rfl⟩)
  · obtain rfl : i = N := Nat.le_antisymm hi h
    exact hend L hL _
/-- the same, the memory unchanged -/
theorem wz_up_c {F : qz_F} {G : wz_W} {k : wz_K} {R : wz_R} {μ : qz_M} (hS : wz_S G F) (ms : List Bool) (N : Nat) (hN : N < 65536) (Ls : Nat → qz_L)
    (hstep : ∀ i, i < N → ∀ L, qz_fg ms L = Ls i → ∀ I : qz_X → Prop, (∀ L', qz_fg ms L' = Ls (i + 1) → I (L', [], μ)) → G (wz_lk k I) R (L, [], μ))
    (hend : ∀ L, qz_fg ms L = Ls N → ∀ I : qz_X → Prop, G (wz_lk k I) R (L, [], μ)) {L : qz_L} (h0 : qz_fg ms L = Ls 0) : wz_loop F 65536 k R (L, [], μ) := wz_up hS ms N hN Ls (fun _ => μ) hstep hend h0
theorem wz_lk_0 {k : wz_K} {I : qz_X → Prop} {x : qz_X} : wz_lk k I 0 x = k 0 x := rfl
theorem wz_lk_1 {k : wz_K} {I : qz_X → Prop} {x : qz_X} : wz_lk k I 1 x = I x := rfl
theorem wz_sk_0 {G : wz_W} {k : wz_K} {R : wz_R} {x : qz_X} : wz_sk G k R 0 x = G k R x := rfl
theorem wz_kb_0 {k : wz_K} {x : qz_X} : wz_kb k 0 x = k 0 x := rfl
section RD
variable (μ : qz_M) (r : qz_R) (j : Nat) (v : Int32) (k b i j' : Nat)
theorem rd_I : qz_im (qz_wI μ r j v) k b i j' = if k = r.1 ∧ b = r.2.1 ∧ i = r.2.2 ∧ j' = j then v else qz_im μ k b i j' := rfl
theorem rd_C (c : Nat → Int32) : qz_im (qz_wC μ r c) k b i j' = if k = r.1 ∧ b = r.2.1 ∧ i = r.2.2 then c j' else qz_im μ k b i j' := by
  show (if k = r.1 ∧ b = r.2.1 ∧ i = r.2.2 then c else qz_im μ k b i) j' = _
  split <;> rfl
theorem rd_Iq : qz_im (qz_wI μ r j v) r.1 r.2.1 r.2.2 j = v := if_pos ⟨rfl, rfl, rfl, rfl⟩
end RD
/-! refusals -/
theorem sp_refuse1 (μ : qz_M) : qf_234 [.inl 1] μ = some (qz_kk μ 1 6, .inr 24) := wz_call_eq (fw_234 1 μ _ (wz_i0 rfl ⟨rfl, rfl⟩))
theorem sp_refuse2 (μ : qz_M) : qf_234 [.inl 2] μ = some (qz_kk μ 1 6, .inr 13) := wz_call_eq (fw_234 2 μ _ (wz_i1 rfl (wz_i0 rfl ⟨rfl, rfl⟩)))
theorem sp_refuse3 (μ : qz_M) : qf_234 [.inl 3] μ = some (qz_kk μ 1 6, .inr 15) := wz_call_eq (fw_234 3 μ _ (wz_i1 rfl (wz_i1 rfl (wz_i0 rfl ⟨rfl, rfl⟩))))
theorem sp_refuse0 (μ : qz_M) : qf_234 [.inl 0] μ = some (μ, .inl none) := wz_call_eq (fw_234 0 μ _ (wz_i1 rfl (wz_i1 rfl (wz_i1 rfl ⟨rfl, rfl⟩))))
theorem sp_thing_y {a n : Int32} {μ : qz_M} (h0 : 0 ≤ a) (h1 : a < n) : qf_249 [.inl a, .inl n] μ = some (μ, .inl none) := wz_call_eq (fw_249 a n μ _ (wz_i0 (decide_eq_false (Int32.not_lt.mpr h0)) (wz_i1 (decide_eq_true h1) ⟨rfl, rfl⟩)))
theorem sp_thing_n {a n : Int32} {μ : qz_M} (h : ¬ (0 ≤ a ∧ a < n)) : qf_249 [.inl a, .inl n] μ = some (qz_kk μ 1 6, .inr 24) := by
  refine wz_call_eq (fw_249 a n μ _ ?_)
  exact wz_if (fun _ => ⟨rfl, rfl⟩) (fun h1 => wz_if (fun h2 => absurd ⟨Int32.not_lt.mp (of_decide_eq_false h1), of_decide_eq_true h2⟩ h) (fun _ => ⟨rfl, rfl⟩))
theorem sp_inRange_y {a l m : Int32} {μ : qz_M} (h0 : l ≤ a) (h1 : a ≤ m) : qf_208 [.inl a, .inl l, .inl m] μ = some (μ, .inl none) := wz_call_eq (fw_208 a l m μ _ (wz_i0 (decide_eq_false (Int32.not_lt.mpr h0)) (wz_i1 (decide_eq_true h1) ⟨rfl, rfl⟩)))
theorem sp_inRange_n {a l m : Int32} {μ : qz_M} (h : ¬ (l ≤ a ∧ a ≤ m)) : qf_208 [.inl a, .inl l, .inl m] μ = some (qz_kk μ 1 6, .inr 13) := by
  refine wz_call_eq (fw_208 a l m μ _ ?_)
  exact wz_if (fun _ => ⟨rfl, rfl⟩) (fun h1 => wz_if (fun h2 => absurd ⟨Int32.not_lt.mp (of_decide_eq_false h1), of_decide_eq_true h2⟩ h) (fun _ => ⟨rfl, rfl⟩))
theorem sp_inTime_y {c : Int32} {μ : qz_M} (h : c ≠ 0) : qf_209 [.inl c] μ = some (μ, .inl none) := wz_call_eq (fw_209 c μ _ (wz_i1 (by rw [decide_eq_false h]; rfl) ⟨rfl, rfl⟩))
theorem sp_inTime_n {μ : qz_M} : qf_209 [.inl 0] μ = some (qz_kk μ 1 6, .inr 15) := wz_call_eq (fw_209 0 μ _ (wz_i0 rfl (⟨rfl, rfl⟩)))
/-! rows copied -/
theorem i3_ofNat (n : Nat) : Int32.ofNat n = i3 n := rfl
theorem cr_min {n0 n1 : Nat} (b0 : n0 < 2147483648) (b1 : n1 < 2147483648) : (if Int32.ofNat n1 < Int32.ofNat n0 then Int32.ofNat n1 else Int32.ofNat n0) = i3 (min n0 n1 : Nat) ∧ (i3 (min n0 n1 : Nat)).toNatClampNeg = min n0 n1 ∧ ¬ i3 (min n0 n1 : Nat) < 0 := by
  refine ⟨?_, ?_, ?_⟩
  · rw [i3_ofNat, i3_ofNat]
    simp only [i3_lt (a := (n1 : Int)) (b := (n0 : Int)) ⟨by omega, by omega⟩ ⟨by omega, by omega⟩]
    split
    · rw [Nat.min_eq_right (by omega)]
    · rw [Nat.min_eq_left (by omega)]
  · rw [i3_nat (by omega) (by omega)]
    omega
  · rw [show (0 : Int32) = i3 0 from rfl, i3_lt ⟨by omega, by omega⟩ ⟨by omega, by omega⟩]
    omega
theorem sp_copyRow (a0 a1 : qz_R) (μ : qz_M) (n0 n1 : Nat) (h0 : qz_tag μ a0 = 50) (h1 : qz_tag μ a1 = 50) (e0 : qz_len μ a0 = n0) (e1 : qz_len μ a1 = n1) (b0 : n0 < 2147483648) (b1 : n1 < 2147483648) :
    qf_112 [.inr (.inr (some a0)), .inr (.inr (some a1))] μ = some (qz_wC μ a1 (va_cpy (qz_im μ a0.1 a0.2.1 a0.2.2) (qz_im μ a1.1 a1.2.1 a1.2.2) 0 0 (min n0 n1)), .inl none) := by
  refine wz_call_eq (fw_112 a0 a1 μ _ ?_)
  have hm : (if Int32.ofNat n1 < Int32.ofNat n0 then Int32.ofNat n1 else Int32.ofNat n0) = i3 (min n0 n1 : Nat) := by
    rw [i3_ofNat, i3_ofNat]
    simp only [i3_lt (a := (n1 : Int)) (b := (n0 : Int)) ⟨by omega, by omega⟩ ⟨by omega, by omega⟩]
    split
    · rw [Nat.min_eq_right (by omega)]
    · rw [Nat.min_eq_left (by omega)]
  rw [h0, h1, e0, e1, hm]
  have hn : (i3 (min n0 n1 : Nat)).toNatClampNeg = min n0 n1 := by
    rw [i3_nat (by omega) (by omega)]
    omega
  have hz : ¬ i3 (min n0 n1 : Nat) < 0 := by
    rw [show (0 : Int32) = i3 0 from rfl, i3_lt ⟨by omega, by omega⟩ ⟨by omega, by omega⟩]
    omega
  rw [hn]
  refine ⟨⟨by decide, by decide, hz, ?_, ?_⟩, fun μ' e => ⟨e, rfl⟩⟩
  · show 0 + min n0 n1 ≤ n0
    omega
  · show 0 + min n0 n1 ≤ n1
    omega
