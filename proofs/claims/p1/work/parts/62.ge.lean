/-! the Model's constructor -/
abbrev ge (L : Nat) (f w : Nat → Int32) (μ : qz_M) (n : Nat) (l : List (Nat × Nat × qz_R)) (c s : Nat) : Prop := d4 μ n (mh_S L) (nu mh_R l) (fun m i j => if m = 541 ∧ i = 0 then w j else mh_I f m i j) c s
section GE
variable {L : Nat} {f w w' : Nat → Int32} {μ : qz_M} {n c s : Nat} {l : List (Nat × Nat × qz_R)} {P : qz_M → Prop}
theorem ge_0 (h : gd L f μ n l c s) : ge L f (fun _ => 0) μ n l c s := by
  refine d4_to h (fun _ _ _ => rfl) (fun o ho i j => ?_)
  by_cases q : o = 541 ∧ i = 0
  · rw [if_pos q, q.1]
    rfl
  · rw [if_neg q]
theorem ge_to (h : ge L f w μ n l c s) (e : ∀ j, w j = w' j) : ge L f w' μ n l c s := by
  have : w = w' := funext e
  subst this
  exact h
theorem ge_t (h : ge L f w μ n l c s) (hn : 541 < n) : (Nat.beq (qz_tag μ (200, 540, 0)) 5 && true) = true := by
  rw [d4_tag (t := 5) (ct := 1) (ln := 0) h (by omega) rfl (by decide)]
  rfl
theorem ge_s {X v : Int32} {x : Nat} (h : ge L f w μ n l c s) (hn : 541 < n) (hl : nu mh_R l 540 0 = some (200, 541, 0)) (hX : X = i3 x) (hx : x < 4400) (K : ∀ μ', ge L f (fun j => if j = x then v else w j) μ' n l c s → P μ') (y : Nat) (hy : y = x) :
    (bif Nat.beq (qz_tag μ (200, 540, 0)) 5 && true then (wz_rk (qz_rm μ 200 540 0 0) (fun r1 => (bif Nat.beq (qz_tag μ r1) 50 then (bif pz_out X (qz_len μ r1) then False else (wz_wr (qz_wI μ r1 y v) P)) else False))) else False) := by
  subst hX hy
  refine wz_i1 (ge_t h hn) ?_
  rw [d4_rm h (by omega), hl]
  refine wz_i1 ?_ (wz_i0 ?_ ?_)
  · rw [d4_tag (t := 50) (ct := 1) (ln := 4400) h hn rfl (by decide)]
    rfl
  · rw [d4_len h hn]
    exact i3_out (n := 4400) (by omega) (by omega) (by decide)
  · rintro μ' rfl
    refine K _ (d4_wI h (fun m _ i' j' => ?_))
    by_cases q : m = 541 ∧ i' = 0
    · rw [if_pos q, if_pos q]
      show (if j' = y then v else w j') = _
      by_cases q2 : j' = y
      · rw [if_pos q2, if_pos ⟨q.1, q.2, q2⟩]
      · rw [if_neg q2, if_neg (fun z => q2 z.2.2)]
    · rw [if_neg q, if_neg q, if_neg (fun z => q ⟨z.1, z.2.1⟩)]
/-- the first N places from b on -/
def ge_r (w : Nat → Int32) (b i : Nat) (v : Int32) : Nat → Int32 := fun j => if b ≤ j ∧ j < b + i then v else w j
theorem ge_r0 {b : Nat} {v : Int32} (j : Nat) : w j = ge_r w b 0 v j := (if_neg (by omega)).symm
theorem ge_rs {b i : Nat} {v : Int32} (j : Nat) : (if j = b + i then v else ge_r w b i v j) = ge_r w b (i + 1) v j := by
  unfold ge_r
  by_cases q : j = b + i
  · rw [if_pos q, if_pos (by omega)]
  · rw [if_neg q]
    by_cases q2 : b ≤ j ∧ j < b + i
    · rw [if_pos q2, if_pos (by omega)]
    · rw [if_neg q2, if_neg (by omega)]
theorem sp_x462 (h : ge L f w μ n l c s) (hn : 541 < n) (hl : nu mh_R l 540 0 = some (200, 541, 0)) : wz_call qf_462 [.inr (.inr (some (200, 540, 0)))] μ (fun μ' o => o = .inl none ∧ ge L f (ge_r w 1300 28 18) μ' n l c s) := by
  refine fx_462 540 μ _ ?_
  refine wz_uD sb_462_1 [true, true] 28 (by decide) (fun i => [some (.inr (.inr (some (200, 540, 0)))), some (.inl (i3 i))]) (fun i μ' => ge L f (ge_r w 1300 i 18) μ' n l c s) ?_ ?_ rfl (ge_to h ge_r0)
  · intro i hi L μ hL h Iv hI
    refine fxb_462_1 540 (i3 i) μ _ _ L hL (wz_i0 ?_ ?_)
    · rw [show (28 : Int32) = i3 28 from rfl, i3_decle ⟨by omega, by omega⟩ ⟨by omega, by omega⟩]
      exact decide_eq_false (by omega)
    rw [show (1300 : Int32) = i3 1300 from rfl, i3_add]
    refine ge_s (x := 1300 + i) h hn hl rfl (by omega) (fun μ' h => ?_) _ ?_
    · refine hI _ _ ?_ (ge_to h ge_rs)
      rw [show (1 : Int32) = i3 1 from rfl, i3_add]
      rfl
    · rw [i3_nat (by omega) (by omega)]
      omega
  · intro L μ hL h Iv
    refine fxb_462_1 540 (i3 28) μ _ _ L hL (wz_i1 rfl ?_)
    rw [wz_lk_0, wz_sk_0]
    exact fxc_462_2 μ _ _ _ rfl ⟨rfl, h⟩
theorem sp_x509 (h : ge L f w μ n l c s) (hn : 541 < n) (hl : nu mh_R l 540 0 = some (200, 541, 0)) : wz_call qf_509 [.inr (.inr (some (200, 540, 0)))] μ (fun μ' o => o = .inl none ∧ ge L f (fun j => if j = 3201 then 2 else ge_r w 3210 36 3 j) μ' n l c s) := by
  refine fx_509 540 μ _ ?_
  refine wz_uD sb_509_1 [true, true] 36 (by decide) (fun i => [some (.inr (.inr (some (200, 540, 0)))), some (.inl (i3 i))]) (fun i μ' => ge L f (ge_r w 3210 i 3) μ' n l c s) ?_ ?_ rfl (ge_to h ge_r0)
  · intro i hi L μ hL h Iv hI
    refine fxb_509_1 540 (i3 i) μ _ _ L hL (wz_i0 ?_ ?_)
    · rw [show (36 : Int32) = i3 36 from rfl, i3_decle ⟨by omega, by omega⟩ ⟨by omega, by omega⟩]
      exact decide_eq_false (by omega)
    rw [show (3210 : Int32) = i3 3210 from rfl, i3_add]
    refine ge_s (x := 3210 + i) h hn hl rfl (by omega) (fun μ' h => ?_) _ ?_
    · refine hI _ _ ?_ (ge_to h ge_rs)
      rw [show (1 : Int32) = i3 1 from rfl, i3_add]
      rfl
    · rw [i3_nat (by omega) (by omega)]
      omega
  · intro L μ hL h Iv
    refine fxb_509_1 540 (i3 36) μ _ _ L hL (wz_i1 rfl ?_)
    rw [wz_lk_0, wz_sk_0]
    refine fxc_509_2 540 μ _ _ _ rfl ?_
    refine ge_s (x := 3201) h hn hl rfl (by decide) (fun μ' h => ⟨rfl, h⟩) _ rfl
end GE
