/-! the first lot of a row is sold -/
theorem zf_6_k {Z : qz_Z} {b q : Int} {k : Nat} {i j : Int} (h : k ≠ 14 ∧ k ≠ 42 ∧ k ≠ 53 ∧ (k = 11 → j ≠ 12)) : zf_6 Z b b q k b i j = Z k b i j := by
  obtain ⟨h1, h2, h3, h4⟩ := h
  have e : ∀ (X : qz_Z) (k' : Nat) (i' j' v : Int), (k' = 14 ∨ k' = 42 ∨ k' = 53 ∨ (k' = 11 ∧ j' = 12)) → zu X k' b i' j' v k b i j = X k b i j := fun X k' i' j' v hk => zu_ne rfl (fun q => by
    rcases hk with hk | hk | hk | hk
    · exact h1 (q.1.trans hk)
    · exact h2 (q.1.trans hk)
    · exact h3 (q.1.trans hk)
    · exact h4 (q.1.trans hk.1) (q.2.2.2.trans hk.2))
  unfold zf_6
  simp only [zlet]
  repeat' split
  all_goals simp only [e _ 14 _ _ _ (.inl rfl), e _ 42 _ _ _ (.inr (.inl rfl)), e _ 53 _ _ _ (.inr (.inr (.inl rfl))), e _ 11 _ 12 _ (.inr (.inr (.inr ⟨rfl, rfl⟩)))]
theorem zf_9032_4 {Z : qz_Z} {b c p o h n : Int} : zf_9032 Z b c p o h n 44 b p 4 = Z 44 b p 4 - n := by
  unfold zf_9032
  simp only [zlet]
  rw [zu_ne rfl (fun q => absurd q.1 (by decide)), zu_ne rfl (fun q => absurd q.1 (by decide)), zu_ne rfl (fun q => absurd q.1 (by decide)), zf_6_k ⟨by decide, by decide, by decide, fun e => absurd e (by decide)⟩]
  simp [zuq]
/-- a parcel comes to the sums -/
theorem zDb_n {b q B O k u : Int} {Z C : qz_Z} (h : zDb b Z) (q0 : 0 ≤ q) (hq : Z 11 b 0 6 = q) (c6 : C 11 b 0 6 = q + 1) (c5 : C 11 b 0 5 = Z 11 b 0 5) (o0 : ∀ r, C 46 b r 0 = Z 46 b r 0) (oo : ∀ r, r ≠ O → C 46 b r 8 = Z 46 b r 8) (oO : C 46 b O 8 = w3 (Z 46 b O 8 + k)) (r : ∀ r, r ≠ q → C 47 b r 1 = Z 47 b r 1 ∧ C 47 b r 2 = Z 47 b r 2 ∧ C 47 b r 3 = Z 47 b r 3 ∧ C 47 b r 9 = Z 47 b r 9 ∧ C 47 b r 19 = Z 47 b r 19) (rq : C 47 b q 1 = B ∧ C 47 b q 2 = O ∧ C 47 b q 3 = k ∧ C 47 b q 9 = 0 ∧ C 47 b q 19 = u) (bo : ∀ i, C 45 b i 10 = Z 45 b i 10 ∧ C 45 b i 11 = Z 45 b i 11 ∧ C 45 b i 14 = Z 45 b i 14) (bn : ∀ i, i ≠ B → C 45 b i 4 = Z 45 b i 4 ∧ C 45 b i 9 = Z 45 b i 9) (b4 : C 45 b B 4 = w3 (Z 45 b B 4 + u)) (b9 : C 45 b B 9 = w3 (Z 45 b B 9 + k)) : zDb b C := by
  obtain ⟨r1, r2, r3, r4, r5⟩ := rq
  have sm : ∀ {f g : Int → Int}, (∀ j : Int, 0 ≤ j → j < q → g j = f j) → zSi g (q + 1) = zSi f q + g q := fun {f g} e => by
    rw [zSi_s q0, zSi_e e]
  refine ⟨fun i i0 i1 => ?_, fun x x0 x1 => ?_⟩
  · obtain ⟨g1, g2, g3, g4, g5⟩ := h.1 i i0 i1
    rw [hq] at g1 g2 g3 g4
    rw [c6, c5, (bo i).1, (bo i).2.1, (bo i).2.2, g3, g4, g5]
    rw [sm (f := fun q => if Z 47 b q 1 = i then Z 47 b q 19 else 0) (fun j j0 j1 => by simp only [(r j (by omega)).1, (r j (by omega)).2.2.2.2]), sm (f := fun q => if Z 47 b q 1 = i then Z 47 b q 3 else 0) (fun j j0 j1 => by simp only [(r j (by omega)).1, (r j (by omega)).2.2.1]), sm (f := fun q => if Z 47 b q 1 = i then (if Z 47 b q 9 = 2 then Z 47 b q 3 else 0) else 0) (fun j j0 j1 => by simp only [(r j (by omega)).1, (r j (by omega)).2.2.1, (r j (by omega)).2.2.2.1]), sm (f := fun q => if Z 47 b q 1 = i then (if Z 47 b q 9 = 3 then Z 47 b q 3 else 0) else 0) (fun j j0 j1 => by simp only [(r j (by omega)).1, (r j (by omega)).2.2.1, (r j (by omega)).2.2.2.1])]
    simp only [r1, r3, r4, r5, o0]
    by_cases e : i = B
    · rw [e] at g1 g2 ⊢
      rw [b4, b9, g1, g2, w3_add, w3_add]
      simp
    · rw [(bn i e).1, (bn i e).2, g1, g2]
      have e' : ¬ B = i := fun x => e x.symm
      simp [e']
  · rw [c6]
    have g := h.2 x x0 x1
    rw [hq] at g
    rw [sm (f := fun q => if Z 47 b q 2 = x then Z 47 b q 3 else 0) (fun j j0 j1 => by simp only [(r j (by omega)).2.1, (r j (by omega)).2.2.1])]
    simp only [r2, r3]
    by_cases e : x = O
    · rw [e] at g ⊢
      rw [oO, g, w3_add]
      simp
    · rw [oo x e, g]
      have e' : ¬ O = x := fun y => e y.symm
      simp [e']
theorem zDb_sell {Z : qz_Z} {b c p o h n : Int} (hd : zDb b Z) (q0 : 0 ≤ Z 11 b 0 6) : zDb b (zf_9032 Z b c p o h n) := by
  unfold zf_9032
  simp only [zlet]
  refine zDb_u (zDb_u (zDb_u ?_ rfl) rfl) rfl
  refine zDb_e ?_ (fun k i j hk => zf_6_k (by
    unfold zDbc at hk
    simp only [Bool.or_eq_true, Bool.and_eq_true, Nat.beq_eq, decide_eq_true_eq, List.contains_iff_mem, List.mem_cons, List.not_mem_nil, or_false] at hk
    rcases hk with ((⟨rfl, h⟩ | ⟨rfl, _⟩) | ⟨rfl, _⟩) | ⟨rfl, _⟩
    · exact ⟨by decide, by decide, by decide, fun _ => by omega⟩
    · exact ⟨by decide, by decide, by decide, fun e => absurd e (by decide)⟩
    · exact ⟨by decide, by decide, by decide, fun e => absurd e (by decide)⟩
    · exact ⟨by decide, by decide, by decide, fun e => absurd e (by decide)⟩))
  refine zDb_n (q := Z 11 b 0 6) (B := Z 46 b o 0) (O := o) (k := n) (u := n * h) hd q0 rfl ?_ ?_ (fun r => ?_) (fun r ne => ?_) ?_ (fun r ne => ⟨?_, ?_, ?_, ?_, ?_⟩) ⟨?_, ?_, ?_, ?_, ?_⟩ (fun i => ⟨?_, ?_, ?_⟩) (fun i ne => ⟨?_, ?_⟩) ?_ ?_
  all_goals simp [zuq, *]
/-- one turn of the class's clock, told by the hand it begins with -/
def zg_73 (b c p start res st : Int) (m : Nat) (Z : qz_Z) (h0 x10 : Int) : qz_Z × Int × Int := (if ((((max 0 (h0 - (zf_26 Z b b p))) + st) - 1) / st) ≤ ((h0 - res) / st) then (if (zf_34 Z b b p (h0 - (st * (min ((h0 - res) / st) ((((max 0 (h0 - (zf_26 Z b b p))) + st) - 1) / st))))) ≠ (-1) then zl_73_1 b c p c p start res st m (zf_9032 Z b c p (zf_34 Z b b p (h0 - (st * (min ((h0 - res) / st) ((((max 0 (h0 - (zf_26 Z b b p))) + st) - 1) / st))))) (h0 - (st * (min ((h0 - res) / st) ((((max 0 (h0 - (zf_26 Z b b p))) + st) - 1) / st)))) (min ((w3 ((w3 ((Z 45 b (Z 46 b (zf_34 Z b b p (h0 - (st * (min ((h0 - res) / st) ((((max 0 (h0 - (zf_26 Z b b p))) + st) - 1) / st))))) 0) 1) + (Z 45 b (Z 46 b (zf_34 Z b b p (h0 - (st * (min ((h0 - res) / st) ((((max 0 (h0 - (zf_26 Z b b p))) + st) - 1) / st))))) 0) 3))) - (Z 45 b (Z 46 b (zf_34 Z b b p (h0 - (st * (min ((h0 - res) / st) ((((max 0 (h0 - (zf_26 Z b b p))) + st) - 1) / st))))) 0) 4))) / (h0 - (st * (min ((h0 - res) / st) ((((max 0 (h0 - (zf_26 Z b b p))) + st) - 1) / st))))) (min (Z 44 b p 4) (Z 46 b (zf_34 Z b b p (h0 - (st * (min ((h0 - res) / st) ((((max 0 (h0 - (zf_26 Z b b p))) + st) - 1) / st))))) 6)))) (h0 - (st * (min ((h0 - res) / st) ((((max 0 (h0 - (zf_26 Z b b p))) + st) - 1) / st)))) (x10 + 1) else (Z, (h0 - (st * (min ((h0 - res) / st) ((((max 0 (h0 - (zf_26 Z b b p))) + st) - 1) / st)))), x10)) else (Z, (h0 - (st * (min ((h0 - res) / st) ((((max 0 (h0 - (zf_26 Z b b p))) + st) - 1) / st)))), x10))
theorem zl_73s {b c p start res st : Int} {m : Nat} {Z : qz_Z} {x9 x10 : Int} : zl_73_1 b c p c p start res st (m + 1) Z x9 x10 = (if 40 ≤ x10 then (Z, x9, x10) else if Z 44 b p 4 ≤ 0 then (Z, x9, x10) else zg_73 b c p start res st m Z (if x10 ≤ 0 then x9 else min (x9 + Z 48 b c 4 * st) start) x10) := by
  rw [zl_73_1]
  split
  · rfl
  split
  · rfl
  unfold zg_73 zf_9032
  simp only [zlet]
  by_cases h : x10 ≤ 0
  · simp only [if_pos h]
  · simp only [if_neg h]
theorem zediv {a st : Int} (h : 1 ≤ st) : a / st * st ≤ a ∧ a < a / st * st + st := by
  have h1 := Int.ediv_mul_le a (show st ≠ 0 by omega)
  have h2 := Int.lt_ediv_add_one_mul_self a (show 0 < st by omega)
  rw [Int.add_mul, Int.one_mul] at h2
  exact ⟨h1, h2⟩
