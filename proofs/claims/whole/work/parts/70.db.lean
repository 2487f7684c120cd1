/-! sums over rows -/
def zSm (f : Int → Int) : Nat → Int
  | 0 => 0
  | n + 1 => zSm f n + f (n : Int)
def zSi (f : Int → Int) (x : Int) : Int := zSm f x.toNat
theorem zSm_e {f g : Int → Int} : ∀ {n : Nat}, (∀ j : Int, 0 ≤ j → j < (n : Int) → g j = f j) → zSm g n = zSm f n
  | 0, _ => rfl
  | n + 1, h => by
    show zSm g n + g n = zSm f n + f n
    rw [zSm_e (n := n) (fun j h0 h1 => h j h0 (by omega)), h n (by omega) (by omega)]
theorem zSm_w {f g : Int → Int} {i : Int} (h0 : 0 ≤ i) : ∀ {n : Nat}, i < (n : Int) → (∀ j : Int, 0 ≤ j → j < (n : Int) → j ≠ i → g j = f j) → zSm g n = zSm f n + (g i - f i)
  | 0, h1, _ => by omega
  | n + 1, h1, h => by
    show zSm g n + g n = zSm f n + f n + (g i - f i)
    by_cases e : (n : Int) = i
    · rw [zSm_e (n := n) (fun j g0 g1 => h j g0 (by omega) (by omega)), e]
      omega
    · rw [zSm_w h0 (n := n) (by omega) (fun j g0 g1 g2 => h j g0 (by omega) g2), h n (by omega) (by omega) e]
      omega
theorem zSi_e {f g : Int → Int} {x : Int} (h : ∀ j : Int, 0 ≤ j → j < x → g j = f j) : zSi g x = zSi f x := zSm_e (fun j h0 h1 => h j h0 (by omega))
theorem zSi_w {f g : Int → Int} {i x : Int} (h0 : 0 ≤ i) (h1 : i < x) (h : ∀ j : Int, 0 ≤ j → j < x → j ≠ i → g j = f j) : zSi g x = zSi f x + (g i - f i) := zSm_w h0 (by omega) (fun j g0 g1 g2 => h j g0 (by omega) g2)
theorem zSi_s {f : Int → Int} {x : Int} (h0 : 0 ≤ x) : zSi f (x + 1) = zSi f x + f x := by
  unfold zSi
  rw [show (x + 1).toNat = x.toNat + 1 by omega]
  show zSm f x.toNat + f (x.toNat : Int) = _
  rw [show ((x.toNat : Nat) : Int) = x by omega]
theorem zSi_0 {f : Int → Int} : zSi f 0 = 0 := rfl
theorem w3_add {a c : Int} : w3 (w3 a + c) = w3 (a + c) := by
  unfold w3
  have h : i3 (w3 a + c) = i3 (a + c) := by rw [← i3_add, ← w3_e, i3_add]
  unfold w3 at h
  rw [h]
theorem w3_w {a : Int} : w3 (w3 a) = w3 a := w3_id (w3_r a).1 (w3_r a).2
theorem zW3 {c z d s : Int} (h : (c = z ∧ d = 0) ∨ c = w3 (z + d)) (g : z = w3 s) : c = w3 (s + d) := by
  rcases h with ⟨h, e⟩ | h
  · rw [h, e, g, Int.add_zero]
  · rw [h, g, w3_add]
theorem w3_m {z u m : Int} : w3 (z - m) = w3 (z + (w3 (u - m) - u)) := by
  rw [show z + (w3 (u - m) - u) = w3 (u - m) + (z - u) by omega, w3_add]
  congr 1
  omega
theorem zuq {Z : qz_Z} {k k' : Nat} {b b' i i' j j' v : Int} : zu Z k b i j v k' b' i' j' = if k' = k ∧ b' = b ∧ i' = i ∧ j' = j then v else Z k' b' i' j' := rfl
/-- what the class adds up itself -/
def zDb (b : Int) (Z : qz_Z) : Prop := (∀ i : Int, 0 ≤ i → i < 8 →
    Z 45 b i 4 = w3 (zSi (fun q => if Z 47 b q 1 = i then Z 47 b q 19 else 0) (Z 11 b 0 6))
  ∧ Z 45 b i 9 = w3 (zSi (fun q => if Z 47 b q 1 = i then Z 47 b q 3 else 0) (Z 11 b 0 6))
  ∧ Z 45 b i 10 = w3 (zSi (fun q => if Z 47 b q 1 = i then (if Z 47 b q 9 = 2 then Z 47 b q 3 else 0) else 0) (Z 11 b 0 6))
  ∧ Z 45 b i 11 = w3 (zSi (fun q => if Z 47 b q 1 = i then (if Z 47 b q 9 = 3 then Z 47 b q 3 else 0) else 0) (Z 11 b 0 6))
  ∧ Z 45 b i 14 = w3 (zSi (fun o => if Z 46 b o 0 = i then 1 else 0) (Z 11 b 0 5)))
  ∧ (∀ o : Int, 0 ≤ o → o < 24 → Z 46 b o 8 = w3 (zSi (fun q => if Z 47 b q 2 = o then Z 47 b q 3 else 0) (Z 11 b 0 6)))
/-- the columns it speaks of -/
def zDbc (k : Nat) (j : Int) : Bool := (Nat.beq k 11 && (decide (j = 5) || decide (j = 6))) || (Nat.beq k 45 && [4, 9, 10, 11, 14].contains j) || (Nat.beq k 46 && [0, 8].contains j) || (Nat.beq k 47 && [1, 2, 3, 9, 19].contains j)
theorem zDb_e {b : Int} {Z C : qz_Z} (h : zDb b Z) (f : ∀ k i j, zDbc k j = true → C k b i j = Z k b i j) : zDb b C := by
  unfold zDb
  simp only [f 11 _ 6 rfl, f 11 _ 5 rfl, f 45 _ 4 rfl, f 45 _ 9 rfl, f 45 _ 10 rfl, f 45 _ 11 rfl, f 45 _ 14 rfl, f 46 _ 0 rfl, f 46 _ 8 rfl, f 47 _ 1 rfl, f 47 _ 2 rfl, f 47 _ 3 rfl, f 47 _ 9 rfl, f 47 _ 19 rfl]
  exact h
theorem zDb_u {b c i v : Int} {Z : qz_Z} {k : Nat} {j : Int} (h : zDb b Z) (e : zDbc k j = false) : zDb b (zu Z k c i j v) := zDb_e h (fun k' i' j' e' => zu_ne rfl (fun q => by rw [q.1, q.2.2.2, e] at e'; cases e'))
theorem zDb_f {b : Int} {Z C : qz_Z} {L : List Nat} (h : zDb b Z) (f : zFa L b Z C) (e : L.all (fun n => !([1105, 1106, 4504, 4509, 4510, 4511, 4514, 4600, 4608, 4701, 4702, 4703, 4709, 4719].contains n)) = true) : zDb b C := zDb_e h (fun k i j hk => by
  have hn : ∀ n : Nat, [1105, 1106, 4504, 4509, 4510, 4511, 4514, 4600, 4608, 4701, 4702, 4703, 4709, 4719].contains n = true → L.contains n = false := fun n hc => by
    cases q : L.contains n with
    | false => rfl
    | true =>
      have := List.all_eq_true.mp e n (List.contains_iff_mem.mp q)
      rw [hc] at this
      cases this
  unfold zDbc at hk
  simp only [Bool.or_eq_true, Bool.and_eq_true, Nat.beq_eq, decide_eq_true_eq, List.contains_iff_mem, List.mem_cons, List.not_mem_nil, or_false] at hk
  rcases hk with ((⟨rfl, rfl | rfl⟩ | ⟨rfl, rfl | rfl | rfl | rfl | rfl⟩) | ⟨rfl, rfl | rfl⟩) | ⟨rfl, rfl | rfl | rfl | rfl | rfl⟩ <;> exact f _ _ _ rfl (hn _ rfl))
/-- one parcel changes -/
theorem zDb_1 {b q : Int} {Z C : qz_Z} (h : zDb b Z) (q0 : 0 ≤ q) (q1 : q < Z 11 b 0 6) (c6 : C 11 b 0 6 = Z 11 b 0 6) (c5 : C 11 b 0 5 = Z 11 b 0 5) (o : ∀ r, C 46 b r 0 = Z 46 b r 0 ∧ C 46 b r 8 = Z 46 b r 8) (r : ∀ r, C 47 b r 1 = Z 47 b r 1 ∧ C 47 b r 2 = Z 47 b r 2 ∧ C 47 b r 3 = Z 47 b r 3) (rn : ∀ r, r ≠ q → C 47 b r 9 = Z 47 b r 9 ∧ C 47 b r 19 = Z 47 b r 19) (bo : ∀ i, C 45 b i 9 = Z 45 b i 9 ∧ C 45 b i 14 = Z 45 b i 14) (bn : ∀ i, i ≠ Z 47 b q 1 → C 45 b i 4 = Z 45 b i 4 ∧ C 45 b i 10 = Z 45 b i 10 ∧ C 45 b i 11 = Z 45 b i 11)
    (b4 : (C 45 b (Z 47 b q 1) 4 = Z 45 b (Z 47 b q 1) 4 ∧ (C 47 b q 19 - Z 47 b q 19) = 0) ∨ C 45 b (Z 47 b q 1) 4 = w3 (Z 45 b (Z 47 b q 1) 4 + (C 47 b q 19 - Z 47 b q 19)))
    (b10 : (C 45 b (Z 47 b q 1) 10 = Z 45 b (Z 47 b q 1) 10 ∧ ((if C 47 b q 9 = 2 then Z 47 b q 3 else 0) - (if Z 47 b q 9 = 2 then Z 47 b q 3 else 0)) = 0) ∨ C 45 b (Z 47 b q 1) 10 = w3 (Z 45 b (Z 47 b q 1) 10 + ((if C 47 b q 9 = 2 then Z 47 b q 3 else 0) - (if Z 47 b q 9 = 2 then Z 47 b q 3 else 0))))
    (b11 : (C 45 b (Z 47 b q 1) 11 = Z 45 b (Z 47 b q 1) 11 ∧ ((if C 47 b q 9 = 3 then Z 47 b q 3 else 0) - (if Z 47 b q 9 = 3 then Z 47 b q 3 else 0)) = 0) ∨ C 45 b (Z 47 b q 1) 11 = w3 (Z 45 b (Z 47 b q 1) 11 + ((if C 47 b q 9 = 3 then Z 47 b q 3 else 0) - (if Z 47 b q 9 = 3 then Z 47 b q 3 else 0)))) : zDb b C := by
  refine ⟨fun i i0 i1 => ?_, fun x x0 x1 => ?_⟩
  · obtain ⟨g1, g2, g3, g4, g5⟩ := h.1 i i0 i1
    rw [c6, c5, (bo i).1, (bo i).2, g2, g5]
    simp only [(r _).1, (r _).2.2, (o _).1]
    by_cases e : i = Z 47 b q 1
    · rw [← e] at b4 b10 b11
      rw [zW3 b4 g1, zW3 b10 g3, zW3 b11 g4]
      refine ⟨?_, by first | rfl | trivial, ?_, ?_, by first | rfl | trivial⟩
      · congr 1
        rw [zSi_w (g := fun q => if Z 47 b q 1 = i then C 47 b q 19 else 0) (f := fun q => if Z 47 b q 1 = i then Z 47 b q 19 else 0) q0 q1 (fun j _ _ n => by simp only [(rn j n).2])]
        simp only [if_pos e.symm]
      · congr 1
        rw [zSi_w (g := fun q => if Z 47 b q 1 = i then (if C 47 b q 9 = 2 then Z 47 b q 3 else 0) else 0) (f := fun q => if Z 47 b q 1 = i then (if Z 47 b q 9 = 2 then Z 47 b q 3 else 0) else 0) q0 q1 (fun j _ _ n => by simp only [(rn j n).1])]
        simp only [if_pos e.symm]
      · congr 1
        rw [zSi_w (g := fun q => if Z 47 b q 1 = i then (if C 47 b q 9 = 3 then Z 47 b q 3 else 0) else 0) (f := fun q => if Z 47 b q 1 = i then (if Z 47 b q 9 = 3 then Z 47 b q 3 else 0) else 0) q0 q1 (fun j _ _ n => by simp only [(rn j n).1])]
        simp only [if_pos e.symm]
    · have e' : ¬ Z 47 b q 1 = i := fun x => e x.symm
      rw [(bn i e).1, (bn i e).2.1, (bn i e).2.2, g1, g3, g4]
      refine ⟨?_, by first | rfl | trivial, ?_, ?_, by first | rfl | trivial⟩
      · congr 1
        exact (zSi_e (fun j _ _ => by
          by_cases n : j = q
          · rw [n, if_neg e', if_neg e']
          · simp only [(rn j n).2])).symm
      · congr 1
        exact (zSi_e (fun j _ _ => by
          by_cases n : j = q
          · rw [n, if_neg e', if_neg e']
          · simp only [(rn j n).1])).symm
      · congr 1
        exact (zSi_e (fun j _ _ => by
          by_cases n : j = q
          · rw [n, if_neg e', if_neg e']
          · simp only [(rn j n).1])).symm
  · rw [(o x).2, c6, h.2 x x0 x1]
    simp only [(r _).2.1, (r _).2.2]
/-- what is lost -/
theorem zDb_20 {b q r s t : Int} {Z : qz_Z} (h : zDb b Z) (q0 : 0 ≤ q) (q1 : q < Z 11 b 0 6) (st : Z 47 b q 9 = 0) : zDb b (zf_20 (zu (zu (zu (zu Z 47 b q 9 3) 47 b q 11 r) 47 b q 12 s) 47 b q 17 t) b b q) := by
  unfold zf_20
  simp only [zlet]
  split
  all_goals
    refine zDb_1 (q := q) h q0 q1 ?_ ?_ (fun r => ⟨?_, ?_⟩) (fun r => ⟨?_, ?_, ?_⟩) (fun r n => ⟨?_, ?_⟩) (fun i => ⟨?_, ?_⟩) (fun i n => ⟨?_, ?_, ?_⟩) ?_ ?_ ?_
    all_goals simp [zuq, st]
    all_goals try (right; rw [Int.sub_eq_add_neg]; done)
    all_goals try omega
theorem zDb_105 {b p v : Int} : ∀ (m : Nat) (Z : qz_Z) (x : Int), 0 ≤ x → zDb b Z → zDb b (zl_105_1 b p p v m Z x).1
  | 0, Z, x, h0, h => h
  | m + 1, Z, x, h0, h => by
    unfold zl_105_1
    split
    · exact h
    split
    · exact zDb_105 m Z _ (by omega) h
    split
    · exact zDb_105 m Z _ (by omega) h
    simp only [zlet]
    rename_i g1 g2 g3
    have g := zDb_20 (q := x) (r := zu Z 47 b x 9 3 44 b p 7) (s := zu (zu Z 47 b x 9 3) 47 b x 11 (zu Z 47 b x 9 3 44 b p 7) 44 b p 8) (t := zu (zu (zu Z 47 b x 9 3) 47 b x 11 (zu Z 47 b x 9 3 44 b p 7)) 47 b x 12 (zu (zu Z 47 b x 9 3) 47 b x 11 (zu Z 47 b x 9 3 44 b p 7) 44 b p 8) 11 b 0 13) h h0 (by omega) (by omega)
    split
    · refine zDb_105 m _ _ (by omega) ?_
      exact zDb_u (zDb_u (zDb_u (zDb_u (zDb_u (zDb_u (zDb_u (zDb_u g rfl) rfl) rfl) rfl) rfl) rfl) rfl) rfl
    · exact zDb_105 m _ _ (by omega) g
/-- what comes -/
theorem zDb_41 {b t w : Int} (t0 : 0 ≤ t) : ∀ (m : Nat) (Z : qz_Z) (x : Int), 0 ≤ x → (∀ q, 0 ≤ q → q < Z 11 b 0 6 → Z 47 b q 10 = t → Z 47 b q 9 = 1) → zDb b Z → zDb b (zl_41_1 b t w m Z x).1
  | 0, Z, x, h0, hs, h => h
  | m + 1, Z, x, h0, hs, h => by
    unfold zl_41_1
    split
    · exact h
    split
    · exact zDb_41 t0 m Z _ (by omega) hs h
    split
    · exact zDb_41 t0 m Z _ (by omega) hs h
    simp only [zlet]
    rename_i g1 g2 g3
    have st := hs x h0 (by omega) (by omega)
    refine zDb_41 t0 m _ _ (by omega) ?_ ?_
    · intro q k0 k1 k2
      simp [zuq] at k1 k2 ⊢
      by_cases e : q = x
      · exfalso
        rw [if_pos e] at k2
        omega
      · rw [if_neg e] at k2 ⊢
        exact hs q k0 k1 k2
    · refine zDb_1 (q := x) h h0 (by omega) ?_ ?_ (fun r => ⟨?_, ?_⟩) (fun r => ⟨?_, ?_, ?_⟩) (fun r n => ⟨?_, ?_⟩) (fun i => ⟨?_, ?_⟩) (fun i n => ⟨?_, ?_, ?_⟩) ?_ ?_ ?_
      all_goals simp [zuq, st, *]
/-- bills are paid -/
theorem zDb_30 {b c y : Int} : ∀ (m : Nat) (Z : qz_Z) (x : Int), 0 ≤ x → zDb b Z → zDb b (zl_30_1 b c c y m Z x).1
  | 0, Z, x, h0, h => h
  | m + 1, Z, x, h0, h => by
    unfold zl_30_1
    split
    · exact h
    split
    · exact zDb_30 m Z _ (by omega) h
    split
    · exact zDb_30 m Z _ (by omega) h
    split
    · exact zDb_30 m Z _ (by omega) h
    rename_i g1 g2 g3 g4
    simp only [zlet]
    have e : Z 47 b x 1 = c := by omega
    split
    · refine zDb_30 m _ _ (by omega) ?_
      refine zDb_1 (q := x) h h0 (by omega) ?_ ?_ (fun r => ⟨?_, ?_⟩) (fun r => ⟨?_, ?_, ?_⟩) (fun r n => ⟨?_, ?_⟩) (fun i => ⟨?_, ?_⟩) (fun i n => ⟨?_, ?_, ?_⟩) ?_ ?_ ?_
      all_goals simp [zuq, e]
      all_goals try (rw [e] at *)
      all_goals try (right; exact w3_m)
      all_goals try (intros; simp_all)
    · refine zDb_30 m _ _ (by omega) (zDb_u ?_ rfl)
      refine zDb_1 (q := x) h h0 (by omega) ?_ ?_ (fun r => ⟨?_, ?_⟩) (fun r => ⟨?_, ?_, ?_⟩) (fun r n => ⟨?_, ?_⟩) (fun i => ⟨?_, ?_⟩) (fun i n => ⟨?_, ?_, ?_⟩) ?_ ?_ ?_
      all_goals simp [zuq, e]
      all_goals try (rw [e] at *)
      all_goals try (right; exact w3_m)
      all_goals try (intros; simp_all)
