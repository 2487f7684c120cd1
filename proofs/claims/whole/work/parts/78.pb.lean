/-! purses -/
theorem zSi_le {f : Int → Int} {x : Int} (h0 : 0 ≤ x) (h : ∀ j : Int, 0 ≤ j → j < x → 0 ≤ f j ∧ f j ≤ 1) : 0 ≤ zSi f x ∧ zSi f x ≤ x := by
  have g : ∀ n : Nat, (n : Int) ≤ x → 0 ≤ zSm f n ∧ zSm f n ≤ n := fun n => by
    induction n with
    | zero => exact fun _ => ⟨Int.le_refl 0, Int.le_refl 0⟩
    | succ n ih =>
      intro hn
      have a := ih (by omega)
      have c := h n (by omega) (by omega)
      show 0 ≤ zSm f n + f n ∧ zSm f n + f n ≤ ((n + 1 : Nat) : Int)
      omega
  have := g x.toNat (by omega)
  unfold zSi
  omega
def zPs (b : Int) (Z : qz_Z) : Int := zSi (fun q => if Z 47 b q 9 = 3 then 1 else 0) (Z 11 b 0 6) + zSi (fun k => if Z 54 b k 2 = 0 then 0 else 1) (Z 11 b 0 10)
def zPb (b : Int) (Z : qz_Z) : Prop := (0 ≤ Z 11 b 0 6 ∧ Z 11 b 0 6 ≤ 60) ∧ (0 ≤ Z 11 b 0 10 ∧ Z 11 b 0 10 ≤ 12) ∧ (∀ q : Int, 0 ≤ q → q < Z 11 b 0 6 → 0 ≤ Z 47 b q 19 ∧ Z 47 b q 19 ≤ Z 47 b q 18 ∧ Z 47 b q 18 ≤ 399960) ∧ (∀ i : Int, 0 ≤ i → i < 8 → 0 ≤ Z 45 b i 3 ∧ Z 45 b i 3 ≤ 99999999 + 399960 * zPs b Z)
theorem zPs_r {b : Int} {Z : qz_Z} (h : zPb b Z) : 0 ≤ zPs b Z ∧ zPs b Z ≤ 72 := by
  have a := zSi_le (f := fun q => if Z 47 b q 9 = 3 then 1 else 0) h.1.1 (fun j _ _ => by
    split <;> omega)
  have c := zSi_le (f := fun k => if Z 54 b k 2 = 0 then 0 else 1) h.2.1.1 (fun j _ _ => by
    split <;> omega)
  have := h.1
  have := h.2.1
  unfold zPs
  omega
def zPbc (k : Nat) (j : Int) : Bool := (Nat.beq k 11 && (decide (j = 6) || decide (j = 10))) || (Nat.beq k 45 && decide (j = 3)) || (Nat.beq k 47 && [9, 18, 19].contains j) || (Nat.beq k 54 && decide (j = 2))
theorem zPb_e {b : Int} {Z C : qz_Z} (h : zPb b Z) (f : ∀ k i j, zPbc k j = true → C k b i j = Z k b i j) : zPb b C := by
  unfold zPb zPs
  simp only [f 11 _ 6 rfl, f 11 _ 10 rfl, f 45 _ 3 rfl, f 47 _ 9 rfl, f 47 _ 18 rfl, f 47 _ 19 rfl, f 54 _ 2 rfl]
  exact h
theorem zPb_u {b c i v : Int} {Z : qz_Z} {k : Nat} {j : Int} (h : zPb b Z) (e : zPbc k j = false) : zPb b (zu Z k c i j v) := zPb_e h (fun k' i' j' e' => zu_ne rfl (fun q => by rw [q.1, q.2.2.2, e] at e'; cases e'))
theorem zPb_f {b : Int} {Z C : qz_Z} {L : List Nat} (h : zPb b Z) (f : zFa L b Z C) (e : L.all (fun n => !([1106, 1110, 4503, 4709, 4718, 4719, 5402].contains n)) = true) : zPb b C := zPb_e h (fun k i j hk => by
  have hn : ∀ n : Nat, [1106, 1110, 4503, 4709, 4718, 4719, 5402].contains n = true → L.contains n = false := fun n hc => by
    cases q : L.contains n with
    | false => rfl
    | true =>
      have := List.all_eq_true.mp e n (List.contains_iff_mem.mp q)
      rw [hc] at this
      cases this
  unfold zPbc at hk
  simp only [Bool.or_eq_true, Bool.and_eq_true, Nat.beq_eq, decide_eq_true_eq, List.contains_iff_mem, List.mem_cons, List.not_mem_nil, or_false] at hk
  rcases hk with ((⟨rfl, rfl | rfl⟩ | ⟨rfl, rfl⟩) | ⟨rfl, rfl | rfl | rfl⟩) | ⟨rfl, rfl⟩ <;> exact f _ _ _ rfl (hn _ rfl))
/-- one parcel and one purse change -/
theorem zPb_1 {b q B : Int} {Z C : qz_Z} (h : zPb b Z) (q0 : 0 ≤ q) (q1 : q < Z 11 b 0 6) (c6 : C 11 b 0 6 = Z 11 b 0 6) (c10 : C 11 b 0 10 = Z 11 b 0 10) (k : ∀ r, C 54 b r 2 = Z 54 b r 2) (rn : ∀ r, r ≠ q → C 47 b r 9 = Z 47 b r 9 ∧ C 47 b r 18 = Z 47 b r 18 ∧ C 47 b r 19 = Z 47 b r 19) (rq : 0 ≤ C 47 b q 19 ∧ C 47 b q 19 ≤ C 47 b q 18 ∧ C 47 b q 18 ≤ 399960) (bn : ∀ i, i ≠ B → C 45 b i 3 = Z 45 b i 3) (s : Z 47 b q 9 = 3 → C 47 b q 9 = 3) (bq : 0 ≤ B → B < 8 → 0 ≤ C 45 b B 3 ∧ C 45 b B 3 ≤ Z 45 b B 3 + 399960 * ((if C 47 b q 9 = 3 then 1 else 0) - (if Z 47 b q 9 = 3 then 1 else 0))) : zPb b C := by
  have e : zPs b C = zPs b Z + ((if C 47 b q 9 = 3 then 1 else 0) - (if Z 47 b q 9 = 3 then 1 else 0)) := by
    unfold zPs
    rw [c6, c10, zSi_w (g := fun q => if C 47 b q 9 = 3 then 1 else 0) (f := fun q => if Z 47 b q 9 = 3 then 1 else 0) q0 q1 (fun j _ _ n => by simp only [(rn j n).1])]
    simp only [k]
    omega
  refine ⟨by rw [c6]; exact h.1, by rw [c10]; exact h.2.1, fun r r0 r1 => ?_, fun i i0 i1 => ?_⟩
  · by_cases n : r = q
    · rw [n]
      exact rq
    · rw [(rn r n).2.1, (rn r n).2.2]
      exact h.2.2.1 r r0 (by omega)
  · have g := h.2.2.2 i i0 i1
    rw [e]
    by_cases n : i = B
    · rw [n] at i0 i1 g ⊢
      have := bq i0 i1
      omega
    · rw [bn i n]
      by_cases t : Z 47 b q 9 = 3
      · rw [if_pos t, if_pos (s t)]
        omega
      · rw [if_neg t]
        split <;> omega
theorem zPb_20 {b q r s t : Int} {Z : qz_Z} (h : zPb b Z) (q0 : 0 ≤ q) (q1 : q < Z 11 b 0 6) (st : Z 47 b q 9 = 0) : zPb b (zf_20 (zu (zu (zu (zu Z 47 b q 9 3) 47 b q 11 r) 47 b q 12 s) 47 b q 17 t) b b q) := by
  have u := h.2.2.1 q q0 q1
  have ps := zPs_r h
  unfold zf_20
  simp only [zlet]
  split
  all_goals
    refine zPb_1 (q := q) (B := Z 47 b q 1) h q0 q1 ?_ ?_ (fun r => ?_) (fun r n => ⟨?_, ?_, ?_⟩) ⟨?_, ?_, ?_⟩ (fun i n => ?_) ?_ (fun g0 g1 => ?_)
    all_goals simp [zuq, st]
    all_goals try omega
    all_goals try simp [*]
    all_goals
      have p := h.2.2.2 _ g0 g1
      rw [w3_id (x := Z 47 b q 18 - Z 47 b q 19) (by omega) (by omega), w3_id (by omega) (by omega)]
      omega
theorem zPb_105 {b p v : Int} : ∀ (m : Nat) (Z : qz_Z) (x : Int), 0 ≤ x → zPb b Z → zPb b (zl_105_1 b p p v m Z x).1
  | 0, Z, x, h0, h => h
  | m + 1, Z, x, h0, h => by
    unfold zl_105_1
    split
    · exact h
    split
    · exact zPb_105 m Z _ (by omega) h
    split
    · exact zPb_105 m Z _ (by omega) h
    simp only [zlet]
    rename_i g1 g2 g3
    have g := zPb_20 (q := x) (r := zu Z 47 b x 9 3 44 b p 7) (s := zu (zu Z 47 b x 9 3) 47 b x 11 (zu Z 47 b x 9 3 44 b p 7) 44 b p 8) (t := zu (zu (zu Z 47 b x 9 3) 47 b x 11 (zu Z 47 b x 9 3 44 b p 7)) 47 b x 12 (zu (zu Z 47 b x 9 3) 47 b x 11 (zu Z 47 b x 9 3 44 b p 7) 44 b p 8) 11 b 0 13) h h0 (by omega) (by omega)
    split
    · refine zPb_105 m _ _ (by omega) ?_
      exact zPb_u (zPb_u (zPb_u (zPb_u (zPb_u (zPb_u (zPb_u (zPb_u g rfl) rfl) rfl) rfl) rfl) rfl) rfl) rfl
    · exact zPb_105 m _ _ (by omega) g
theorem zPb_30 {b c y : Int} (c0 : 0 ≤ c) (c1 : c < 8) : ∀ (m : Nat) (Z : qz_Z) (x : Int), 0 ≤ x → zPb b Z → zPb b (zl_30_1 b c c y m Z x).1
  | 0, Z, x, h0, h => h
  | m + 1, Z, x, h0, h => by
    unfold zl_30_1
    split
    · exact h
    split
    · exact zPb_30 c0 c1 m Z _ (by omega) h
    split
    · exact zPb_30 c0 c1 m Z _ (by omega) h
    split
    · exact zPb_30 c0 c1 m Z _ (by omega) h
    rename_i g1 g2 g3 g4
    simp only [zlet]
    have u := h.2.2.1 x h0 (by omega)
    have p := h.2.2.2 c c0 c1
    have ps := zPs_r h
    split
    · refine zPb_30 c0 c1 m _ _ (by omega) ?_
      refine zPb_1 (q := x) (B := c) h h0 (by omega) ?_ ?_ (fun r => ?_) (fun r n => ⟨?_, ?_, ?_⟩) ⟨?_, ?_, ?_⟩ (fun i n => ?_) ?_ (fun g0 g1 => ?_)
      all_goals simp [zuq]
      all_goals try rw [w3_id (by omega) (by omega)]
      all_goals try omega
      all_goals try simp [*]
    · refine zPb_30 c0 c1 m _ _ (by omega) (zPb_u ?_ rfl)
      refine zPb_1 (q := x) (B := c) h h0 (by omega) ?_ ?_ (fun r => ?_) (fun r n => ⟨?_, ?_, ?_⟩) ⟨?_, ?_, ?_⟩ (fun i n => ?_) ?_ (fun g0 g1 => ?_)
      all_goals simp [zuq]
      all_goals try rw [w3_id (by omega) (by omega)]
      all_goals try omega
      all_goals try simp [*]
theorem zPb_41 {b t w : Int} (t0 : 0 ≤ t) : ∀ (m : Nat) (Z : qz_Z) (x : Int), 0 ≤ x → (∀ q, 0 ≤ q → q < Z 11 b 0 6 → Z 47 b q 10 = t → Z 47 b q 9 = 1) → zPb b Z → zPb b (zl_41_1 b t w m Z x).1
  | 0, Z, x, h0, hs, h => h
  | m + 1, Z, x, h0, hs, h => by
    unfold zl_41_1
    split
    · exact h
    split
    · exact zPb_41 t0 m Z _ (by omega) hs h
    split
    · exact zPb_41 t0 m Z _ (by omega) hs h
    simp only [zlet]
    rename_i g1 g2 g3
    have st := hs x h0 (by omega) (by omega)
    have u := h.2.2.1 x h0 (by omega)
    refine zPb_41 t0 m _ _ (by omega) ?_ ?_
    · intro q k0 k1 k2
      simp [zuq] at k1 k2 ⊢
      by_cases e : q = x
      · exfalso
        rw [if_pos e] at k2
        omega
      · rw [if_neg e] at k2 ⊢
        exact hs q k0 k1 k2
    · refine zPb_1 (q := x) (B := -1) h h0 (by omega) ?_ ?_ (fun r => ?_) (fun r n => ⟨?_, ?_, ?_⟩) ⟨?_, ?_, ?_⟩ (fun i n => ?_) ?_ (fun g0 g1 => absurd g0 (by decide))
      all_goals simp [zuq, st, *]
/-- a purse is far from the end of ints -/
theorem zPb_y {b i : Int} {Z Y : qz_Z} (h : zPb b Z) (hRa : zR b Z Y) (h0 : 0 ≤ i) (h1 : i < 8) : 0 ≤ Y 2 0 0 (1413 + 12 * i) ∧ Y 2 0 0 (1413 + 12 * i) ≤ 128797119 := by
  have p := h.2.2.2 i h0 h1
  have ps := zPs_r h
  rw [zRl_45_3 (x := i) (a := 1413 + 12 * i) hRa h0 h1 rfl] at p
  omega
theorem zPb_pay {b i c : Int} {Z : qz_Z} (h : zPb b Z) (i0 : 0 ≤ i) (i1 : i < 8) (c0 : 1 ≤ c) (c1 : c ≤ 9999999) (hp : Z 45 b i 3 ≤ 99999999 - c) : zPb b (zf_31 Z b i c).1 := by
  unfold zf_31
  simp only [zlet]
  have p := h.2.2.2 i i0 i1
  have ps := zPs_r h
  have e : w3 (Z 45 b i 3 + c) = Z 45 b i 3 + c := w3_id (by omega) (by omega)
  refine zPb_u (zPb_u (zPb_u (zPb_u (zPb_u (zPb_u (zPb_u (zPb_u (zPb_u ?_ rfl) rfl) rfl) rfl) rfl) rfl) rfl) rfl) rfl
  have s : ∀ Z', zPs b (zu Z' 45 b i 3 (w3 (Z 45 b i 3 + c))) = zPs b Z' := fun Z' => by
    unfold zPs
    simp [zuq]
  refine ⟨?_, ?_, fun r r0 r1 => ?_, fun j j0 j1 => ?_⟩
  · simp [zuq]
    exact h.1
  · simp [zuq]
    exact h.2.1
  · simp [zuq] at r1 ⊢
    exact h.2.2.1 r r0 r1
  · rw [s]
    by_cases n : j = i
    · rw [n, zu_at rfl, e]
      omega
    · rw [zu_ne rfl (fun q => n q.2.2.1)]
      exact h.2.2.2 j j0 j1
def zy_9451 (Z : qz_Z) (dm : qz_Z → Int → Int → Int → Int → Int → Int → Int → qz_Z) (a1 : Int) (a2 : Int) : qz_Z × Int := (if a1 < 0 then (zlet (zu Z 1 0 0 2 1) (fun Z5 => (Z5, 0))) else (if ((Z 2 0 0 1400) - 1) < a1 then (zlet (zu Z 1 0 0 2 1) (fun Z8 => (Z8, 0))) else (zlet (zu Z 1 0 0 2 0) (fun Z9 => (if a2 < 1 then (zlet (zu Z9 1 0 0 2 2) (fun Z11 => (Z11, 0))) else (if 9999999 < a2 then (zlet (zu Z9 1 0 0 2 2) (fun Z13 => (Z13, 0))) else (zlet (zu Z9 1 0 0 2 0) (fun Z14 => (if (99999999 - a2) < (Z14 2 0 0 (1413 + 12 * a1)) then (zlet (zu Z14 1 0 0 2 3) (fun Z18 => (Z18, 0))) else (zlet (zu Z14 1 0 0 2 0) (fun Z19 => (zlet (dm Z19 14 a1 a2 0 0 0 0) (fun Z26 => (zlet (zu Z26 2 0 0 (1413 + 12 * a1) (w3 ((Z26 2 0 0 (1413 + 12 * a1)) + a2))) (fun Z30 => (zlet (zu Z30 2 0 0 (1415 + 12 * a1) (w3 ((Z30 2 0 0 (1415 + 12 * a1)) + a2))) (fun Z33 => (zlet (zf_403 Z33 1 0 a2 (-1)) (fun Z34 => (Z34, (Z34 2 0 0 (1413 + 12 * a1))))))))))))))))))))))
theorem zy_451e {Y : qz_Z} {dm : qz_Z → Int → Int → Int → Int → Int → Int → Int → qz_Z} {a1 a2 : Int} (hV : zV Y) (h : 0 ≤ a1 → a1 < 8 → 0 ≤ Y 2 0 0 (1413 + 12 * a1) ∧ Y 2 0 0 (1413 + 12 * a1) ≤ 128797119) : zy_451 Y dm a1 a2 = zy_9451 Y dm a1 a2 := by
  unfold zy_451 zy_9451
  simp only [zlet]
  have v := zVr_11_4 (a := 1400) hV rfl
  by_cases h1 : a1 < 0
  · rw [if_pos h1, if_pos h1]
  rw [if_neg h1, if_neg h1]
  by_cases h2 : Y 2 0 0 1400 - 1 < a1
  · rw [if_pos h2, if_pos h2]
  rw [if_neg h2, if_neg h2]
  by_cases h3 : a2 < 1
  · rw [if_pos h3, if_pos h3]
  rw [if_neg h3, if_neg h3]
  by_cases h4 : 9999999 < a2
  · rw [if_pos h4, if_pos h4]
  rw [if_neg h4, if_neg h4]
  have g := h (by omega) (by omega)
  have e : ∀ t s : Int, zu (zu Y 1 0 0 2 t) 1 0 0 2 s 2 0 0 (1413 + 12 * a1) = Y 2 0 0 (1413 + 12 * a1) := fun t s => by
    rw [zu_ne rfl (fun q => absurd q.1 (by decide)), zu_ne rfl (fun q => absurd q.1 (by decide))]
  simp only [e]
  rw [w3_id (by omega) (by omega)]
  by_cases k : 99999999 < Y 2 0 0 (1413 + 12 * a1) + a2
  · rw [if_pos k, if_pos (show 99999999 - a2 < Y 2 0 0 (1413 + 12 * a1) by omega)]
  · rw [if_neg k, if_neg (show ¬ 99999999 - a2 < Y 2 0 0 (1413 + 12 * a1) by omega)]
