/-! MADE ON THE WAY, further: by integers, copies of arrays, what a method that makes things leaves. -/
def zzi (Z : qz_Z) (n : Int) : qz_Z := fun k b i j => if k = 200 ∧ b = n then 0 else Z k b i j
theorem zzi_e {Z : qz_Z} {n : Nat} : zzr Z n = zzi Z n := rfl
theorem zz_o {Z Z1 : qz_Z} {n k : Nat} {b i j : Int} (hz : Z1 = zzr Z n) (hk : k ≠ 200) : Z1 k b i j = Z k b i j := by subst hz; exact zzr_ne (fun q => hk q.1)
theorem zL_z2 {ws as : List Nat} {n m : Nat} {Z0 Z Z1 : qz_Z} (h : zL ws as n Z0 Z) (hm : n ≤ m) (hz : Z1 = zzr Z m) : zL ws as n Z0 Z1 := by subst hz; exact zL_z h hm
theorem zL_b0 {as : List Nat} {n : Nat} : ∀ b ∈ ([] : List Nat), b ∈ as ∨ n ≤ b := fun _ h => absurd h List.not_mem_nil
theorem zL_b1 {as bs : List Nat} {n x : Nat} (h : x ∈ as ∨ n ≤ x) (g : ∀ b ∈ bs, b ∈ as ∨ n ≤ b) : ∀ b ∈ x :: bs, b ∈ as ∨ n ≤ b := List.forall_mem_cons.mpr ⟨h, g⟩
theorem zA_b0 {x : Nat} : ∀ b ∈ ([] : List Nat), b ≠ x := fun _ h => absurd h List.not_mem_nil
theorem zA_b1 {bs : List Nat} {x y : Nat} (h : y ≠ x) (g : ∀ b ∈ bs, b ≠ x) : ∀ b ∈ y :: bs, b ≠ x := List.forall_mem_cons.mpr ⟨h, g⟩
theorem zL_x {ws bs : List Nat} {m x : Nat} {Z Z1 : qz_Z} (g : zL ws bs m Z Z1) (hb : ∀ b ∈ bs, b ≠ x) (hm : x < m) (i j : Int) (hv : ws.contains 200 = false := by decide) : Z1 200 x i j = Z 200 x i j := g 200 x i j hv (fun q => by
  rcases q.2 with ⟨a, ha, e⟩ | q
  · exact hb a ha (by omega)
  · omega)
theorem zG_k {ν ν1 : qz_N} (h : ν1 = ν) : zG 1 6 ν (nkk ν1 1 6) := by
  subst h
  exact ⟨fun _ _ _ _ _ => rfl, fun _ _ _ _ _ => rfl, fun _ _ => rfl, Nat.le_refl _, Nat.le_refl _, Nat.le_refl _⟩
/-- n numbers of a row into another one, from its place d on -/
def zpy (Z : qz_Z) (k : Nat) (b i : Int) (k1 : Nat) (b1 i1 d n : Int) : qz_Z := fun k' b' i' j' => if k' = k1 ∧ b' = b1 ∧ i' = i1 ∧ d ≤ j' ∧ j' < d + n then Z k b i (j' - d) else Z k' b' i' j'
theorem zpy_or {Z Z1 : qz_Z} {k k1 : Nat} {b i b1 i1 d n : Int} (hz : Z1 = zpy Z k b i k1 b1 i1 d n) (k' : Nat) (b' i' j' : Int) : (k' = k1 ∧ b' = b1 ∧ i' = i1 ∧ d ≤ j' ∧ j' < d + n ∧ Z1 k' b' i' j' = Z k b i (j' - d)) ∨ Z1 k' b' i' j' = Z k' b' i' j' := by
  subst hz
  by_cases h : k' = k1 ∧ b' = b1 ∧ i' = i1 ∧ d ≤ j' ∧ j' < d + n
  · exact .inl ⟨h.1, h.2.1, h.2.2.1, h.2.2.2.1, h.2.2.2.2, if_pos h⟩
  · exact .inr (if_neg h)
theorem zpy_o {Z Z1 : qz_Z} {k k1 : Nat} {b i b1 i1 d n : Int} (hz : Z1 = zpy Z k b i k1 b1 i1 d n) {k' : Nat} {b' i' j' : Int} (hk : k' ≠ k1) : Z1 k' b' i' j' = Z k' b' i' j' := by
  rcases zpy_or hz k' b' i' j' with h | h
  · exact absurd h.1 hk
  · exact h
theorem zm_py {Z Z1 : qz_Z} {ν : qz_N} {k kb ki k1 b1 i1 d : Nat} {b i b1' i1' n : Int} {a : Int32} (hz : Z1 = zpy Z k b i k1 b1' i1' d n) (hb : (kb : Int) = b) (hi : (ki : Int) = i) (hb1 : (b1 : Int) = b1') (hi1 : (i1 : Int) = i1') (hn : a = i3 n) (h0 : 0 ≤ n) (h1 : n ≤ 2147483647) (hd : d ≤ 1000 := by decide) : qz_wC (zm Z ν) (k1, b1, i1) (va_cpy (qz_im (zm Z ν) k kb ki) (qz_im (zm Z ν) k1 b1 i1) (0 : Int32).toNatClampNeg (i3 (d : Int)).toNatClampNeg a.toNatClampNeg) = zm Z1 ν := by
  subst hb hi hb1 hi1 hn hz
  refine Prod.ext (funext fun k' => funext fun b' => funext fun i' => funext fun j' => ?_) rfl
  have e0 : (0 : Int32).toNatClampNeg = 0 := rfl
  have e1 : (i3 (d : Int)).toNatClampNeg = d := by rw [i3_nat (by omega) (by omega)]; omega
  have e2 : (i3 n).toNatClampNeg = n.toNat := i3_nat h0 (by omega)
  show (if k' = k1 ∧ b' = b1 ∧ i' = i1 then va_cpy (fun j => i3 (Z k kb ki j)) (fun j => i3 (Z k1 b1 i1 j)) (0 : Int32).toNatClampNeg (i3 (d : Int)).toNatClampNeg (i3 n).toNatClampNeg else fun j => i3 (Z k' b' i' j)) j' = i3 (if k' = k1 ∧ (b' : Int) = b1 ∧ (i' : Int) = i1 ∧ (d : Int) ≤ j' ∧ (j' : Int) < d + n then Z k kb ki (j' - d) else Z k' b' i' j')
  rw [e0, e1, e2]
  by_cases h : k' = k1 ∧ b' = b1 ∧ i' = i1
  · rw [if_pos h]
    obtain ⟨rfl, rfl, rfl⟩ := h
    show (if d ≤ j' ∧ j' < d + n.toNat then i3 (Z k kb ki ((0 + (j' - d) : Nat) : Int)) else i3 (Z k' b' i' j')) = _
    by_cases g : d ≤ j' ∧ j' < d + n.toNat
    · rw [if_pos g, if_pos ⟨rfl, rfl, rfl, by omega, by omega⟩, show ((0 + (j' - d) : Nat) : Int) = (j' : Int) - d by omega]
    · rw [if_neg g, if_neg (fun q => g ⟨by omega, by omega⟩)]
  · rw [if_neg h, if_neg (fun q => h ⟨q.1, by omega, by omega⟩)]
theorem zpy_c {a : Int32} {n : Int} {d x1 x2 l1 l2 : Nat} (hn : a = i3 n) (e1 : x1 = l1) (e2 : x2 = l2) (h0 : 0 ≤ n) (h1 : n ≤ l1 ∧ n ≤ 2147483647) (h2 : d + n ≤ l2 ∧ d ≤ 1000) : ¬ (0 : Int32) < 0 ∧ ¬ (i3 (d : Int)) < 0 ∧ ¬ a < 0 ∧ (0 : Int32).toNatClampNeg + a.toNatClampNeg ≤ x1 ∧ (i3 (d : Int)).toNatClampNeg + a.toNatClampNeg ≤ x2 := by
  subst hn e1 e2
  have e0 : (0 : Int32).toNatClampNeg = 0 := rfl
  have g1 : (i3 (d : Int)).toNatClampNeg = d := by rw [i3_nat (by omega) (by omega)]; omega
  have g2 : (i3 n).toNatClampNeg = n.toNat := i3_nat h0 (by omega)
  have z0 : (0 : Int32) = i3 0 := rfl
  have r0 : i3r 0 := ⟨by omega, by omega⟩
  refine ⟨?_, ?_, ?_, ?_, ?_⟩
  · rw [z0, i3_lt r0 r0]; omega
  · rw [z0, i3_lt ⟨by omega, by omega⟩ r0]; omega
  · rw [z0, i3_lt ⟨by omega, by omega⟩ r0]; omega
  · rw [e0, g2]; omega
  · rw [g1, g2]; omega
/-- a column that is told by a number -/
theorem zrn_of {k lo n : Nat} {r : Int × Int} {j : Int} (hk : (Nat.beq k 2 || (zrm k || Nat.beq k 94)) = false) (h : (List.range n).all (fun m => zrk k (lo + m) == r) = true) (h0 : (lo : Int) ≤ j) (h1 : j < lo + n) : zr k j = r := by
  rw [Bool.or_eq_false_iff, Bool.or_eq_false_iff] at hk
  have e : zr k j = zrk k j.toNat := by
    unfold zr
    rw [hk.1, hk.2.1, hk.2.2]
    rfl
  have g := List.all_eq_true.mp h (j.toNat - lo) (List.mem_range.mpr (by omega))
  rw [e]
  have g2 := eq_of_beq g
  rw [show lo + (j.toNat - lo) = j.toNat by omega] at g2
  exact g2
theorem zL_pa {ws as : List Nat} {n a k : Nat} {Z0 Z Z1 : qz_Z} {b i i1 d m : Int} (h : zL ws as n Z0 Z) (hz : Z1 = zpy Z k b i 200 a i1 d m) (ha : a ∈ as ∨ n ≤ a) : zL ws as n Z0 Z1 := fun k' b' i' j' hk' hn => by
  rw [← h k' b' i' j' hk' hn]
  rcases zpy_or hz k' b' i' j' with q | q
  · refine absurd ⟨q.1, ?_⟩ hn
    rcases ha with ha | ha
    · exact .inl ⟨a, ha, q.2.1.symm⟩
    · exact .inr (by have := q.2.1; omega)
  · exact q
theorem zL_pk {ws as : List Nat} {n k k1 : Nat} {Z0 Z Z1 : qz_Z} {b i b1 i1 d m : Int} (h : zL ws as n Z0 Z) (hz : Z1 = zpy Z k b i k1 b1 i1 d m) (hk1 : (ws.contains k1 && (!Nat.beq k1 11 && !Nat.beq k1 2)) = true) : zL ws as n Z0 Z1 := fun k' b' i' j' hk' hn => by
  rw [← h k' b' i' j' hk' hn]
  rcases zpy_or hz k' b' i' j' with q | q
  · rw [Bool.and_eq_true, Bool.and_eq_true, Bool.not_eq_true', Bool.not_eq_true'] at hk1
    have e : zcl k' j' = k1 := by
      rw [q.1]
      exact zcl_k _ hk1.2.1 hk1.2.2
    rw [e, hk1.1] at hk'
    cases hk'
  · exact q
theorem zC_pk {ws : List Nat} {k k1 : Nat} {Z0 Z Z1 : qz_Z} {b i b1 i1 d m : Int} (h : zC ws Z0 Z) (hz : Z1 = zpy Z k b i k1 b1 i1 d m) (hk1 : (ws.contains k1 && (!Nat.beq k1 11 && !Nat.beq k1 2)) = true) : zC ws Z0 Z1 := fun k' b' i' j' hk' => by
  rw [← h k' b' i' j' hk']
  rcases zpy_or hz k' b' i' j' with q | q
  · rw [Bool.and_eq_true, Bool.and_eq_true, Bool.not_eq_true', Bool.not_eq_true'] at hk1
    have e : zcl k' j' = k1 := by
      rw [q.1]
      exact zcl_k _ hk1.2.1 hk1.2.2
    rw [e, hk1.1] at hk'
    cases hk'
  · exact q
theorem zA_pa {Z Z1 : qz_Z} {x y : Nat} {lo hi i1 d m : Int} (h : zA lo hi x Z) (g : zA lo hi y Z) (hz : Z1 = zpy Z 200 y 0 200 x i1 d m) : zA lo hi x Z1 := fun j => by
  rcases zpy_or hz 200 x 0 j with q | q
  · rw [q.2.2.2.2.2]; exact g _
  · rw [q]; exact h j
theorem zA_p {Z Z1 : qz_Z} {x k k1 : Nat} {lo hi b i b1 i1 d m : Int} (h : zA lo hi x Z) (hz : Z1 = zpy Z k b i k1 b1 i1 d m) (hx : ¬ (200 = k1 ∧ (x : Int) = b1)) : zA lo hi x Z1 := fun j => by
  rcases zpy_or hz 200 x 0 j with q | q
  · exact absurd ⟨q.1, q.2.1⟩ hx
  · rw [q]; exact h j
theorem zX_py {m : Nat} {Z Z1 : qz_Z} {k k1 : Nat} {b i b1 i1 d n : Int} (h : zX m Z) (hz : Z1 = zpy Z k b i k1 b1 i1 d n) (hk : k1 ≠ 11) (h2 : k1 ≠ 47) (h3 : k1 ≠ 43) : zX m Z1 := by
  refine ⟨fun b => ?_, fun b q => ?_, fun b q => ?_⟩
  · rw [zpy_o hz (fun q => hk q.symm), zpy_o hz (fun q => hk q.symm)]; exact h.1 b
  · rw [zpy_o hz (fun q => h2 q.symm), zpy_o hz (fun q => h2 q.symm)]; exact h.2.1 b q
  · rw [zpy_o hz (fun q => h3 q.symm)]; exact h.2.2 b q
theorem zI_py {Z Z1 : qz_Z} {k k1 : Nat} {b i b1 i1 d n : Int} (h : zI none Z) (hz : Z1 = zpy Z k b i k1 b1 i1 d n) (hk : k1 ≠ 200 → ∀ j, d ≤ j → j < d + n → (zr k1 j).1 ≤ -2147483648 ∧ 2147483647 ≤ (zr k1 j).2) : zI none Z1 := by
  refine ⟨fun k' b' i' j' hk' => ?_, fun k' b' i' j' => ?_, fun m hm => (by cases hm), fun hm => (by cases hm)⟩
  · rcases zpy_or hz k' b' i' j' with q | q
    · rw [q.2.2.2.2.2, q.1]
      have h1 := hk (q.1 ▸ hk') j' q.2.2.2.1 q.2.2.2.2.1
      have h2 := h.2.1 k b i (j' - d)
      omega
    · rw [q]; exact h.1 _ _ _ _ hk'
  · rcases zpy_or hz k' b' i' j' with q | q
    · rw [q.2.2.2.2.2]; exact h.2.1 _ _ _ _
    · rw [q]; exact h.2.1 _ _ _ _
/-- into an array made on the way -/
theorem zH_pa {s : zSM} {Z Z1 : qz_Z} {k : Nat} {b i b1 i1 d n : Int} (h : zH s Z) (hz : Z1 = zpy Z k b i 200 b1 i1 d n) (hs : s.1 = none) : zH s Z1 := by
  obtain ⟨s1, s2⟩ := s
  cases hs
  exact ⟨zI_py h.1 hz (fun q => absurd rfl q), zX_py h.2 hz (by decide) (by decide) (by decide)⟩
/-- into the row that stands still -/
theorem zH_pk69 {s : zSM} {Z Z1 : qz_Z} {k : Nat} {b i b1 i1 d n : Int} (h : zH s Z) (hz : Z1 = zpy Z k b i 69 b1 i1 d n) (hs : s.1 = none) : zH s Z1 := by
  obtain ⟨s1, s2⟩ := s
  cases hs
  refine ⟨zI_py h.1 hz (fun _ j _ _ => ?_), zX_py h.2 hz (by decide) (by decide) (by decide)⟩
  rw [show zr 69 j = z_F from rfl]
  decide
/-- into a quarrel's shares -/
theorem zH_pk54 {s : zSM} {Z Z1 : qz_Z} {k : Nat} {b i b1 i1 n : Int} (h : zH s Z) (hz : Z1 = zpy Z k b i 54 b1 i1 4 n) (hn : n ≤ 3) (hs : s.1 = none) : zH s Z1 := by
  obtain ⟨s1, s2⟩ := s
  cases hs
  refine ⟨zI_py h.1 hz (fun _ j h0 h1 => ?_), zX_py h.2 hz (by decide) (by decide) (by decide)⟩
  have : j = 4 ∨ j = 5 ∨ j = 6 := by omega
  rcases this with rfl | rfl | rfl <;> decide
/-- what a method leaves that makes things -/
def zpVn (Q : qz_Z → qz_N → Nat → Prop) (P : qz_Z × Int) : wz_R := fun μ2 o2 => ∃ (ν1 : qz_N) (n1 : Nat), P.2 = n1 ∧ (μ2 = zm P.1 ν1 ∧ o2 = .inl none) ∧ Q P.1 ν1 n1
def zpWn (Q : qz_Z → qz_N → Nat → Int → Prop) (P : qz_Z × Int × Int) : wz_R := fun μ2 o2 => ∃ (ν1 : qz_N) (n1 : Nat), P.2.1 = n1 ∧ (μ2 = zm P.1 ν1 ∧ o2 = .inl (some (.inl (i3 P.2.2)))) ∧ Q P.1 ν1 n1 P.2.2
section ZCN
variable {f : qz_Fn} {as : List qz_V} {μ : qz_M} {Z : qz_Z} {ν : qz_N}
theorem zc_Vn {Q : qz_Z → qz_N → Nat → Prop} {P P0 : qz_Z × Int} (hP : P = P0) (h : wz_call f as μ (zpVn Q P)) : ∃ (Z1 : qz_Z) (ν1 : qz_N) (n1 : Nat), (Z1, (n1 : Int)) = P0 ∧ (f as μ = some (zm Z1 ν1, .inl none) ∧ Q Z1 ν1 n1) := by
  obtain ⟨μ', o, e, ν1, n1, h0, ⟨h1, h2⟩, h3⟩ := h
  exact ⟨P.1, ν1, n1, by rw [← h0]; exact hP, by rw [e, h1, h2], h3⟩
theorem zc_Wn {Q : qz_Z → qz_N → Nat → Int → Prop} {P P0 : qz_Z × Int × Int} (hP : P = P0) (h : wz_call f as μ (zpWn Q P)) : ∃ (Z1 : qz_Z) (ν1 : qz_N) (n1 : Nat) (v : Int), (Z1, (n1 : Int), v) = P0 ∧ (f as μ = some (zm Z1 ν1, .inl (some (.inl (i3 v)))) ∧ Q Z1 ν1 n1 v) := by
  obtain ⟨μ', o, e, ν1, n1, h0, ⟨h1, h2⟩, h3⟩ := h
  exact ⟨P.1, ν1, n1, P.2.2, by rw [← h0]; exact hP, by rw [e, h1, h2], h3⟩
theorem zlVn {Q : qz_Z → qz_N → Nat → Prop} {P : qz_Z × Int} {n1 : Nat} (hP : zE P (Z, (n1 : Int))) (h : Q Z ν n1) : zpVn Q P (zm Z ν) (.inl none) := by cases hP; exact ⟨ν, n1, rfl, ⟨rfl, rfl⟩, h⟩
theorem zlWn {Q : qz_Z → qz_N → Nat → Int → Prop} {P : qz_Z × Int × Int} {n1 : Nat} {e : Int} {v : Int32} (hP : zE P (Z, (n1 : Int), e)) (p : v = i3 e) (h : Q Z ν n1 e) : zpWn Q P (zm Z ν) (.inl (some (.inl v))) := by cases hP; subst p; exact ⟨ν, n1, rfl, ⟨rfl, rfl⟩, h⟩
end ZCN
