/-! TOOLS: a loop's turn, longs as integers, a wrapper whose state is told directly, what is made on the way. -/
theorem wz_lu {F : qz_F} {G : wz_W} {k : wz_K} {R : wz_R} {x : qz_X} (hS : wz_S G F) (N : Nat) (h : G (wz_lk k (fun x' => wz_loop F N k R x')) R x) : wz_loop F (N + 1) k R x := by
  obtain ⟨e, e1, h⟩ := hS _ _ _ h
  match e, e1, h with
  | .inl (0, x'), e1, h =>
    refine ⟨.inl (0, x'), ?_, h⟩
    unfold qn_l
    rw [e1]
    rfl
  | .inl (1, x'), e1, h =>
    obtain ⟨e2, e3, h⟩ := h
    refine ⟨e2, ?_, h⟩
    unfold qn_l
    rw [e1]
    exact e3
  | .inl (n + 2, x'), e1, h =>
    refine ⟨.inl (n + 1, x'), ?_, h⟩
    unfold qn_l
    rw [e1]
    rfl
  | .inr r, e1, h =>
    refine ⟨.inr r, ?_, h⟩
    unfold qn_l
    rw [e1]
    rfl
def lI (x : Int) : Int64 := Int64.ofInt x
theorem lI_t {x : Int} (h : -9223372036854775808 ≤ x) (h2 : x ≤ 9223372036854775807) : (lI x).toInt = x := Int64.toInt_ofInt_of_le h (by show x < 9223372036854775808; omega)
theorem lI_3 {x : Int} (h : -2147483648 ≤ x) (h2 : x ≤ 2147483647) : (i3 x).toInt64 = lI x := Int32.toInt64_ofInt h (by show x ≤ (2147483647 : Int); omega)
theorem lI_i {x : Int} : (lI x).toInt32 = i3 x := Int64.toInt32_ofInt
theorem lI_mul (x y : Int) : lI x * lI y = lI (x * y) := (Int64.ofInt_mul x y).symm
theorem lI_add (x y : Int) : lI x + lI y = lI (x + y) := (Int64.ofInt_add x y).symm
theorem lI_sub (x y : Int) : lI x - lI y = lI (x - y) := (Int64.ofInt_sub x y).symm
theorem lI_div {x y : Int} (h0 : 0 ≤ x) (h1 : x ≤ 9223372036854775807) (h2 : 0 ≤ y) (h3 : y ≤ 9223372036854775807) : lI x / lI y = lI (x / y) := by
  unfold lI
  rw [← Int64.ofInt_tdiv (by show (-9223372036854775808 : Int) ≤ _; omega) (by show _ ≤ (9223372036854775807 : Int); omega) (by show (-9223372036854775808 : Int) ≤ _; omega) (by show _ ≤ (9223372036854775807 : Int); omega), Int.tdiv_eq_ediv_of_nonneg h0]
theorem lI_mod {x y : Int} (h0 : 0 ≤ x) (h1 : x ≤ 9223372036854775807) (h2 : 0 ≤ y) (h3 : y ≤ 9223372036854775807) : lI x - lI x / lI y * lI y = lI (x % y) := by
  rw [lI_div h0 h1 h2 h3, lI_mul, lI_sub]
  congr 1
  have := Int.emod_add_mul_ediv x y
  have e : x / y * y = y * (x / y) := Int.mul_comm _ _
  omega
theorem lI_inj {x y : Int} (h : -9223372036854775808 ≤ x) (h2 : x ≤ 9223372036854775807) (h3 : -9223372036854775808 ≤ y) (h4 : y ≤ 9223372036854775807) (e : lI x = lI y) : x = y := by
  have := congrArg Int64.toInt e
  rw [lI_t h h2, lI_t h3 h4] at this
  exact this
theorem lI_z {x : Int} (h : 0 < x) (h2 : x ≤ 9223372036854775807) : decide (lI x = 0) = false := decide_eq_false (fun z => by
  have := lI_inj (by omega) h2 (by omega) (by omega) (z.trans (show (0 : Int64) = lI 0 from rfl))
  omega)
theorem lI_cmp {x y : Int} (h : -9223372036854775808 ≤ x) (h2 : x ≤ 9223372036854775807) (h3 : -9223372036854775808 ≤ y) (h4 : y ≤ 9223372036854775807) : lg_cmp (lI x) (lI y) = if x = y then 0 else if x < y then -1 else 1 := by
  unfold lg_cmp
  by_cases e : x = y
  · subst e
    simp
  · have hn : lI x ≠ lI y := fun q => e (lI_inj h h2 h3 h4 q)
    have hl : (lI x > lI y) = (y < x) := by
      show (lI y < lI x) = _
      rw [Int64.lt_iff_toInt_lt, lI_t h h2, lI_t h3 h4]
    rw [if_neg hn, if_neg e]
    by_cases l : y < x
    · rw [if_pos (hl ▸ l), if_neg (by omega)]
    · rw [if_neg (fun q => l (hl ▸ q)), if_pos (by omega)]
theorem lI_le {x y : Int} (h : -9223372036854775808 ≤ x) (h2 : x ≤ 9223372036854775807) (h3 : -9223372036854775808 ≤ y) (h4 : y ≤ 9223372036854775807) : decide (lg_cmp (lI x) (lI y) ≤ 0) = decide (x ≤ y) := by
  rw [lI_cmp h h2 h3 h4]
  by_cases e : x = y
  · rw [if_pos e, decide_eq_true (show x ≤ y by omega)]; rfl
  · rw [if_neg e]
    by_cases l : x < y
    · rw [if_pos l, decide_eq_true (show x ≤ y by omega)]; rfl
    · rw [if_neg l, decide_eq_false (show ¬ x ≤ y by omega)]; rfl
theorem lI_ge {x y : Int} (h : -9223372036854775808 ≤ x) (h2 : x ≤ 9223372036854775807) (h3 : -9223372036854775808 ≤ y) (h4 : y ≤ 9223372036854775807) : decide (0 ≤ lg_cmp (lI x) (lI y)) = decide (y ≤ x) := by
  rw [lI_cmp h h2 h3 h4]
  by_cases e : x = y
  · rw [if_pos e, decide_eq_true (show y ≤ x by omega)]; rfl
  · rw [if_neg e]
    by_cases l : x < y
    · rw [if_pos l, decide_eq_false (show ¬ y ≤ x by omega)]; rfl
    · rw [if_neg l, decide_eq_true (show y ≤ x by omega)]; rfl
/-- a long written -/
def nwl (ν : qz_N) (k b i j : Nat) (v : Int64) : qz_N := (qz_u4 ν.1 k b i j v, ν.2)
theorem zm_wL {Z : qz_Z} {ν : qz_N} {k b i j : Nat} {v : Int64} : qz_wL (zm Z ν) (k, b, i) j v = zm Z (nwl ν k b i j v) := rfl
theorem nwl_at {ν : qz_N} {k b i j : Nat} {v : Int64} : (nwl ν k b i j v).1 k b i j = v := if_pos ⟨rfl, rfl, rfl, rfl⟩
theorem nwl_ne {ν : qz_N} {k b i j k' b' i' j' : Nat} {v : Int64} (h : ¬ (k' = k ∧ b' = b ∧ i' = i ∧ j' = j)) : (nwl ν k b i j v).1 k' b' i' j' = ν.1 k' b' i' j' := if_neg h
/-- one made on the way -/
def nal (ν : qz_N) (t c l k s : Nat) : qz_N := (qz_z4 ν.1 ν.2.2.2.1 0, (fun k b i j => if k = 200 ∧ b = ν.2.2.2.1 then none else ν.2.1 k b i j), (fun n => if n = ν.2.2.2.1 then (t, c, l) else ν.2.2.1 n), ν.2.2.2.1 + 1, ν.2.2.2.2.1 + k, ν.2.2.2.2.2 + s)
theorem zal {Z : qz_Z} {ν : qz_N} {t c l k s : Nat} : qz_al (zm Z ν) t c l k s = zm (zzr Z ν.2.2.2.1) (nal ν t c l k s) := zm_al
theorem zzr_at {Z : qz_Z} {n : Nat} {i j : Int} : zzr Z n 200 n i j = 0 := if_pos ⟨rfl, rfl⟩
theorem zzr_ne {Z : qz_Z} {n : Nat} {k : Nat} {b i j : Int} (h : ¬ (k = 200 ∧ b = n)) : zzr Z n k b i j = Z k b i j := if_neg h
theorem nal_at {ν : qz_N} {t c l k s : Nat} : (nal ν t c l k s).2.2.1 ν.2.2.2.1 = (t, c, l) := if_pos rfl
theorem nal_ne {ν : qz_N} {t c l k s n : Nat} (h : n ≠ ν.2.2.2.1) : (nal ν t c l k s).2.2.1 n = ν.2.2.1 n := if_neg h
theorem nal_l {ν : qz_N} {t c l k s b i j : Nat} (h : b ≠ ν.2.2.2.1) : (nal ν t c l k s).1 200 b i j = ν.1 200 b i j := if_neg (fun q => h q.2)
theorem nal_r {ν : qz_N} {t c l m s k b i j : Nat} (h : k ≠ 200) : (nal ν t c l m s).2.1 k b i j = ν.2.1 k b i j := if_neg (fun q => h q.1)
theorem zt_tag {Z : qz_Z} {ν : qz_N} {n t c l i : Nat} (h : ν.2.2.1 n = (t, c, l)) (hi : i < c) : qz_tag (zm Z ν) (200, n, i) = t := by
  show (bif Nat.beq 200 200 then (bif Nat.blt i (ν.2.2.1 n).2.1 then (ν.2.2.1 n).1 else 255) else _) = t
  rw [h, show Nat.blt i c = true from Nat.ble_eq_true_of_le hi]
  rfl
theorem zt_len {Z : qz_Z} {ν : qz_N} {n t c l i : Nat} (h : ν.2.2.1 n = (t, c, l)) : qz_len (zm Z ν) (200, n, i) = l := by
  show (bif Nat.beq 200 200 then (ν.2.2.1 n).2.2 else _) = l
  rw [h]
  rfl
/-- the state of a call that makes things on the way: what stands ahead of it is `Z0, ν0` -/
def zG (z s : Nat) (ν0 ν : qz_N) : Prop := (∀ k b i j, k ≠ 200 → ν.1 k b i j = ν0.1 k b i j) ∧ (∀ k b i j, k ≠ 200 → ν.2.1 k b i j = ν0.2.1 k b i j) ∧ (∀ n, n < ν0.2.2.2.1 → ν.2.2.1 n = ν0.2.2.1 n) ∧ ν0.2.2.2.1 ≤ ν.2.2.2.1 ∧ ν.2.2.2.2.1 ≤ ν0.2.2.2.2.1 + z ∧ ν.2.2.2.2.2 ≤ ν0.2.2.2.2.2 + s
theorem zG_r {ν : qz_N} : zG 0 0 ν ν := ⟨fun _ _ _ _ _ => rfl, fun _ _ _ _ _ => rfl, fun _ _ => rfl, Nat.le_refl _, Nat.le_refl _, Nat.le_refl _⟩
theorem zG_w {z s z1 s1 : Nat} {ν0 ν : qz_N} (h : zG z s ν0 ν) (hz : z ≤ z1) (hs : s ≤ s1) : zG z1 s1 ν0 ν := ⟨h.1, h.2.1, h.2.2.1, h.2.2.2.1, by have := h.2.2.2.2.1; omega, by have := h.2.2.2.2.2; omega⟩
theorem zG_N {z s : Nat} {ν0 ν : qz_N} (h : zG z s ν0 ν) (hz : z ≤ 10000) (hs : s ≤ 1000000) : zN ν0 ν := zG_w h hz hs
theorem zN_G {ν0 ν : qz_N} (h : zN ν0 ν) : zG 10000 1000000 ν0 ν := h
theorem zG_al {z s : Nat} {ν0 ν : qz_N} {t c l k m : Nat} (h : zG z s ν0 ν) : zG (z + k) (s + m) ν0 (nal ν t c l k m) := by
  obtain ⟨h1, h2, h3, h4, h5, h6⟩ := h
  refine ⟨fun k b i j hk => (if_neg (fun q => hk q.1)).trans (h1 k b i j hk), fun k b i j hk => (if_neg (fun q => hk q.1)).trans (h2 k b i j hk), fun n hn => (nal_ne (by omega)).trans (h3 n hn), Nat.le_succ_of_le h4, ?_, ?_⟩
  · show ν.2.2.2.2.1 + k ≤ _
    omega
  · show ν.2.2.2.2.2 + m ≤ _
    omega
theorem zG_l {z s : Nat} {ν0 ν : qz_N} {b i j : Nat} {v : Int64} (h : zG z s ν0 ν) : zG z s ν0 (nwl ν 200 b i j v) := ⟨fun k b i j hk => (if_neg (fun q => hk q.1)).trans (h.1 k b i j hk), h.2⟩
theorem zG_t {z s z1 s1 : Nat} {ν0 ν ν1 : qz_N} (h : zG z s ν0 ν) (g : zG z1 s1 ν ν1) : zG (z + z1) (s + s1) ν0 ν1 := by
  obtain ⟨h1, h2, h3, h4, h5, h6⟩ := h
  obtain ⟨g1, g2, g3, g4, g5, g6⟩ := g
  exact ⟨fun k b i j hk => (g1 k b i j hk).trans (h1 k b i j hk), fun k b i j hk => (g2 k b i j hk).trans (h2 k b i j hk), fun n hn => (g3 n (by omega)).trans (h3 n hn), by omega, by omega, by omega⟩
/-- nothing is written but in these kinds, and in what is made on the way -/
def zJ (ws : List Nat) (n : Nat) (Z0 Z : qz_Z) : Prop := ∀ k (b i j : Int), ws.contains k = false → ¬ (k = 200 ∧ (n : Int) ≤ b) → Z k b i j = Z0 k b i j
theorem zJ_r {ws : List Nat} {n : Nat} {Z : qz_Z} : zJ ws n Z Z := fun _ _ _ _ _ _ => rfl
theorem zJ_u {ws : List Nat} {n : Nat} {Z0 Z Z1 : qz_Z} {k : Nat} {b i j v : Int} (h : zJ ws n Z0 Z) (hz : Z1 = zu Z k b i j v) (hk : ws.contains k = true ∨ (k = 200 ∧ (n : Int) ≤ b)) : zJ ws n Z0 Z1 := fun k' b' i' j' hk' hn => (zu_ne hz (fun q => by
  obtain ⟨q1, q2, _⟩ := q
  subst q1 q2
  rcases hk with e | e
  · rw [e] at hk'; cases hk'
  · exact hn e)).trans (h k' b' i' j' hk' hn)
theorem zJ_z {ws : List Nat} {n m : Nat} {Z0 Z : qz_Z} (h : zJ ws n Z0 Z) (hm : n ≤ m) : zJ ws n Z0 (zzr Z m) := fun k b i j hk hn => (zzr_ne (fun q => hn ⟨q.1, by omega⟩)).trans (h k b i j hk hn)
theorem zJ_k {ws vs : List Nat} {n : Nat} {Z0 Z Z1 : qz_Z} (h : zJ ws n Z0 Z) (g : zK vs Z Z1) (hs : vs.all (fun k => ws.contains k) = true) : zJ ws n Z0 Z1 := fun k b i j hk hn => by
  rw [← h k b i j hk hn]
  exact zK_w g hs k hk b i j
theorem zJ_t {ws : List Nat} {n m : Nat} {Z0 Z Z1 : qz_Z} (h : zJ ws n Z0 Z) (g : zJ ws m Z Z1) (hm : n ≤ m) : zJ ws n Z0 Z1 := fun k b i j hk hn => (g k b i j hk (fun q => hn ⟨q.1, by omega⟩)).trans (h k b i j hk hn)
/-- ranges, where a cell of what is made on the way is written -/
theorem zI_200 {Z Z1 : qz_Z} {b i j v : Int} (h : zI none Z) (h1 : Z1 = zu Z 200 b i j v) (hv : -2147483648 ≤ v ∧ v ≤ 2147483647) : zI none Z1 := by
  subst h1
  refine ⟨fun k' b' i' j' hk' => ?_, fun k' b' i' j' => ?_, fun m hm => (by cases hm), fun hm => (by cases hm)⟩
  · have e2 : zu Z 200 b i j v k' b' i' j' = Z k' b' i' j' := if_neg (fun q => hk' q.1)
    rw [e2]; exact h.1 _ _ _ _ hk'
  · show -2147483648 ≤ (if _ then v else Z k' b' i' j') ∧ (if _ then v else Z k' b' i' j') ≤ 2147483647
    split
    · exact hv
    · exact h.2.1 _ _ _ _
