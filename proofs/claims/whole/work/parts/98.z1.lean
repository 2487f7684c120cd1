/-! THE RECORD of the reference: rows made longer (565), a deed laid down (563). -/
/-- the cells that are not bounded, and what is made on the way: anything may stand there -/
def zi32 (Z : qz_Z) : Prop := ∀ k b i j, -2147483648 ≤ Z k b i j ∧ Z k b i j ≤ 2147483647
theorem zi32_u {Z : qz_Z} {k : Nat} {b i j v : Int} (h : zi32 Z) (hv : -2147483648 ≤ v ∧ v ≤ 2147483647) : zi32 (zu Z k b i j v) := fun k' b' i' j' => by
  by_cases c : k' = k ∧ b' = b ∧ i' = i ∧ j' = j
  · rw [show zu Z k b i j v k' b' i' j' = v from if_pos c]
    exact hv
  · rw [show zu Z k b i j v k' b' i' j' = Z k' b' i' j' from if_neg c]
    exact h _ _ _ _
theorem zi32_pq {Z : qz_Z} {k k1 : Nat} {b i s0 b1 i1 d n : Int} (h : zi32 Z) : zi32 (zpq Z k b i s0 k1 b1 i1 d n) := fun k' b' i' j' => by
  unfold zpq
  split
  · exact h _ _ _ _
  · exact h _ _ _ _
theorem zi32_z {Z : qz_Z} {n : Nat} (h : zi32 Z) : zi32 (zzr Z n) := fun k' b' i' j' => by
  unfold zzr
  split
  · omega
  · exact h _ _ _ _
theorem zM_rec {s : zSM} {Z Z' : qz_Z} (h : zM s Z) (hs : s.1 = none) (e : ∀ (k : Nat) b i j, k ≠ 200 → k ≠ 102 → k ≠ 103 → ¬ (k = 1 ∧ (j = 37 ∨ j = 39)) → Z' k b i j = Z k b i j) (r : zi32 Z') : zM s Z' := by
  have e1 : ∀ (k : Nat) b i j, (Nat.beq k 200 || (Nat.beq k 102 || (Nat.beq k 103 || Nat.beq k 1))) = false → Z' k b i j = Z k b i j := fun k b i j q => by
    refine e k b i j (fun x => ?_) (fun x => ?_) (fun x => ?_) (fun x => ?_)
    · rw [x] at q
      cases q
    · rw [x] at q
      cases q
    · rw [x] at q
      cases q
    · rw [x.1] at q
      cases q
  refine ⟨⟨⟨fun k b i j hk => ?_, r, fun n hn => ?_, fun hn => ?_⟩, ?_⟩, ?_⟩
  · by_cases c2 : k = 102
    · subst c2
      have z : zr 102 j = (-2147483648, 2147483647) := rfl
      rw [z]
      exact r _ _ _ _
    by_cases c3 : k = 103
    · subst c3
      have z : zr 103 j = (-2147483648, 2147483647) := rfl
      rw [z]
      exact r _ _ _ _
    by_cases c1 : k = 1 ∧ (j = 37 ∨ j = 39)
    · obtain ⟨rfl, c1⟩ := c1
      rcases c1 with rfl | rfl
      · have z : zr 1 37 = (-2147483648, 2147483647) := rfl
        rw [z]
        exact r _ _ _ _
      · have z : zr 1 39 = (-2147483648, 2147483647) := rfl
        rw [z]
        exact r _ _ _ _
    · rw [e k b i j hk c2 c3 c1]
      exact h.1.1.1 _ _ _ _ hk
  · rw [hs] at hn
    cases hn
  · rw [hs] at hn
    cases hn
  · refine ⟨fun b => ?_, fun b q => ?_, fun b i => ?_⟩
    · rw [e1 11 _ _ _ rfl, e1 11 _ _ _ rfl]
      exact h.1.2.1 b
    · rw [e1 47 _ _ _ rfl, e1 47 _ _ _ rfl]
      exact h.1.2.2.1 b q
    · rw [e1 43 _ _ _ rfl]
      exact h.1.2.2.2 b i
  · intro p hp
    have hz : ∀ p ∈ zYs, (Nat.beq p.1 200 || (Nat.beq p.1 102 || (Nat.beq p.1 103 || Nat.beq p.1 1))) = false := by decide
    exact zYr_s (h.2 p hp) (fun j _ => e1 _ _ _ _ (hz p hp))
/-- a row of ints that is there -/
def zRr (ν : qz_N) (r : qz_R) (len : Nat) : Prop := (r.1 = 102 ∨ r.1 = 103 ∨ r.1 = 200 ∧ r.2.1 < ν.2.2.2.1) ∧ len ≤ 1000000 ∧ ∀ Z : qz_Z, qz_tag (zm Z ν) r = 50 ∧ qz_len (zm Z ν) r = len
theorem zRr_n {ν : qz_N} {len : Nat} (hl : len ≤ 1000000) : zRr (nal ν 50 1 len 1 len) (200, ν.2.2.2.1, 0) len := ⟨.inr (.inr ⟨rfl, Nat.lt_succ_self _⟩), hl, fun _ => ⟨zt_tag nal_at (by decide), zt_len nal_at⟩⟩
theorem zRr_a {ν : qz_N} {r : qz_R} {len t c l k s : Nat} (h : zRr ν r len) : zRr (nal ν t c l k s) r len := by
  obtain ⟨h1, h2, h3⟩ := h
  refine ⟨?_, h2, fun Z => ?_⟩
  · rcases h1 with h1 | h1 | ⟨h1, h4⟩
    · exact .inl h1
    · exact .inr (.inl h1)
    · exact .inr (.inr ⟨h1, Nat.lt_succ_of_lt h4⟩)
  · obtain ⟨k0, b0, i0⟩ := r
    have g := h3 Z
    rcases h1 with h1 | h1 | ⟨h1, h4⟩
    · have h1' : k0 = 102 := h1
      subst h1'
      exact g
    · have h1' : k0 = 103 := h1
      subst h1'
      exact g
    · have h1' : k0 = 200 := h1
      have h4' : b0 < ν.2.2.2.1 := h4
      subst h1'
      have e : (nal ν t c l k s).2.2.1 b0 = ν.2.2.1 b0 := nal_ne (by omega)
      have g' : (bif Nat.blt i0 (ν.2.2.1 b0).2.1 then (ν.2.2.1 b0).1 else 255) = 50 ∧ (ν.2.2.1 b0).2.2 = len := g
      show (bif Nat.blt i0 ((nal ν t c l k s).2.2.1 b0).2.1 then ((nal ν t c l k s).2.2.1 b0).1 else 255) = 50 ∧ ((nal ν t c l k s).2.2.1 b0).2.2 = len
      rw [e]
      exact g'
theorem zpq_t {Z : qz_Z} {k k1 : Nat} {b i s0 b1 i1 d n x y : Int} (hk : k ≠ k1 ∨ b ≠ b1) (hn : 0 ≤ n) (hx : x = d + n) (hy : y = s0 + n) : zpq Z k b i s0 k1 b1 i1 d (n + 1) = zu (zpq Z k b i s0 k1 b1 i1 d n) k1 b1 i1 x (zpq Z k b i s0 k1 b1 i1 d n k b i y) := by
  subst hx hy
  have e : zpq Z k b i s0 k1 b1 i1 d n k b i (s0 + n) = Z k b i (s0 + n) := if_neg (fun q => by
    rcases hk with hk | hk
    · exact hk q.1
    · exact hk q.2.1)
  rw [e]
  funext k' b' i' j'
  show (if k' = k1 ∧ b' = b1 ∧ i' = i1 ∧ d ≤ j' ∧ j' < d + (n + 1) then Z k b i (j' - d + s0) else Z k' b' i' j') = (if k' = k1 ∧ b' = b1 ∧ i' = i1 ∧ j' = d + n then Z k b i (s0 + n) else if k' = k1 ∧ b' = b1 ∧ i' = i1 ∧ d ≤ j' ∧ j' < d + n then Z k b i (j' - d + s0) else Z k' b' i' j')
  by_cases c : k' = k1 ∧ b' = b1 ∧ i' = i1
  · obtain ⟨rfl, rfl, rfl⟩ := c
    by_cases q : j' = d + n
    · subst q
      rw [if_pos ⟨rfl, rfl, rfl, by omega, by omega⟩, if_pos ⟨rfl, rfl, rfl, rfl⟩, show d + n - d + s0 = s0 + n by omega]
    · rw [if_neg (c := _ ∧ _ ∧ _ ∧ j' = d + n) (fun h => q h.2.2.2)]
      by_cases g : d ≤ j' ∧ j' < d + n
      · rw [if_pos ⟨rfl, rfl, rfl, g.1, by omega⟩, if_pos ⟨rfl, rfl, rfl, g⟩]
      · rw [if_neg (fun h => g ⟨h.2.2.2.1, by omega⟩), if_neg (fun h => g h.2.2.2)]
  · rw [if_neg (fun h => c ⟨h.1, h.2.1, h.2.2.1⟩), if_neg (fun h => c ⟨h.1, h.2.1, h.2.2.1⟩), if_neg (fun h => c ⟨h.1, h.2.1, h.2.2.1⟩)]
/-- a row made anew, with the first numbers of another one -/
def zxr (Z : qz_Z) (ν : qz_N) (r : qz_R) (many : Int) : qz_Z := zpq (zzr Z ν.2.2.2.1) r.1 r.2.1 r.2.2 0 200 ν.2.2.2.1 0 0 many
set_option maxRecDepth 20000 in
theorem sp_565 {Z : qz_Z} {ν : qz_N} {r : qz_R} {len : Nat} {many size : Int} (hr : zRr ν r len) (h0 : 0 ≤ many) (h1 : many ≤ len) (h2 : many ≤ size) (h3 : size ≤ 1000000) (h4 : many ≤ 60000) : qf_565 [.inr (.inr (some r)), .inl (i3 many), .inl (i3 size)] (zm Z ν) = some (zm (zxr Z ν r many) (nal ν 50 1 size.toNat 1 size.toNat), .inl (some (.inr (.inr (some (200, ν.2.2.2.1, 0)))))) := by
  have hl := hr.2.1
  have en : (i3 size).toNatClampNeg = size.toNat := i3_nat (by omega) (by omega)
  refine wz_call_eq (fw_565 r (i3 many) (i3 size) _ _ ?_)
  refine wz_i0 ?_ ?_
  · rw [en, show (0 : Int32) = i3 0 from rfl, i3_declt ⟨by omega, by omega⟩ ⟨by omega, by omega⟩, decide_eq_false (by omega)]
    show Nat.blt 1000000 size.toNat = false
    cases q : Nat.blt 1000000 size.toNat with
    | false => rfl
    | true =>
      have := Nat.le_of_ble_eq_true q
      omega
  rw [en]
  have ha : zRr (nal ν 50 1 size.toNat 1 size.toNat) r len := zRr_a hr
  have hb : zRr (nal ν 50 1 size.toNat 1 size.toNat) (200, ν.2.2.2.1, 0) size.toNat := zRr_n (by omega)
  obtain ⟨ν1, hν⟩ : ∃ ν1, ν1 = nal ν 50 1 size.toNat 1 size.toNat := ⟨_, rfl⟩
  intro μ1 e1
  replace e1 := zal_e e1 rfl rfl hν
  subst e1
  rw [← hν] at ha hb
  rw [show qz_na (zm Z ν) = ν.2.2.2.1 from rfl, ← hν]
  have hne : r.1 ≠ 200 ∨ (r.2.1 : Int) ≠ (ν.2.2.2.1 : Int) := by
    rcases hr.1 with h | h | ⟨_, h⟩
    · exact .inl (by omega)
    · exact .inl (by omega)
    · exact .inr (by omega)
  refine wz_lp sb_565_1 (fun m x => ∃ n : Int, qz_fg [true, true, false, true, true] x.1 = [some (.inr (.inr (some r))), some (.inl (i3 many)), none, some (.inr (.inr (some (200, ν.2.2.2.1, 0)))), some (.inl (i3 n))] ∧ x.2 = ([], zm (zxr Z ν r n) ν1) ∧ 0 ≤ n ∧ n ≤ many ∧ m = (many - n).toNat) ?_ 65536 many.toNat _ ?_ ⟨0, (zconso rfl (zconso rfl (zconso rfl (zconso rfl (zconso (zvo (show (0 : Int32) = i3 0 from rfl)) rfl))))), by unfold zxr; rw [zpq_0], by omega, by omega, by omega⟩
  rintro m ⟨L, st, μ⟩ ⟨n, hL, hx, h0, h1, hm⟩
  cases hx
  refine fb_565_1 r (i3 many) ν.2.2.2.1 (i3 n) _ _ _ _ hL ?_
  refine wz_br (i3Le (rfl : i3 many = i3 many) (rfl : i3 n = i3 n) (by omega) (by omega) (by omega) (by omega)) (fun q => ?_) (fun q => ?_)
  · have hn : n = many := by omega
    subst hn
    exact fc_565_2 _ _ _ _ _ (by rfl) ⟨rfl, rfl⟩
  · obtain ⟨t1, t2⟩ := ha.2.2 (zxr Z ν r n)
    obtain ⟨t3, t4⟩ := hb.2.2 (zxr Z ν r n)
    refine wz_i1 (by rw [t1]; rfl) ?_
    refine wz_i0 (by rw [t2]; exact i3O (n := len) (rfl : i3 n = i3 n) (by omega) (by omega) (by omega)) ?_
    refine wz_i1 (by rw [t3]; rfl) ?_
    refine wz_i0 (by rw [t4]; exact i3O (n := size.toNat) (rfl : i3 n = i3 n) (by omega) (by omega) (by omega)) ?_
    obtain ⟨Z2, hZ2⟩ := zx (zxr Z ν r (n + 1))
    have hz : Z2 = zu (zxr Z ν r n) 200 ν.2.2.2.1 0 n (zxr Z ν r n r.1 r.2.1 r.2.2 n) := hZ2.trans (zpq_t hne h0 (by omega : n = 0 + n) (by omega : n = 0 + n))
    intro μ9 e9
    replace e9 := e9.trans (zm_wI (ν := ν1) hz rfl (show ((0 : Nat) : Int) = 0 from rfl) (i3I (y := n) (rfl : i3 n = i3 n) (by omega) (by omega) (by omega)) (zm_rd (ν := ν1) rfl rfl (i3I (y := n) (rfl : i3 n = i3 n) (by omega) (by omega) (by omega))))
    subst e9
    obtain ⟨m2, rfl⟩ : ∃ m2, m = m2 + 1 := ⟨m - 1, by omega⟩
    exact wz_k1 ⟨m2, by omega, n + 1, (zconso rfl (zconso rfl (zconso rfl (zconso rfl (zconso (zvo (i3A (rfl : i3 n = i3 n) (show (1 : Int32) = i3 1 from rfl))) rfl))))), by rw [hZ2], by omega, by omega, by omega⟩
  all_goals omega
/-- one number of the record -/
theorem zrec_w {Z : qz_Z} {ν : qz_N} {r : qz_R} {len : Nat} (hr : zRr ν r len) (e36 : ν.2.1 1 0 0 36 = some r) {x w : Int32} {a v : Int} {K : qz_M → Prop} (hx : x = i3 a) (a0 : 0 ≤ a) (a1 : a < len) (hw : w = i3 v) (h : K (zm (zu Z r.1 r.2.1 r.2.2 a v) ν)) : wz_rk (qz_rm (zm Z ν) 1 0 0 36) (fun r2 => bif Nat.beq (qz_tag (zm Z ν) r2) 50 then (bif pz_out x (qz_len (zm Z ν) r2) then False else wz_wr (qz_wI (zm Z ν) r2 x.toNatClampNeg w) K) else False) := by
  have hl := hr.2.1
  obtain ⟨t1, t2⟩ := hr.2.2 Z
  refine wz_rko e36 ?_
  refine wz_i1 (by rw [t1]; rfl) ?_
  refine wz_i0 (by rw [t2]; exact i3O (n := len) hx a0 a1 (by omega)) ?_
  intro μ9 e9
  replace e9 := e9.trans (zm_wI (k := r.1) (b := r.2.1) (i := r.2.2) (ν := ν) (rfl : zu Z r.1 r.2.1 r.2.2 a v = _) rfl rfl (i3I (y := a) hx rfl a0 (by omega)) hw)
  subst e9
  exact h
/-- seven numbers, and one deed more -/
def z7w (Z : qz_Z) (r : qz_R) (N c a1 a2 a3 a4 a5 a6 : Int) : qz_Z := zu (zu (zu (zu (zu (zu (zu Z r.1 r.2.1 r.2.2 (7 * N) c) r.1 r.2.1 r.2.2 (7 * N + 1) a1) r.1 r.2.1 r.2.2 (7 * N + 2) a2) r.1 r.2.1 r.2.2 (7 * N + 3) a3) r.1 r.2.1 r.2.2 (7 * N + 4) a4) r.1 r.2.1 r.2.2 (7 * N + 5) a5) r.1 r.2.1 r.2.2 (7 * N + 6) a6
def zdN (Z : qz_Z) (r : qz_R) (N c a1 a2 a3 a4 a5 a6 : Int) : qz_Z := zu (z7w Z r N c a1 a2 a3 a4 a5 a6) 1 0 0 37 (N + 1)
theorem z7w_ne {Z : qz_Z} {r : qz_R} {N c a1 a2 a3 a4 a5 a6 : Int} {k : Nat} {b i j : Int} (h : k ≠ r.1) : z7w Z r N c a1 a2 a3 a4 a5 a6 k b i j = Z k b i j := by
  have q : ∀ (X : qz_Z) (a v : Int), zu X r.1 r.2.1 r.2.2 a v k b i j = X k b i j := fun X a v => zu_ne rfl (fun q => h q.1)
  unfold z7w
  rw [q, q, q, q, q, q, q]
theorem zdN_ne {Z : qz_Z} {r : qz_R} {N c a1 a2 a3 a4 a5 a6 : Int} {k : Nat} {b i j : Int} (h : k ≠ r.1) (h1 : ¬ (k = 1 ∧ j = 37)) : zdN Z r N c a1 a2 a3 a4 a5 a6 k b i j = Z k b i j := by
  unfold zdN
  rw [zu_ne rfl (fun q => h1 ⟨q.1, q.2.2.2⟩), z7w_ne h]
theorem zi32_d {Z : qz_Z} {r : qz_R} {N c a1 a2 a3 a4 a5 a6 : Int} (h : zi32 Z) (hN : 0 ≤ N ∧ N ≤ 1000000) (g : (-2147483648 ≤ c ∧ c ≤ 2147483647) ∧ (-2147483648 ≤ a1 ∧ a1 ≤ 2147483647) ∧ (-2147483648 ≤ a2 ∧ a2 ≤ 2147483647) ∧ (-2147483648 ≤ a3 ∧ a3 ≤ 2147483647) ∧ (-2147483648 ≤ a4 ∧ a4 ≤ 2147483647) ∧ (-2147483648 ≤ a5 ∧ a5 ≤ 2147483647) ∧ (-2147483648 ≤ a6 ∧ a6 ≤ 2147483647)) : zi32 (zdN Z r N c a1 a2 a3 a4 a5 a6) := by
  obtain ⟨g0, g1, g2, g3, g4, g5, g6⟩ := g
  unfold zdN z7w
  exact zi32_u (zi32_u (zi32_u (zi32_u (zi32_u (zi32_u (zi32_u (zi32_u h g0) g1) g2) g3) g4) g5) g6) (by omega)
set_option maxRecDepth 20000 in
theorem sp_563a {Z : qz_Z} {ν : qz_N} {r : qz_R} {len : Nat} {c a1 a2 a3 a4 a5 a6 : Int} (hr : zRr ν r len) (e36 : ν.2.1 1 0 0 36 = some r) (h37 : 0 ≤ Z 1 0 0 37) (h7 : 7 * Z 1 0 0 37 + 7 ≤ len) : qf_563 [.inr (.inr (some (1, 0, 0))), .inl (i3 c), .inl (i3 a1), .inl (i3 a2), .inl (i3 a3), .inl (i3 a4), .inl (i3 a5), .inl (i3 a6)] (zm Z ν) = some (zm (zdN Z r (Z 1 0 0 37) c a1 a2 a3 a4 a5 a6) ν, .inl none) := by
  have hl := hr.2.1
  have k1 : r.1 ≠ 1 := by
    rcases hr.1 with h | h | ⟨h, _⟩ <;> omega
  have e37 := zm_rd (Z := Z) (ν := ν) (k := 1) (b := 0) (i := 0) (j := 37) (show ((0 : Nat) : Int) = 0 from rfl) (show ((0 : Nat) : Int) = 0 from rfl) (show ((37 : Nat) : Int) = 37 from rfl)
  obtain ⟨t1, t2⟩ := hr.2.2 Z
  refine wz_call_eq (fw_563 (i3 c) (i3 a1) (i3 a2) (i3 a3) (i3 a4) (i3 a5) (i3 a6) _ _ ?_)
  refine wz_rko e36 ?_
  refine wz_i1 (by rw [t1]; rfl) ?_
  refine wz_i1 ?_ ?_
  · rw [t2, i3_ofNat]
    exact (i3Le (i3A (i3M (show (7 : Int32) = i3 7 from rfl) e37) (show (7 : Int32) = i3 7 from rfl)) (rfl : i3 (len : Int) = i3 (len : Int)) (by omega) (by omega) (by omega) (by omega)).trans (decide_eq_true h7)
  refine zrec_w hr e36 (i3M (show (7 : Int32) = i3 7 from rfl) e37) (by omega) (by omega) (rfl : i3 c = i3 c) ?_
  refine zrec_w hr e36 (i3A (i3M (show (7 : Int32) = i3 7 from rfl) e37) (show (1 : Int32) = i3 1 from rfl)) (by omega) (by omega) (rfl : i3 a1 = i3 a1) ?_
  refine zrec_w hr e36 (i3A (i3M (show (7 : Int32) = i3 7 from rfl) e37) (show (2 : Int32) = i3 2 from rfl)) (by omega) (by omega) (rfl : i3 a2 = i3 a2) ?_
  refine zrec_w hr e36 (i3A (i3M (show (7 : Int32) = i3 7 from rfl) e37) (show (3 : Int32) = i3 3 from rfl)) (by omega) (by omega) (rfl : i3 a3 = i3 a3) ?_
  refine zrec_w hr e36 (i3A (i3M (show (7 : Int32) = i3 7 from rfl) e37) (show (4 : Int32) = i3 4 from rfl)) (by omega) (by omega) (rfl : i3 a4 = i3 a4) ?_
  refine zrec_w hr e36 (i3A (i3M (show (7 : Int32) = i3 7 from rfl) e37) (show (5 : Int32) = i3 5 from rfl)) (by omega) (by omega) (rfl : i3 a5 = i3 a5) ?_
  refine zrec_w hr e36 (i3A (i3M (show (7 : Int32) = i3 7 from rfl) e37) (show (6 : Int32) = i3 6 from rfl)) (by omega) (by omega) (rfl : i3 a6 = i3 a6) ?_
  intro μ9 e9
  have g := zm_rd (Z := z7w Z r (Z 1 0 0 37) c a1 a2 a3 a4 a5 a6) (ν := ν) (k := 1) (b := 0) (i := 0) (j := 37) (show ((0 : Nat) : Int) = 0 from rfl) (show ((0 : Nat) : Int) = 0 from rfl) (show ((37 : Nat) : Int) = 37 from rfl)
  rw [z7w_ne (Ne.symm k1)] at g
  replace e9 := e9.trans (zm_wI (k := 1) (b := 0) (i := 0) (j := 37) (ν := ν) (rfl : zdN Z r (Z 1 0 0 37) c a1 a2 a3 a4 a5 a6 = _) (show ((0 : Nat) : Int) = 0 from rfl) (show ((0 : Nat) : Int) = 0 from rfl) (show ((37 : Nat) : Int) = 37 from rfl) (i3A g (show (1 : Int32) = i3 1 from rfl)))
  subst e9
  exact ⟨rfl, rfl⟩
/-- what stands where a record became longer -/
def nwr (ν : qz_N) (k b i j : Nat) (v : Option qz_R) : qz_N := (ν.1, qz_u4 ν.2.1 k b i j v, ν.2.2)
theorem zRr_w {ν : qz_N} {r : qz_R} {len k b i j : Nat} {v : Option qz_R} (h : zRr ν r len) : zRr (nwr ν k b i j v) r len := h
theorem nwr_at {ν : qz_N} {k b i j : Nat} {v : Option qz_R} : (nwr ν k b i j v).2.1 k b i j = v := if_pos ⟨rfl, rfl, rfl, rfl⟩
def zn36 (ν : qz_N) (len : Nat) : qz_N := nwr (nal ν 50 1 (2 * len) 1 (2 * len)) 1 0 0 36 (some (200, ν.2.2.2.1, 0))
set_option maxRecDepth 20000 in
theorem sp_563b {Z : qz_Z} {ν : qz_N} {r : qz_R} {len : Nat} {c a1 a2 a3 a4 a5 a6 : Int} (hr : zRr ν r len) (e36 : ν.2.1 1 0 0 36 = some r) (h37 : 0 ≤ Z 1 0 0 37) (h7 : len < 7 * Z 1 0 0 37 + 7) (h8 : 7 * Z 1 0 0 37 ≤ len) (l7 : 7 ≤ len) (hl : len ≤ 60000) : qf_563 [.inr (.inr (some (1, 0, 0))), .inl (i3 c), .inl (i3 a1), .inl (i3 a2), .inl (i3 a3), .inl (i3 a4), .inl (i3 a5), .inl (i3 a6)] (zm Z ν) = some (zm (zdN (zxr Z ν r (7 * Z 1 0 0 37)) (200, ν.2.2.2.1, 0) (Z 1 0 0 37) c a1 a2 a3 a4 a5 a6) (zn36 ν len), .inl none) := by
  have e37 := zm_rd (Z := Z) (ν := ν) (k := 1) (b := 0) (i := 0) (j := 37) (show ((0 : Nat) : Int) = 0 from rfl) (show ((0 : Nat) : Int) = 0 from rfl) (show ((37 : Nat) : Int) = 37 from rfl)
  obtain ⟨t1, t2⟩ := hr.2.2 Z
  have f37 : zxr Z ν r (7 * Z 1 0 0 37) 1 0 0 37 = Z 1 0 0 37 := by
    unfold zxr
    rw [zpq_ne (by decide), zzr_ne (fun q => absurd q.1 (by decide))]
  refine wz_call_eq (fw_563 (i3 c) (i3 a1) (i3 a2) (i3 a3) (i3 a4) (i3 a5) (i3 a6) _ _ ?_)
  refine wz_rko e36 ?_
  refine wz_i1 (by rw [t1]; rfl) ?_
  refine wz_i0 ?_ ?_
  · rw [t2, i3_ofNat]
    exact (i3Le (i3A (i3M (show (7 : Int32) = i3 7 from rfl) e37) (show (7 : Int32) = i3 7 from rfl)) (rfl : i3 (len : Int) = i3 (len : Int)) (by omega) (by omega) (by omega) (by omega)).trans (decide_eq_false (by omega))
  refine wz_rko e36 ?_
  refine wz_rko e36 ?_
  refine wz_i1 (by rw [t1]; rfl) ?_
  have c5 := sp_565 (Z := Z) (many := 7 * Z 1 0 0 37) (size := 2 * (len : Int)) hr (by omega) (by omega) (by omega) (by omega) (by omega)
  rw [show (2 * (len : Int)).toNat = 2 * len by omega] at c5
  have x1 : (7 : Int32) * (zm Z ν).1 1 0 0 37 = i3 (7 * Z 1 0 0 37) := i3M (show (7 : Int32) = i3 7 from rfl) e37
  have x2 : (2 : Int32) * Int32.ofNat (qz_len (zm Z ν) r) = i3 (2 * (len : Int)) := by
    rw [t2, i3_ofNat]
    exact i3M (show (2 : Int32) = i3 2 from rfl) rfl
  refine wz_cR_of (zas (zcons rfl (zcons (zvi x1) (zcons (zvi x2) rfl))) c5) ?_
  intro μ1 e1
  replace e1 : μ1 = zm (zxr Z ν r (7 * Z 1 0 0 37)) (zn36 ν len) := e1
  subst e1
  have hr2 : zRr (zn36 ν len) (200, ν.2.2.2.1, 0) (2 * len) := zRr_w (zRr_n (by omega))
  have e362 : (zn36 ν len).2.1 1 0 0 36 = some (200, ν.2.2.2.1, 0) := nwr_at
  refine zrec_w hr2 e362 (i3M (show (7 : Int32) = i3 7 from rfl) e37) (by omega) (by omega) (rfl : i3 c = i3 c) ?_
  refine zrec_w hr2 e362 (i3A (i3M (show (7 : Int32) = i3 7 from rfl) e37) (show (1 : Int32) = i3 1 from rfl)) (by omega) (by omega) (rfl : i3 a1 = i3 a1) ?_
  refine zrec_w hr2 e362 (i3A (i3M (show (7 : Int32) = i3 7 from rfl) e37) (show (2 : Int32) = i3 2 from rfl)) (by omega) (by omega) (rfl : i3 a2 = i3 a2) ?_
  refine zrec_w hr2 e362 (i3A (i3M (show (7 : Int32) = i3 7 from rfl) e37) (show (3 : Int32) = i3 3 from rfl)) (by omega) (by omega) (rfl : i3 a3 = i3 a3) ?_
  refine zrec_w hr2 e362 (i3A (i3M (show (7 : Int32) = i3 7 from rfl) e37) (show (4 : Int32) = i3 4 from rfl)) (by omega) (by omega) (rfl : i3 a4 = i3 a4) ?_
  refine zrec_w hr2 e362 (i3A (i3M (show (7 : Int32) = i3 7 from rfl) e37) (show (5 : Int32) = i3 5 from rfl)) (by omega) (by omega) (rfl : i3 a5 = i3 a5) ?_
  refine zrec_w hr2 e362 (i3A (i3M (show (7 : Int32) = i3 7 from rfl) e37) (show (6 : Int32) = i3 6 from rfl)) (by omega) (by omega) (rfl : i3 a6 = i3 a6) ?_
  intro μ9 e9
  have g := zm_rd (Z := z7w (zxr Z ν r (7 * Z 1 0 0 37)) (200, ν.2.2.2.1, 0) (Z 1 0 0 37) c a1 a2 a3 a4 a5 a6) (ν := zn36 ν len) (k := 1) (b := 0) (i := 0) (j := 37) (show ((0 : Nat) : Int) = 0 from rfl) (show ((0 : Nat) : Int) = 0 from rfl) (show ((37 : Nat) : Int) = 37 from rfl)
  rw [z7w_ne (show (1 : Nat) ≠ 200 by decide), f37] at g
  replace e9 := e9.trans (zm_wI (k := 1) (b := 0) (i := 0) (j := 37) (ν := zn36 ν len) (rfl : zdN (zxr Z ν r (7 * Z 1 0 0 37)) (200, ν.2.2.2.1, 0) (Z 1 0 0 37) c a1 a2 a3 a4 a5 a6 = _) (show ((0 : Nat) : Int) = 0 from rfl) (show ((0 : Nat) : Int) = 0 from rfl) (show ((37 : Nat) : Int) = 37 from rfl) (i3A g (show (1 : Int32) = i3 1 from rfl)))
  subst e9
  exact ⟨rfl, rfl⟩

/-- the reference's deed, where its record has room, and where it becomes longer -/
theorem zDm_a {s : zSM} {Z : qz_Z} {ν : qz_N} {r : qz_R} {len : Nat} (hs : s.1 = none) (hr : zRr ν r len) (k3 : r.1 ≠ 103) (e36 : ν.2.1 1 0 0 36 = some r) (h37 : 0 ≤ Z 1 0 0 37) (h7 : 7 * Z 1 0 0 37 + 7 ≤ len) : zDm s ν ν Z zkp (fun Z0 c a1 a2 a3 a4 a5 a6 => zdN (zkp Z0) r (Z0 1 0 0 37) c a1 a2 a3 a4 a5 a6) := by
  intro Z0 c a1 a2 a3 a4 a5 a6 hM q37 q34 q35 g0 g1 g2 g3 g4 g5 g6
  have hl := hr.2.1
  have k1 : r.1 = 102 ∨ r.1 = 200 := by
    rcases hr.1 with h | h | ⟨h, _⟩
    · exact .inl h
    · exact absurd h k3
    · exact .inr h
  have p37 : zkp Z0 1 0 0 37 = Z0 1 0 0 37 := zkp_ne ⟨by decide, fun q => absurd q.2 (by decide)⟩
  refine ⟨sp_557n hM, ?_, ?_, ?_⟩
  · have e := sp_563a (Z := zkp Z0) (c := c) (a1 := a1) (a2 := a2) (a3 := a3) (a4 := a4) (a5 := a5) (a6 := a6) hr e36 (by rw [p37, q37]; exact h37) (by rw [p37, q37]; exact h7)
    rw [p37] at e
    exact e
  · refine zM_rec (zM_kp hM) hs (fun k b i j n2 n3 n4 n1 => zdN_ne (fun q => ?_) (fun q => n1 ⟨q.1, .inl q.2⟩)) (zi32_d (zM_kp hM).1.1.2.1 ⟨by omega, by omega⟩ ⟨g0, g1, g2, g3, g4, g5, g6⟩)
    rcases k1 with k1 | k1
    · exact n3 (q.trans k1)
    · exact n2 (q.trans k1)
  · rintro k b i j ⟨n1, n2, n3, n4⟩
    exact (zdN_ne (fun q => by rcases k1 with k1 | k1; exact n2 (q.trans k1); exact n3 (q.trans k1)) (fun q => n4 ⟨q.1, .inr q.2⟩)).trans (zkp_ne ⟨n1, fun q => n4 ⟨q.1, .inl q.2⟩⟩)
theorem zDm_b {s : zSM} {Z : qz_Z} {ν : qz_N} {r : qz_R} {len : Nat} (hs : s.1 = none) (hr : zRr ν r len) (e36 : ν.2.1 1 0 0 36 = some r) (h37 : 0 ≤ Z 1 0 0 37) (h7 : len < 7 * Z 1 0 0 37 + 7) (h8 : 7 * Z 1 0 0 37 ≤ len) (l7 : 7 ≤ len) (hl : len ≤ 60000) : zDm s ν (zn36 ν len) Z zkp (fun Z0 c a1 a2 a3 a4 a5 a6 => zdN (zxr (zkp Z0) ν r (7 * Z0 1 0 0 37)) (200, ν.2.2.2.1, 0) (Z0 1 0 0 37) c a1 a2 a3 a4 a5 a6) := by
  intro Z0 c a1 a2 a3 a4 a5 a6 hM q37 q34 q35 g0 g1 g2 g3 g4 g5 g6
  have p37 : zkp Z0 1 0 0 37 = Z0 1 0 0 37 := zkp_ne ⟨by decide, fun q => absurd q.2 (by decide)⟩
  have x : ∀ (k : Nat) (b i j : Int), k ≠ 200 → zxr (zkp Z0) ν r (7 * Z0 1 0 0 37) k b i j = zkp Z0 k b i j := fun k b i j n => by
    unfold zxr
    rw [zpq_ne n, zzr_ne (fun q => n q.1)]
  refine ⟨sp_557n hM, ?_, ?_, ?_⟩
  · have e := sp_563b (Z := zkp Z0) (c := c) (a1 := a1) (a2 := a2) (a3 := a3) (a4 := a4) (a5 := a5) (a6 := a6) hr e36 (by rw [p37, q37]; exact h37) (by rw [p37, q37]; exact h7) (by rw [p37, q37]; exact h8) l7 hl
    rw [p37] at e
    exact e
  · refine zM_rec (zM_kp hM) hs (fun k b i j n2 n3 n4 n1 => (zdN_ne n2 (fun q => n1 ⟨q.1, .inl q.2⟩)).trans (x k b i j n2)) (zi32_d (zi32_pq (zi32_z (zM_kp hM).1.1.2.1)) ⟨by omega, by omega⟩ ⟨g0, g1, g2, g3, g4, g5, g6⟩)
  · rintro k b i j ⟨n1, n2, n3, n4⟩
    exact (zdN_ne (r := (200, ν.2.2.2.1, 0)) n3 (fun q => n4 ⟨q.1, .inr q.2⟩)).trans ((x k b i j n3).trans (zkp_ne ⟨n1, fun q => n4 ⟨q.1, .inl q.2⟩⟩))
