/-! RANGES, AND WHAT ELSE ALWAYS HOLDS: how many entries and findings at most; what is loaded has a truck. -/
abbrev zSM : Type := zS × Nat
def zb (s : zSM) (c : Nat) : zSM := (s.1, s.2 + c)
def zX (m : Nat) (Z : qz_Z) : Prop := (∀ b, (0 ≤ Z 11 b 0 11 ∧ Z 11 b 0 11 ≤ m) ∧ (0 ≤ Z 11 b 0 12 ∧ Z 11 b 0 12 ≤ m)) ∧ (∀ b q, Z 47 b q 9 = 1 → 0 ≤ Z 47 b q 10) ∧ (∀ b i, 0 ≤ Z 43 b i 7 ∧ Z 43 b i 7 ≤ m)
def zH (s : zSM) (Z : qz_Z) : Prop := zI s.1 Z ∧ zX s.2 Z
theorem zbh {s : zSM} {c k C : Nat} (h : s.2 + C ≤ 1000000000) (hc : c + k ≤ C) : (zb s c).2 + k ≤ 1000000000 := by
  show s.2 + c + k ≤ _
  omega
section ZH
variable {s : zSM} {Z Z1 : qz_Z}
theorem zb0 (h : zH s Z) : zH (zb s 0) Z := h
theorem zbt {a b c : Nat} (h : zH (zb (zb s a) b) Z) (e : a + b = c) : zH (zb s c) Z := by
  subst e
  refine ⟨h.1, ?_⟩
  have h2 : zX (s.2 + a + b) Z := h.2
  show zX (s.2 + (a + b)) Z
  rw [← Nat.add_assoc]
  exact h2
theorem zX_w {m n : Nat} (h : zX m Z) (hm : m ≤ n) : zX n Z := ⟨fun b => by have := h.1 b; omega, h.2.1, fun b i => by have := h.2.2 b i; omega⟩
theorem zbw {a c : Nat} (h : zH (zb s a) Z) (e : a ≤ c) : zH (zb s c) Z := ⟨h.1, zX_w h.2 (show s.2 + a ≤ s.2 + c by omega)⟩
theorem zbx {x d T : Nat} (h : zH (zb (zb s x) d) Z) (e : x + d ≤ T) : zH (zb s T) Z := zbw (zbt h rfl) e
theorem zbx0 {x T : Nat} (h : zH (zb s x) Z) (e : x ≤ T) : zH (zb s T) Z := zbw h e
theorem zH_f (h : zH s Z) (k : Nat) (b i j : Int) : -2147483648 ≤ Z k b i j ∧ Z k b i j ≤ 2147483647 := zI_f h.1 k b i j
theorem zH_k (h : zH s Z) (k : Nat) (b i j : Int) {lo hi : Int} (hk : k ≠ 200) (e : zr k j = (lo, hi)) : lo ≤ Z k b i j ∧ Z k b i j ≤ hi := zI_k h.1 k b i j hk e
theorem zH_c11 (h : zH s Z) (b : Int) (hM : s.2 + 0 ≤ 1000000000) : 0 ≤ Z 11 b 0 11 ∧ Z 11 b 0 11 ≤ 1000000000 := by
  have := (h.2.1 b).1
  omega
theorem zH_c12 (h : zH s Z) (b : Int) (hM : s.2 + 0 ≤ 1000000000) : 0 ≤ Z 11 b 0 12 ∧ Z 11 b 0 12 ≤ 1000000000 := by
  have := (h.2.1 b).2
  omega
theorem zH_d (h : zH s Z) (b i : Int) (hM : s.2 + 0 ≤ 1000000000) : 0 ≤ Z 43 b i 7 ∧ Z 43 b i 7 ≤ 1000000000 := by
  have := h.2.2.2 b i
  omega
/-- cells that more is known of -/
def zxk (k : Nat) (j : Int) : Bool := (Nat.beq k 11 && (j == 11 || j == 12)) || ((Nat.beq k 47 && (j == 9 || j == 10)) || (Nat.beq k 43 && j == 7))
theorem zX_u {m : Nat} {k : Nat} {b i j v : Int} (h : zX m Z) (h1 : Z1 = zu Z k b i j v) (hx : zxk k j = false) : zX m Z1 := by
  have ne : ∀ k' (b' i' j' : Int), zxk k' j' = true → Z1 k' b' i' j' = Z k' b' i' j' := fun k' b' i' j' hk => zu_ne h1 (fun q => by
    rw [q.1, q.2.2.2, hx] at hk
    cases hk)
  refine ⟨fun b => ?_, fun b q => ?_, fun b q => ?_⟩
  · rw [ne 11 b 0 11 rfl, ne 11 b 0 12 rfl]; exact h.1 b
  · rw [ne 47 b q 9 rfl, ne 47 b q 10 rfl]; exact h.2.1 b q
  · rw [ne 43 b q 7 rfl]; exact h.2.2 b q
theorem zH_u {k : Nat} {b i j v : Int} (h : zH s Z) (h1 : Z1 = zu Z k b i j v) {lo hi : Int} (hk : k ≠ 200) (e : zr k j = (lo, hi)) (hv : lo ≤ v ∧ v ≤ hi) (hw : -2147483648 ≤ lo ∧ hi ≤ 2147483647) (hq : k ≠ 1 ∨ j ≠ 35) (hx : zxk k j = false) : zH s Z1 := ⟨zI_u h.1 h1 hk e hv hw hq, zX_u h.2 h1 hx⟩
theorem zH_cc {k : Nat} {b i j b' i' : Int} (h : zH s Z) (h1 : Z1 = zu Z k b i j (Z k b' i' j)) (hk : k ≠ 200) (hq : k ≠ 1) (hx : zxk k j = false) : zH s Z1 := ⟨zI_cc h.1 h1 hk hq, zX_u h.2 h1 hx⟩
theorem zH_0 {k : Nat} {b i j : Int} (h : zH s Z) (h1 : Z1 = zu Z k b i j 0) (hk : k ≠ 200) (hq : k ≠ 1 ∨ j ≠ 35) : zH s Z1 := by
  refine ⟨zI_0 h.1 h1 hk hq, ?_⟩
  subst h1
  have c : ∀ k' (b' i' j' : Int), zu Z k b i j 0 k' b' i' j' = 0 ∨ zu Z k b i j 0 k' b' i' j' = Z k' b' i' j' := fun k' b' i' j' => by
    by_cases q : k' = k ∧ b' = b ∧ i' = i ∧ j' = j
    · exact .inl (if_pos q)
    · exact .inr (if_neg q)
  refine ⟨fun b2 => ?_, fun b2 q => ?_, fun b2 q => ?_⟩
  · have h2 := h.2.1 b2
    have c1 := c 11 b2 0 11
    have c2 := c 11 b2 0 12
    omega
  · intro e
    have h2 := h.2.2.1 b2 q
    have c1 := c 47 b2 q 9
    have c2 := c 47 b2 q 10
    omega
  · have h2 := h.2.2.2 b2 q
    have c1 := c 43 b2 q 7
    omega
theorem zH_i {b j v : Int} (h : zH s Z) (h1 : Z1 = zu Z 11 b 0 j v) (hj : j = 11 ∨ j = 12) (hM : s.2 + 1 ≤ 1000000000) (hv : v = Z 11 b 0 j + 1) : zH (zb s 1) Z1 := by
  have h2 := h.2.1 b
  have hr : zr 11 j = (-2147483648, 2147483647) := by rcases hj with rfl | rfl <;> rfl
  have rg : 0 ≤ v ∧ v ≤ s.2 + 1 := by rcases hj with rfl | rfl <;> omega
  refine ⟨zI_u (s := s.1) h.1 h1 (by decide) hr (by omega) ⟨by decide, by decide⟩ (.inl (by decide)), fun b2 => ?_, fun b2 q => ?_, fun b2 q => ?_⟩
  · have h3 := h.2.1 b2
    have c : ∀ j2, Z1 11 b2 0 j2 = v ∨ Z1 11 b2 0 j2 = Z 11 b2 0 j2 := fun j2 => by
      subst h1
      by_cases q : 11 = 11 ∧ b2 = b ∧ (0 : Int) = 0 ∧ j2 = j
      · exact .inl (if_pos q)
      · exact .inr (if_neg q)
    have c1 := c 11
    have c2 := c 12
    show (0 ≤ Z1 11 b2 0 11 ∧ Z1 11 b2 0 11 ≤ ((s.2 + 1 : Nat) : Int)) ∧ (0 ≤ Z1 11 b2 0 12 ∧ Z1 11 b2 0 12 ≤ ((s.2 + 1 : Nat) : Int))
    omega
  · rw [zu_ne h1 (by omega), zu_ne h1 (by omega)]
    exact h.2.2.1 b2 q
  · rw [zu_ne h1 (by omega)]
    have h3 := h.2.2.2 b2 q
    show 0 ≤ Z 43 b2 q 7 ∧ Z 43 b2 q 7 ≤ ((s.2 + 1 : Nat) : Int)
    omega
/-- one more who came through the doors -/
theorem zH_id {b i v : Int} (h : zH s Z) (h1 : Z1 = zu Z 43 b i 7 v) (hM : s.2 + 1 ≤ 1000000000) (hv : v = Z 43 b i 7 + 1) : zH (zb s 1) Z1 := by
  have h2 := h.2.2.2 b i
  have rg : 0 ≤ v ∧ v ≤ s.2 + 1 := by omega
  refine ⟨zI_u (s := s.1) h.1 h1 (by decide) (show zr 43 7 = (-2147483648, 2147483647) from rfl) (by omega) ⟨by decide, by decide⟩ (.inl (by decide)), fun b2 => ?_, fun b2 q => ?_, fun b2 q => ?_⟩
  · rw [zu_ne h1 (by omega), zu_ne h1 (by omega)]
    have h3 := h.2.1 b2
    show (0 ≤ Z 11 b2 0 11 ∧ Z 11 b2 0 11 ≤ ((s.2 + 1 : Nat) : Int)) ∧ (0 ≤ Z 11 b2 0 12 ∧ Z 11 b2 0 12 ≤ ((s.2 + 1 : Nat) : Int))
    omega
  · rw [zu_ne h1 (by omega), zu_ne h1 (by omega)]
    exact h.2.2.1 b2 q
  · have h3 := h.2.2.2 b2 q
    have c : Z1 43 b2 q 7 = v ∨ Z1 43 b2 q 7 = Z 43 b2 q 7 := by
      subst h1
      by_cases q2 : 43 = 43 ∧ b2 = b ∧ q = i ∧ (7 : Int) = 7
      · exact .inl (if_pos q2)
      · exact .inr (if_neg q2)
    show 0 ≤ Z1 43 b2 q 7 ∧ Z1 43 b2 q 7 ≤ ((s.2 + 1 : Nat) : Int)
    omega
theorem zH_i11 {b v : Int} (h : zH s Z) (h1 : Z1 = zu Z 11 b 0 11 v) (hM : s.2 + 1 ≤ 1000000000) (hv : v = Z 11 b 0 11 + 1) : zH (zb s 1) Z1 := zH_i h h1 (.inl rfl) hM hv
theorem zH_i12 {b v : Int} (h : zH s Z) (h1 : Z1 = zu Z 11 b 0 12 v) (hM : s.2 + 1 ≤ 1000000000) (hv : v = Z 11 b 0 12 + 1) : zH (zb s 1) Z1 := zH_i h h1 (.inr rfl) hM hv
theorem zX_47 {m : Nat} {b q j v : Int} (h : zX m Z) (h1 : Z1 = zu Z 47 b q j v) (hc : Z1 47 b q 9 = 1 → 0 ≤ Z1 47 b q 10) : zX m Z1 := by
  refine ⟨fun b2 => ?_, fun b2 q2 => ?_, fun b2 q2 => ?_⟩
  · rw [zu_ne h1 (by omega), zu_ne h1 (by omega)]; exact h.1 b2
  · by_cases e : b2 = b ∧ q2 = q
    · rw [e.1, e.2]; exact hc
    · rw [zu_ne h1 (fun x => e ⟨x.2.1, x.2.2.1⟩), zu_ne h1 (fun x => e ⟨x.2.1, x.2.2.1⟩)]
      exact h.2.1 b2 q2
  · rw [zu_ne h1 (by omega)]; exact h.2.2 b2 q2
/-- a parcel's state, a parcel's truck -/
theorem zH_st {b q v : Int} (h : zH s Z) (h1 : Z1 = zu Z 47 b q 9 v) (hv : 0 ≤ v ∧ v ≤ 3) (hx : v ≠ 1 ∨ 0 ≤ Z 47 b q 10) : zH s Z1 := by
  refine ⟨zI_u h.1 h1 (lo := 0) (hi := 3) (by decide) rfl hv ⟨by decide, by decide⟩ (.inl (by decide)), zX_47 h.2 h1 ?_⟩
  rw [zu_at h1, zu_ne h1 (by omega)]
  omega
theorem zH_tr {b q v : Int} (h : zH s Z) (h1 : Z1 = zu Z 47 b q 10 v) (hv : -1 ≤ v ∧ v ≤ 3) (hx : 0 ≤ v ∨ Z 47 b q 9 ≠ 1) : zH s Z1 := by
  refine ⟨zI_u h.1 h1 (lo := -1) (hi := 3) (by decide) rfl hv ⟨by decide, by decide⟩ (.inl (by decide)), zX_47 h.2 h1 ?_⟩
  rw [zu_at h1, zu_ne h1 (by omega)]
  omega
theorem zH_ld {Z2 : qz_Z} {b q v : Int} (h : zH s Z) (h1 : Z1 = zu Z 47 b q 9 1) (h2 : Z2 = zu Z1 47 b q 10 v) (hv : -1 ≤ v ∧ v ≤ 3) (hx : 0 ≤ v) : zH s Z2 := by
  have i1 := zI_u h.1 h1 (lo := 0) (hi := 3) (by decide) rfl (by omega) ⟨by decide, by decide⟩ (.inl (by decide))
  refine ⟨zI_u i1 h2 (lo := -1) (hi := 3) (by decide) rfl hv ⟨by decide, by decide⟩ (.inl (by decide)), ?_, fun b2 q2 => ?_, fun b2 q2 => ?_⟩
  · intro b2
    rw [zu_ne h2 (by omega), zu_ne h2 (by omega), zu_ne h1 (by omega), zu_ne h1 (by omega)]; exact h.2.1 b2
  · by_cases e : b2 = b ∧ q2 = q
    · rw [e.1, e.2, zu_at h2]; intro _; exact hx
    · rw [zu_ne h2 (fun x => e ⟨x.2.1, x.2.2.1⟩), zu_ne h2 (fun x => e ⟨x.2.1, x.2.2.1⟩), zu_ne h1 (fun x => e ⟨x.2.1, x.2.2.1⟩), zu_ne h1 (fun x => e ⟨x.2.1, x.2.2.1⟩)]
      exact h.2.2.1 b2 q2
  · rw [zu_ne h2 (by omega), zu_ne h1 (by omega)]; exact h.2.2.2 b2 q2
/-- what is loaded has a truck -/
theorem zH_lt (h : zH s Z) (b q : Int) : Z 47 b q 9 = 1 → 0 ≤ Z 47 b q 10 := h.2.2.1 b q
theorem zX_cp {m : Nat} (h : zX m Z) (b0 b1 : Int) : zX m (zcp Z b0 b1) := by
  have c : ∀ k (b i j : Int), zcp Z b0 b1 k b i j = Z k b0 i j ∨ zcp Z b0 b1 k b i j = Z k b i j := fun k b i j => by
    unfold zcp
    split
    · exact .inl rfl
    · exact .inr rfl
  refine ⟨fun b => ?_, fun b q => ?_, fun b q => ?_⟩
  · have h0 := h.1 b0
    have h1 := h.1 b
    have c1 := c 11 b 0 11
    have c2 := c 11 b 0 12
    omega
  · by_cases e : b = b1 ∧ zhk 47 q 9 = true
    · have e2 : zhk 47 q 10 = true := e.2
      rw [show zcp Z b0 b1 47 b q 9 = Z 47 b0 q 9 from if_pos e, show zcp Z b0 b1 47 b q 10 = Z 47 b0 q 10 from if_pos ⟨e.1, e2⟩]
      exact h.2.1 b0 q
    · rw [show zcp Z b0 b1 47 b q 9 = Z 47 b q 9 from if_neg e, show zcp Z b0 b1 47 b q 10 = Z 47 b q 10 from if_neg (fun q2 => e q2)]
      exact h.2.1 b q
  · have h0 := h.2.2 b0 q
    have h1 := h.2.2 b q
    have c1 := c 43 b q 7
    omega
theorem zH_cpe {ν : qz_N} (h : zH s Z) {n0 n1 : Nat} {b0 b1 : Int} (e0 : (n0 : Int) = b0) (e1 : (n1 : Int) = b1) (hb : b0 < b1 ∨ b1 < b0) : ∃ Z1 : qz_Z, Z1 = zcp Z b0 b1 ∧ (qf_111 [.inr (.inr (some (10, n1, 0))), .inr (.inr (some (10, n0, 0)))] (zm Z ν) = some (zm Z1 ν, .inl none) ∧ zH s Z1 ∧ zK [11, 12, 13, 14, 40, 41, 42, 43, 44, 45, 46, 47, 48, 49, 50, 51, 52, 53, 54] Z Z1 ∧ ∀ k (b i j : Int), b ≠ b1 → Z1 k b i j = Z k b i j) := by
  obtain ⟨Z1, e, c, hI, hK, g⟩ := sp_cpe (ν := ν) h.1 e0 e1 hb
  refine ⟨Z1, e, c, ⟨hI, ?_⟩, hK, fun k b i j hb => ?_⟩
  · rw [e]; exact zX_cp h.2 b0 b1
  · rw [e]; exact zcp_ne hb
theorem zX_1 {m : Nat} {a1 a2 a3 a4 a5 a6 a7 : Int} (h : zX m Z) : zX m (zd1 Z a1 a2 a3 a4 a5 a6 a7) := by
  refine ⟨fun b => ?_, fun b q => ?_, fun b q => ?_⟩
  · rw [zd1_ne (by decide), zd1_ne (by decide)]; exact h.1 b
  · rw [zd1_ne (by decide), zd1_ne (by decide)]; exact h.2.1 b q
  · rw [zd1_ne (by decide)]; exact h.2.2 b q
theorem zX_2 {m : Nat} (h : zX m Z) : zX m (zd2 Z) := by
  have h1 : zX m (zu Z 3 0 0 7 ((Z 3 0 0 7 + 1) % 8)) := zX_u h rfl rfl
  have h2 := zX_cp h1 0 (2 + (Z 3 0 0 7 + 1) % 8)
  exact zX_u (zX_u h2 rfl (k := 3) rfl) rfl (k := 11) rfl
theorem zX_3 {m : Nat} (h : zX m Z) : zX m (zd3 Z) := by
  have h1 : zX m (zrw Z (Z 3 0 0 6) (va_cpy (fun j => i3 (Z 68 0 0 j)) (fun j => i3 (Z 61 0 (Z 3 0 0 6) j)) 0 0 7)) := by
    have ne : ∀ k (b i j : Int), k ≠ 61 → zrw Z (Z 3 0 0 6) (va_cpy (fun j => i3 (Z 68 0 0 j)) (fun j => i3 (Z 61 0 (Z 3 0 0 6) j)) 0 0 7) k b i j = Z k b i j := fun k b i j hk => if_neg (fun q => hk q.1)
    refine ⟨fun b => ?_, fun b q => ?_, fun b q => ?_⟩
    · rw [ne _ _ _ _ (by decide), ne _ _ _ _ (by decide)]; exact h.1 b
    · rw [ne _ _ _ _ (by decide), ne _ _ _ _ (by decide)]; exact h.2.1 b q
    · rw [ne _ _ _ _ (by decide)]; exact h.2.2 b q
  exact zX_u (zX_u (zX_u h1 rfl (k := 61) rfl) rfl (k := 11) rfl) rfl (k := 3) rfl
end ZH
theorem zH_dd {M : Nat} {Z : qz_Z} (h : zH ((none, M) : zSM) Z) {a1 a2 a3 a4 a5 a6 a7 : Int} (g1 : -2147483648 ≤ a1 ∧ a1 ≤ 2147483647) (g2 : -2147483648 ≤ a2 ∧ a2 ≤ 2147483647) (g3 : -2147483648 ≤ a3 ∧ a3 ≤ 2147483647) (g4 : -2147483648 ≤ a4 ∧ a4 ≤ 2147483647) (g5 : -2147483648 ≤ a5 ∧ a5 ≤ 2147483647) (g6 : -2147483648 ≤ a6 ∧ a6 ≤ 2147483647) (g7 : -2147483648 ≤ a7 ∧ a7 ≤ 2147483647) : zH ((none, M) : zSM) (zdd Z a1 a2 a3 a4 a5 a6 a7) := by
  refine ⟨zdd_I h.1 g1 g2 g3 g4 g5 g6 g7, ?_⟩
  have h2 : zX M (zd2 (zd1 Z a1 a2 a3 a4 a5 a6 a7)) := zX_2 (zX_1 h.2)
  show zX M _
  unfold zdd
  split
  · exact zX_3 h2
  · exact h2
/-! what is written, by classes: kinds, and the columns of kind 11 one by one -/
def zcl (k : Nat) (j : Int) : Nat := bif Nat.beq k 11 then (if 0 ≤ j ∧ j ≤ 16 then 1100 + j.toNat else 1099) else bif Nat.beq k 2 then (if j = 0 then 1200 else 2) else k
theorem zcl_k {k : Nat} (j : Int) (h : Nat.beq k 11 = false) (h2 : Nat.beq k 2 = false) : zcl k j = k := by
  unfold zcl
  rw [h, h2]
  rfl
theorem zcl_2w {ws : List Nat} {j : Int} (h : j ≠ 0) (hw : ws.contains 2 = true) : ws.contains (zcl 2 j) = true := by
  rw [show zcl 2 j = 2 from if_neg h]
  exact hw
theorem zcl_2r {ws : List Nat} {j : Int} (h : j ≠ 0) (hw : ws.contains 2 = false) : ws.contains (zcl 2 j) = false := by
  rw [show zcl 2 j = 2 from if_neg h]
  exact hw
def zC (ws : List Nat) (Z0 Z : qz_Z) : Prop := ∀ k (b i j : Int), ws.contains (zcl k j) = false → Z k b i j = Z0 k b i j
theorem zC_r {ws : List Nat} {Z : qz_Z} : zC ws Z Z := fun _ _ _ _ _ => rfl
theorem zC_u {ws : List Nat} {Z0 Z Z1 : qz_Z} {k : Nat} {b i j v : Int} (h : zC ws Z0 Z) (hz : Z1 = zu Z k b i j v) (hk : ws.contains (zcl k j) = true) : zC ws Z0 Z1 := fun k' b' i' j' hk' => by
  rw [← h k' b' i' j' hk']
  exact zu_ne hz (fun q => by rw [q.1, q.2.2.2, hk] at hk'; cases hk')
theorem zC_t {ws vs : List Nat} {Z0 Z Z1 : qz_Z} (h : zC ws Z0 Z) (g : zC vs Z Z1) (hs : vs.all (fun k => ws.contains k) = true) : zC ws Z0 Z1 := fun k b i j hk => by
  rw [← h k b i j hk]
  refine g k b i j ?_
  cases hq : vs.contains (zcl k j)
  · rfl
  · have := List.all_eq_true.mp hs _ (List.contains_iff_mem.mp hq)
    rw [hk] at this
    cases this
theorem zC_k {ws vs : List Nat} {Z0 Z : qz_Z} (h : zK vs Z0 Z) (hv : vs.all (fun k => Nat.beq k 11 || ws.contains k) = true) (h11 : [1099, 1100, 1101, 1102, 1103, 1104, 1105, 1106, 1107, 1108, 1109, 1110, 1111, 1112, 1113, 1114, 1115, 1116].all (fun k => ws.contains k) = true) (hv2 : vs.contains 2 = false := by decide) : zC ws Z0 Z := fun k b i j hk => by
  refine h k ?_ b i j
  cases hq : vs.contains k
  · rfl
  · exfalso
    have h2 := List.all_eq_true.mp hv _ (List.contains_iff_mem.mp hq)
    cases h3 : Nat.beq k 11
    · have n2 : Nat.beq k 2 = false := by
        cases h4 : Nat.beq k 2
        · rfl
        · rw [Nat.eq_of_beq_eq_true h4, hv2] at hq; cases hq
      have e : zcl k j = k := zcl_k j h3 n2
      rw [e] at hk
      rw [h3, hk] at h2
      cases h2
    · have e : zcl k j = (if 0 ≤ j ∧ j ≤ 16 then 1100 + j.toNat else 1099) := by unfold zcl; rw [h3]; rfl
      have m : zcl k j ∈ [1099, 1100, 1101, 1102, 1103, 1104, 1105, 1106, 1107, 1108, 1109, 1110, 1111, 1112, 1113, 1114, 1115, 1116] := by
        rw [e]
        split
        · rename_i hj
          have : j.toNat ≤ 16 := by omega
          simp only [List.mem_cons, List.not_mem_nil, or_false]
          omega
        · simp
      have h4 := List.all_eq_true.mp h11 _ m
      rw [hk] at h4
      cases h4
theorem zcp_at {Z Z1 : qz_Z} {b0 b1 : Int} (h : Z1 = zcp Z b0 b1) {k : Nat} {i j : Int} (hk : zhk k i j = true) : Z1 k b1 i j = Z k b0 i j := by subst h; exact if_pos ⟨rfl, hk⟩
/-- bits that both have -/
theorem z2_and (x : Int) {y : Int} (h : 0 ≤ y) (h2 : y ≤ 2147483647) : 0 ≤ z2 (fun x y => x &&& y) x y ∧ z2 (fun x y => x &&& y) x y ≤ y := by
  have hy : (i3 y).toInt = y := i3_toInt ⟨by omega, by omega⟩
  have key : ∀ a c : Int32, 0 ≤ c.toInt → 0 ≤ (a &&& c).toInt ∧ (a &&& c).toInt ≤ c.toInt := by
    intro a c hc
    have e1 : (a &&& c).toBitVec = a.toBitVec &&& c.toBitVec := rfl
    have c1 : c.toInt = c.toBitVec.toInt := rfl
    have c2 : (a &&& c).toInt = (a &&& c).toBitVec.toInt := rfl
    rw [c1] at hc
    rw [c2, c1, e1]
    have l2 : (a.toBitVec &&& c.toBitVec).toNat ≤ c.toBitVec.toNat := by rw [BitVec.toNat_and]; exact Nat.and_le_right
    have hlt : 2 * c.toBitVec.toNat < 2 ^ 32 := by
      rw [BitVec.toInt_eq_toNat_cond] at hc
      split at hc
      · assumption
      · have := c.toBitVec.isLt
        omega
    rw [BitVec.toInt_eq_toNat_cond, BitVec.toInt_eq_toNat_cond, if_pos hlt, if_pos (by omega)]
    omega
  have := key (i3 x) (i3 y) (by omega)
  rw [hy] at this
  exact this
theorem sp_133z {s : zSM} {Z : qz_Z} {ν : qz_N} (hZ : zH s Z) {a0 : Int} (ga0 : -2147483648 ≤ a0 ∧ a0 ≤ 2147483647) (_ : s.2 + 0 ≤ 1000000000) : ∃ P : Int, P = zf_133 Z a0 ∧ (qf_133 [.inl (i3 a0)] (zm Z ν) = some (zm Z ν, .inl (some (.inl (i3 P)))) ∧ 0 ≤ P ∧ P ≤ 10) := sp_133 hZ.1 ga0
theorem z2_andl (y : Int) {x : Int} (h : 0 ≤ x) (h2 : x ≤ 2147483647) : 0 ≤ z2 (fun x y => x &&& y) x y ∧ z2 (fun x y => x &&& y) x y ≤ x := by
  have e : z2 (fun x y => x &&& y) x y = z2 (fun x y => x &&& y) y x := by
    show (i3 x &&& i3 y).toInt = (i3 y &&& i3 x).toInt
    rw [show i3 x &&& i3 y = i3 y &&& i3 x from Int32.toBitVec_inj.mp (BitVec.and_comm _ _)]
  rw [e]
  exact z2_and y h h2
theorem z2_or1 {x y : Int} (h : 0 ≤ x ∧ x ≤ 1) (h2 : 0 ≤ y ∧ y ≤ 1) : 0 ≤ z2 (fun x y => x ||| y) x y ∧ z2 (fun x y => x ||| y) x y ≤ 1 := by
  have a : x = 0 ∨ x = 1 := by omega
  have b : y = 0 ∨ y = 1 := by omega
  rcases a with rfl | rfl <;> rcases b with rfl | rfl <;> decide +kernel
theorem wz_skn {G : wz_W} {k : wz_K} {R : wz_R} {n : Nat} {x : qz_X} (h : k (n + 1) x) : wz_sk G k R (n + 1) x := h
theorem z2_shl10 {n : Int} (h : 0 ≤ n) (h2 : n ≤ 10) : 1 ≤ z2 (fun x y => x <<< (y &&& 31)) 1 n ∧ z2 (fun x y => x <<< (y &&& 31)) 1 n ≤ 1024 := by
  have key : ∀ m : Nat, m ≤ 10 → 1 ≤ z2 (fun x y => x <<< (y &&& 31)) 1 (m : Int) ∧ z2 (fun x y => x <<< (y &&& 31)) 1 (m : Int) ≤ 1024 := by decide +kernel
  have := key n.toNat (by omega)
  rw [show ((n.toNat : Nat) : Int) = n by omega] at this
  exact this
theorem z2_shl5 {n : Int} (h : 0 ≤ n) (h2 : n ≤ 5) : 1 ≤ z2 (fun x y => x <<< (y &&& 31)) 1 n ∧ z2 (fun x y => x <<< (y &&& 31)) 1 n ≤ 32 := by
  have key : ∀ m : Nat, m ≤ 5 → 1 ≤ z2 (fun x y => x <<< (y &&& 31)) 1 (m : Int) ∧ z2 (fun x y => x <<< (y &&& 31)) 1 (m : Int) ≤ 32 := by decide +kernel
  have := key n.toNat (by omega)
  rw [show ((n.toNat : Nat) : Int) = n by omega] at this
  exact this
theorem z2_shl4 {n : Int} (h : 0 ≤ n) (h2 : n ≤ 4) : 1 ≤ z2 (fun x y => x <<< (y &&& 31)) 1 n ∧ z2 (fun x y => x <<< (y &&& 31)) 1 n ≤ 16 := by
  have key : ∀ m : Nat, m ≤ 4 → 1 ≤ z2 (fun x y => x <<< (y &&& 31)) 1 (m : Int) ∧ z2 (fun x y => x <<< (y &&& 31)) 1 (m : Int) ≤ 16 := by decide +kernel
  have := key n.toNat (by omega)
  rw [show ((n.toNat : Nat) : Int) = n by omega] at this
  exact this
theorem z2_or5 {x y : Int} (h : 0 ≤ x ∧ x ≤ 31) (h2 : 0 ≤ y ∧ y ≤ 31) : 0 ≤ z2 (fun x y => x ||| y) x y ∧ z2 (fun x y => x ||| y) x y ≤ 31 := by
  have key : ∀ a : Nat, a ≤ 31 → ∀ b : Nat, b ≤ 31 → 0 ≤ z2 (fun x y => x ||| y) (a : Int) (b : Int) ∧ z2 (fun x y => x ||| y) (a : Int) (b : Int) ≤ 31 := by decide +kernel
  have := key x.toNat (by omega) y.toNat (by omega)
  rw [show ((x.toNat : Nat) : Int) = x by omega, show ((y.toNat : Nat) : Int) = y by omega] at this
  exact this
/-! figures of a number -/
def zlg : Nat → Int → Nat
  | 0, _ => 0
  | n + 1, x => if x ≤ 0 then 0 else zlg n (x / 10) + 1
theorem zlg_e : ∀ (n : Nat) (x : Int), x < 10 ^ n → zlg (n + 1) x = zlg n x
  | 0, x, h => by
    have h2 : x < 1 := h
    show (if x ≤ 0 then 0 else _) = 0
    rw [if_pos (by omega)]
  | n + 1, x, h => by
    show (if x ≤ 0 then 0 else zlg (n + 1) (x / 10) + 1) = (if x ≤ 0 then 0 else zlg n (x / 10) + 1)
    split
    · rfl
    · rw [zlg_e n (x / 10) (by
        have h2 : x < 10 ^ n * 10 := h
        omega)]
theorem zlg_le : ∀ (n : Nat) (x : Int), zlg n x ≤ n
  | 0, _ => Nat.le_refl _
  | n + 1, x => by
    show (if x ≤ 0 then 0 else zlg n (x / 10) + 1) ≤ n + 1
    have := zlg_le n (x / 10)
    split <;> omega
def zlog (x : Int) : Nat := zlg 10 x
theorem zlog_le (x : Int) : zlog x ≤ 10 := zlg_le 10 x
theorem zlog_s (x : Int) (h : x ≤ 2147483647) : x ≤ 0 ∨ zlog x = zlog (x / 10) + 1 := by
  by_cases c : x ≤ 0
  · exact .inl c
  · refine .inr ?_
    have e : zlg 10 (x / 10) = zlg 9 (x / 10) := zlg_e 9 (x / 10) (by have : (10 : Int) ^ 9 = 1000000000 := by decide
                                                                      omega)
    show (if x ≤ 0 then 0 else zlg 9 (x / 10) + 1) = zlg 10 (x / 10) + 1
    rw [if_neg c, e]
