/-! ARRAYS MADE ON THE WAY: what is written, shapes, what stands in them. Needs 79e.w2's zzr, nal, zal, zG. -/
/-- classes `ws` are written, of the arrays those of `as` and all from the n-th on -/
def zL (ws as : List Nat) (n : Nat) (Z0 Z : qz_Z) : Prop := ∀ k (b i j : Int), ws.contains (zcl k j) = false → ¬ (k = 200 ∧ ((∃ a ∈ as, (a : Int) = b) ∨ (n : Int) ≤ b)) → Z k b i j = Z0 k b i j
theorem zL_r {ws as : List Nat} {n : Nat} {Z : qz_Z} : zL ws as n Z Z := fun _ _ _ _ _ _ => rfl
theorem zL_u {ws as : List Nat} {n : Nat} {Z0 Z Z1 : qz_Z} {k : Nat} {b i j v : Int} (h : zL ws as n Z0 Z) (hz : Z1 = zu Z k b i j v) (hk : ws.contains (zcl k j) = true) : zL ws as n Z0 Z1 := fun k' b' i' j' hk' hn => by
  rw [← h k' b' i' j' hk' hn]
  exact zu_ne hz (fun q => by rw [q.1, q.2.2.2, hk] at hk'; cases hk')
theorem zL_a {ws as : List Nat} {n a : Nat} {Z0 Z Z1 : qz_Z} {i j v : Int} (h : zL ws as n Z0 Z) (hz : Z1 = zu Z 200 a i j v) (ha : a ∈ as ∨ n ≤ a) : zL ws as n Z0 Z1 := fun k' b' i' j' hk' hn => by
  rw [← h k' b' i' j' hk' hn]
  refine zu_ne hz (fun q => hn ⟨q.1, ?_⟩)
  rcases ha with ha | ha
  · exact .inl ⟨a, ha, q.2.1.symm⟩
  · exact .inr (by omega)
theorem zL_z {ws as : List Nat} {n m : Nat} {Z0 Z : qz_Z} (h : zL ws as n Z0 Z) (hm : n ≤ m) : zL ws as n Z0 (zzr Z m) := fun k b i j hk hn => (zzr_ne (fun q => hn ⟨q.1, .inr (by omega)⟩)).trans (h k b i j hk hn)
theorem zL_c {ws as vs : List Nat} {n : Nat} {Z0 Z Z1 : qz_Z} (h : zL ws as n Z0 Z) (g : zC vs Z Z1) (hs : vs.all (fun k => ws.contains k) = true) : zL ws as n Z0 Z1 := fun k b i j hk hn => by
  rw [← h k b i j hk hn]
  exact zC_t zC_r g hs k b i j hk
theorem zL_t {ws as vs bs : List Nat} {n m : Nat} {Z0 Z Z1 : qz_Z} (h : zL ws as n Z0 Z) (g : zL vs bs m Z Z1) (hs : vs.all (fun k => ws.contains k) = true) (hb : ∀ b ∈ bs, b ∈ as ∨ n ≤ b) (hm : n ≤ m) : zL ws as n Z0 Z1 := fun k b i j hk hn => by
  rw [← h k b i j hk hn]
  refine g k b i j ?_ (fun q => hn ⟨q.1, ?_⟩)
  · cases hq : vs.contains (zcl k j)
    · rfl
    · have := List.all_eq_true.mp hs _ (List.contains_iff_mem.mp hq)
      rw [hk] at this
      cases this
  · rcases q.2 with ⟨a, ha, e⟩ | q
    · rcases hb a ha with h2 | h2
      · exact .inl ⟨a, h2, e⟩
      · exact .inr (by omega)
    · exact .inr (by omega)
/-- nothing is written there: a cell of a class that isn't written -/
theorem zL_e {ws as : List Nat} {n : Nat} {Z0 Z : qz_Z} (h : zL ws as n Z0 Z) (k : Nat) (b i j : Int) (hk : ws.contains (zcl k j) = false) (h2 : k ≠ 200) : Z k b i j = Z0 k b i j := h k b i j hk (fun q => h2 q.1)
/-- the shape of an array -/
def zSh (ν : qz_N) (x t l : Nat) : Prop := x < ν.2.2.2.1 ∧ ν.2.2.1 x = (t, 1, l)
theorem zSh_al {ν ν1 : qz_N} {x t l t2 c2 l2 k s : Nat} (h : zSh ν x t l) (e : ν1 = nal ν t2 c2 l2 k s) : zSh ν1 x t l := by
  subst e
  exact ⟨Nat.lt_succ_of_lt h.1, (nal_ne (by have := h.1; omega)).trans h.2⟩
theorem zSh_new {ν ν1 : qz_N} {n t l k s : Nat} (hn : ν.2.2.2.1 = n) (e : ν1 = nal ν t 1 l k s) : zSh ν1 n t l := by
  subst e hn
  exact ⟨Nat.lt_succ_self _, nal_at⟩
theorem zSh_G {z s : Nat} {ν ν1 : qz_N} {x t l : Nat} (h : zSh ν x t l) (g : zG z s ν ν1) : zSh ν1 x t l := ⟨Nat.lt_of_lt_of_le h.1 g.2.2.2.1, (g.2.2.1 x h.1).trans h.2⟩
theorem zSh_t {Z : qz_Z} {ν : qz_N} {x t l : Nat} (h : zSh ν x t l) : qz_tag (zm Z ν) (200, x, 0) = t := zt_tag h.2 (by decide)
theorem zSh_l {Z : qz_Z} {ν : qz_N} {x t l : Nat} (h : zSh ν x t l) : qz_len (zm Z ν) (200, x, 0) = l := zt_len h.2
theorem nal_na {ν ν1 : qz_N} {n t c l k s : Nat} (hn : ν.2.2.2.1 = n) (e : ν1 = nal ν t c l k s) : ν1.2.2.2.1 = n + 1 := by
  subst e hn
  rfl
theorem zG_al' {z s : Nat} {ν0 ν ν1 : qz_N} {t c l k m : Nat} (h : zG z s ν0 ν) (e : ν1 = nal ν t c l k m) : zG (z + k) (s + m) ν0 ν1 := by
  subst e
  exact zG_al h
theorem zal_e {Z Z1 : qz_Z} {ν ν1 : qz_N} {μ : qz_M} {n t c l k s : Nat} (e : μ = qz_al (zm Z ν) t c l k s) (hn : ν.2.2.2.1 = n) (hz : Z1 = zzr Z n) (hv : ν1 = nal ν t c l k s) : μ = zm Z1 ν1 := by
  subst hn hz hv
  exact e.trans zal
/-- what stands in an array -/
def zA (lo hi : Int) (x : Nat) (Z : qz_Z) : Prop := ∀ j, lo ≤ Z 200 x 0 j ∧ Z 200 x 0 j ≤ hi
theorem zA_new {Z Z1 : qz_Z} {n : Nat} {lo hi : Int} (hz : Z1 = zzr Z n) (h : lo ≤ 0 ∧ 0 ≤ hi) : zA lo hi n Z1 := fun j => by
  subst hz
  rw [zzr_at]
  exact h
theorem zA_z {Z Z1 : qz_Z} {n x : Nat} {lo hi : Int} (h : zA lo hi x Z) (hz : Z1 = zzr Z n) (hx : x ≠ n) : zA lo hi x Z1 := fun j => by
  subst hz
  rw [zzr_ne (fun q => hx (by have := q.2; omega))]
  exact h j
theorem zA_w {Z Z1 : qz_Z} {x : Nat} {lo hi i j v : Int} (h : zA lo hi x Z) (hz : Z1 = zu Z 200 x i j v) (hv : lo ≤ v ∧ v ≤ hi) : zA lo hi x Z1 := fun j2 => by
  subst hz
  by_cases q : 200 = 200 ∧ (x : Int) = x ∧ (0 : Int) = i ∧ j2 = j
  · rw [show zu Z 200 x i j v 200 x 0 j2 = v from if_pos q]; exact hv
  · rw [show zu Z 200 x i j v 200 x 0 j2 = Z 200 x 0 j2 from if_neg q]; exact h j2
theorem zA_o {Z Z1 : qz_Z} {x k : Nat} {lo hi b i j v : Int} (h : zA lo hi x Z) (hz : Z1 = zu Z k b i j v) (hx : ¬ (200 = k ∧ (x : Int) = b)) : zA lo hi x Z1 := fun j2 => by
  rw [zu_ne hz (fun q => hx ⟨q.1, q.2.1⟩)]
  exact h j2
theorem zA_c {Z Z1 : qz_Z} {x : Nat} {lo hi : Int} {vs : List Nat} (h : zA lo hi x Z) (g : zC vs Z Z1) (hv : vs.contains 200 = false) : zA lo hi x Z1 := fun j => by
  rw [g 200 x 0 j hv]
  exact h j
theorem zA_l {Z Z1 : qz_Z} {x m : Nat} {lo hi : Int} {vs bs : List Nat} (h : zA lo hi x Z) (g : zL vs bs m Z Z1) (hv : vs.contains 200 = false) (hb : ∀ b ∈ bs, b ≠ x) (hm : x < m) : zA lo hi x Z1 := fun j => by
  rw [g 200 x 0 j hv (fun q => by
    rcases q.2 with ⟨a, ha, e⟩ | q
    · exact hb a ha (by omega)
    · omega)]
  exact h j
/-- ranges where an array is written, or made -/
theorem zH_200 {s : zSM} {Z Z1 : qz_Z} {b i j v : Int} (h : zH s Z) (h1 : Z1 = zu Z 200 b i j v) (hv : -2147483648 ≤ v ∧ v ≤ 2147483647) (hs : s.1 = none) : zH s Z1 := by
  obtain ⟨s1, s2⟩ := s
  cases hs
  exact ⟨zI_200 h.1 h1 hv, zX_u h.2 h1 rfl⟩
theorem zH_z {s : zSM} {Z Z1 : qz_Z} {n : Nat} (h : zH s Z) (hz : Z1 = zzr Z n) (hs : s.1 = none) : zH s Z1 := by
  obtain ⟨s1, s2⟩ := s
  cases hs
  subst hz
  refine ⟨zzr_I h.1, fun b => ?_, fun b q => ?_, fun b q => ?_⟩
  · rw [zzr_ne (fun q => absurd q.1 (by decide)), zzr_ne (fun q => absurd q.1 (by decide))]; exact h.2.1 b
  · rw [zzr_ne (fun q => absurd q.1 (by decide)), zzr_ne (fun q => absurd q.1 (by decide))]; exact h.2.2.1 b q
  · rw [zzr_ne (fun q => absurd q.1 (by decide))]; exact h.2.2.2 b q
theorem zA_wk {Z : qz_Z} {x : Nat} {lo hi lo2 hi2 : Int} (h : zA lo hi x Z) (h1 : lo2 ≤ lo) (h2 : hi ≤ hi2) : zA lo2 hi2 x Z := fun j => by
  have := h j
  omega
