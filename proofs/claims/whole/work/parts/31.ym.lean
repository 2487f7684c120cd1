/-! THE REFERENCE'S ROW, and its copies: how many entries; what is loaded has a truck. -/
def zsp (j : Int) : Prop := j = 3814 ∨ j = 2000 ∨ j = 102 ∨ (2010 ≤ j ∧ j ≤ 2969 ∧ ((j - 2010) % 16 = 3 ∨ (j - 2010) % 16 = 9 ∨ (j - 2010) % 16 = 10)) ∨ (200 ≤ j ∧ j ≤ 1159 ∧ ((j - 200) % 20 = 10 ∨ (j - 200) % 20 = 11)) ∨ (1210 ≤ j ∧ j ≤ 1281 ∧ (j - 1210) % 12 = 6) ∨ j = 3000 ∨ (3010 ≤ j ∧ j ≤ 3129 ∧ ((j - 3010) % 60 = 3 ∨ (j - 3010) % 60 = 5 ∨ (13 ≤ (j - 3010) % 60 ∧ (j - 3010) % 60 ≤ 47 ∧ (j - 3010) % 3 ≠ 0))) ∨ j = 3815 ∨ (3850 ≤ j ∧ j ≤ 3945 ∧ (j - 3850) % 8 = 0)
def zRo (Z : qz_Z) (k : Nat) (c : Int) : Int → Int := fun j => Z k 0 0 (4400 * c + j)
/-- a lot that stands in a row is well -/
def zlw (r : Int → Int) (c p : Int) : Prop := 1 ≤ r (3024 + 60 * c + 3 * p) ∧ r (3024 + 60 * c + 3 * p) ≤ r (3023 + 60 * c + 3 * p) ∧ r (3023 + 60 * c + 3 * p) ≤ r (3024 + 60 * c + 3 * p) + 200 * r (3013 + 60 * c) ∧ 1 ≤ r (3013 + 60 * c)
/-- what holds of a row: how many entries; what is loaded has a truck; what is kept stands somewhere; a parcel has crates; how often doors were opened -/
def zYr (m : Nat) (r : Int → Int) : Prop := (0 ≤ r 3814 ∧ r 3814 ≤ m) ∧ (∀ q, 0 ≤ q → q ≤ 59 → r (2019 + 16 * q) = 1 → 0 ≤ r (2020 + 16 * q)) ∧ (∀ q, 0 ≤ q → q ≤ 47 → q < r 102 → r (210 + 20 * q) ≤ 1 → 0 ≤ r (211 + 20 * q)) ∧ (∀ q, 0 ≤ q → q ≤ 59 → q < r 2000 → 1 ≤ r (2013 + 16 * q)) ∧ (∀ q, 0 ≤ q → q ≤ 5 → 0 ≤ r (1216 + 12 * q) ∧ r (1216 + 12 * q) ≤ m) ∧ (∀ c p, 0 ≤ c → c ≤ 1 → 0 ≤ p → p ≤ 11 → p < r (3015 + 60 * c) → zlw r c p) ∧ (∀ c, 0 ≤ c → c ≤ 1 → c < r 3000 → 1 ≤ r (3013 + 60 * c)) ∧ (∀ c, 0 ≤ c → c ≤ 1 → r 3000 ≤ c → r (3015 + 60 * c) ≤ 0) ∧ (∀ i, 0 ≤ i → i ≤ 11 → i < r 3815 → r (3850 + 8 * i) < r 2000)
def zYs : List (Nat × Int) := [(2, 0), (81, 0), (81, 1), (100, 0), (101, 0), (101, 1), (101, 2), (101, 3), (101, 4), (101, 5), (101, 6), (101, 7), (104, 0), (104, 1)]
def zY (m : Nat) (Z : qz_Z) : Prop := ∀ p ∈ zYs, zYr m (zRo Z p.1 p.2)
def zM (s : zSM) (Z : qz_Z) : Prop := zH s Z ∧ zY s.2 Z
/-- kinds that hold such rows -/
def zrw2 (k : Nat) : Bool := Nat.beq k 2 || zrm k
theorem zYr_w {m n : Nat} {r : Int → Int} (h : zYr m r) (hm : m ≤ n) : zYr n r := ⟨by have := h.1; omega, h.2.1, h.2.2.1, h.2.2.2.1, fun q h0 h1 => by have := h.2.2.2.2.1 q h0 h1; omega, h.2.2.2.2.2.1, h.2.2.2.2.2.2⟩
theorem zYr_s {m : Nat} {r r1 : Int → Int} (h : zYr m r) (e : ∀ j, zsp j → r1 j = r j) : zYr m r1 := by
  have e2 : r1 2000 = r 2000 := e _ (.inr (.inl rfl))
  have e3 : r1 102 = r 102 := e _ (.inr (.inr (.inl rfl)))
  refine ⟨by rw [e 3814 (.inl rfl)]; exact h.1, fun q h0 h1 => ?_, fun q h0 h1 => ?_, fun q h0 h1 => ?_, fun q h0 h1 => ?_, fun c p h0 h1 h2 h3 => ?_, fun c h0 h1 => ?_, fun c h0 h1 => ?_, fun i h0 h1 => ?_⟩
  · rw [e (2019 + 16 * q) (by unfold zsp; omega), e (2020 + 16 * q) (by unfold zsp; omega)]
    exact h.2.1 q h0 h1
  · rw [e3, e (210 + 20 * q) (by unfold zsp; omega), e (211 + 20 * q) (by unfold zsp; omega)]
    exact h.2.2.1 q h0 h1
  · rw [e2, e (2013 + 16 * q) (by unfold zsp; omega)]
    exact h.2.2.2.1 q h0 h1
  · rw [e (1216 + 12 * q) (by unfold zsp; omega)]
    exact h.2.2.2.2.1 q h0 h1
  · unfold zlw
    rw [e (3015 + 60 * c) (by unfold zsp; omega), e (3024 + 60 * c + 3 * p) (by unfold zsp; omega), e (3023 + 60 * c + 3 * p) (by unfold zsp; omega), e (3013 + 60 * c) (by unfold zsp; omega)]
    exact h.2.2.2.2.2.1 c p h0 h1 h2 h3
  · rw [e 3000 (by unfold zsp; omega), e (3013 + 60 * c) (by unfold zsp; omega)]
    exact h.2.2.2.2.2.2.1 c h0 h1
  · rw [e 3000 (by unfold zsp; omega), e (3015 + 60 * c) (by unfold zsp; omega)]
    exact h.2.2.2.2.2.2.2.1 c h0 h1
  · rw [e2, e 3815 (by unfold zsp; omega), e (3850 + 8 * i) (by unfold zsp; omega)]
    exact h.2.2.2.2.2.2.2.2 i h0 h1
theorem zYr_e {m : Nat} {r r1 : Int → Int} (h : zYr m r) (e : ∀ j, r1 j = r j) : zYr m r1 := zYr_s h (fun j _ => e j)
/-- one cell of a row is written -/
theorem zYr_1 {m n : Nat} {r r1 : Int → Int} {j v : Int} (h : zYr m r) (hm : m ≤ n) (e : ∀ j', j' ≠ j → r1 j' = r j') (ev : r1 j = v)
    (c1 : j = 3814 → 0 ≤ v ∧ v ≤ n)
    (c2 : ∀ q, 0 ≤ q → q ≤ 59 → j = 2019 + 16 * q → v = 1 → 0 ≤ r (2020 + 16 * q)) (d2 : ∀ q, 0 ≤ q → q ≤ 59 → j = 2020 + 16 * q → r (2019 + 16 * q) = 1 → 0 ≤ v)
    (c3 : ∀ q, 0 ≤ q → q ≤ 47 → j = 210 + 20 * q → q < r 102 → v ≤ 1 → 0 ≤ r (211 + 20 * q)) (d3 : ∀ q, 0 ≤ q → q ≤ 47 → j = 211 + 20 * q → q < r 102 → r (210 + 20 * q) ≤ 1 → 0 ≤ v) (f3 : j = 102 → ∀ q, 0 ≤ q → q ≤ 47 → q < v → r 102 ≤ q → r (210 + 20 * q) ≤ 1 → 0 ≤ r (211 + 20 * q))
    (c4 : ∀ q, 0 ≤ q → q ≤ 59 → j = 2013 + 16 * q → q < r 2000 → 1 ≤ v) (d4 : j = 2000 → ∀ q, 0 ≤ q → q ≤ 59 → q < v → r 2000 ≤ q → 1 ≤ r (2013 + 16 * q))
    (c5 : ∀ q, 0 ≤ q → q ≤ 5 → j = 1216 + 12 * q → 0 ≤ v ∧ v ≤ n)
    (g3 : ∀ c, 0 ≤ c → c ≤ 1 → j = 3013 + 60 * c → r (3015 + 60 * c) ≤ 0 ∧ 1 ≤ v := by omega)
    (g5 : ∀ c, 0 ≤ c → c ≤ 1 → j = 3015 + 60 * c → ∀ p, 0 ≤ p → p ≤ 11 → r (3015 + 60 * c) ≤ p → p < v → zlw r c p := by omega)
    (gl : ∀ c p, 0 ≤ c → c ≤ 1 → 0 ≤ p → p ≤ 11 → (j = 3023 + 60 * c + 3 * p ∨ j = 3024 + 60 * c + 3 * p) → r (3015 + 60 * c) ≤ p := by omega)
    (gn : j = 3000 → ∀ c, 0 ≤ c → c ≤ 1 → c < v → r 3000 ≤ c → 1 ≤ r (3013 + 60 * c) := by omega)
    (gh : ∀ c, 0 ≤ c → c ≤ 1 → j = 3015 + 60 * c → r 3000 ≤ c → v ≤ 0 := by omega) (gk : j = 3000 → ∀ c, 0 ≤ c → c ≤ 1 → v ≤ c → c < r 3000 → r (3015 + 60 * c) ≤ 0 := by omega)
    (qa : ∀ i, 0 ≤ i → i ≤ 11 → j = 3850 + 8 * i → i < r 3815 → v < r 2000 := by omega) (qb : j = 3815 → ∀ i, 0 ≤ i → i ≤ 11 → i < v → r 3815 ≤ i → r (3850 + 8 * i) < r 2000 := by omega) (qc : j = 2000 → r 2000 ≤ v := by omega) : zYr n r1 := by
  refine ⟨?_, fun q h0 h1 => ?_, fun q h0 h1 => ?_, fun q h0 h1 => ?_, fun q h0 h1 => ?_, fun c p h0 h1 h2 h3 h4 => ?_, fun c h0 h1 h2 => ?_, fun c h0 h1 h2 => ?_, fun i h0 h1 h2 => ?_⟩
  · by_cases a : j = 3814
    · rw [← a, ev]; exact c1 a
    · rw [e _ (fun x => a x.symm)]; have := h.1; omega
  · by_cases a : j = 2019 + 16 * q
    · rw [← a, ev, e _ (by omega)]; exact c2 q h0 h1 a
    · rw [e (2019 + 16 * q) (fun x => a x.symm)]
      by_cases b : j = 2020 + 16 * q
      · rw [← b, ev]; exact d2 q h0 h1 b
      · rw [e _ (fun x => b x.symm)]; exact h.2.1 q h0 h1
  · by_cases a : j = 210 + 20 * q
    · rw [← a, ev, e _ (by omega), e _ (by omega)]; exact c3 q h0 h1 a
    · rw [e (210 + 20 * q) (fun x => a x.symm)]
      by_cases b : j = 211 + 20 * q
      · rw [← b, ev, e _ (by omega)]; exact d3 q h0 h1 b
      · rw [e (211 + 20 * q) (fun x => b x.symm)]
        by_cases c : j = 102
        · rw [← c, ev]
          intro h2
          by_cases g : q < r 102
          · exact h.2.2.1 q h0 h1 g
          · exact f3 c q h0 h1 h2 (by omega)
        · rw [e _ (fun x => c x.symm)]; exact h.2.2.1 q h0 h1
  · by_cases a : j = 2013 + 16 * q
    · rw [← a, ev, e _ (by omega)]; exact c4 q h0 h1 a
    · rw [e (2013 + 16 * q) (fun x => a x.symm)]
      by_cases c : j = 2000
      · rw [← c, ev]
        intro h2
        by_cases g : q < r 2000
        · exact h.2.2.2.1 q h0 h1 g
        · exact d4 c q h0 h1 h2 (by omega)
      · rw [e _ (fun x => c x.symm)]; exact h.2.2.2.1 q h0 h1
  · by_cases a : j = 1216 + 12 * q
    · rw [← a, ev]; exact c5 q h0 h1 a
    · rw [e _ (fun x => a x.symm)]; have := h.2.2.2.2.1 q h0 h1; omega
  · by_cases a : j = 3015 + 60 * c
    · rw [← a, ev] at h4
      have w : zlw r c p := by
        by_cases g : p < r (3015 + 60 * c)
        · exact h.2.2.2.2.2.1 c p h0 h1 h2 h3 g
        · exact g5 c h0 h1 a p h2 h3 (by omega) h4
      unfold zlw at w ⊢
      rw [e (3024 + 60 * c + 3 * p) (by omega), e (3023 + 60 * c + 3 * p) (by omega), e (3013 + 60 * c) (by omega)]
      exact w
    · rw [e _ (fun x => a x.symm)] at h4
      have w := h.2.2.2.2.2.1 c p h0 h1 h2 h3 h4
      by_cases a3 : j = 3013 + 60 * c
      · have := (g3 c h0 h1 a3).1
        omega
      · by_cases al : j = 3023 + 60 * c + 3 * p ∨ j = 3024 + 60 * c + 3 * p
        · have := gl c p h0 h1 h2 h3 al
          omega
        · unfold zlw at w ⊢
          rw [e (3024 + 60 * c + 3 * p) (by omega), e (3023 + 60 * c + 3 * p) (by omega), e (3013 + 60 * c) (by omega)]
          exact w
  · by_cases a : j = 3013 + 60 * c
    · rw [← a, ev]; exact (g3 c h0 h1 a).2
    · rw [e (3013 + 60 * c) (fun x => a x.symm)]
      by_cases b : j = 3000
      · rw [← b, ev] at h2
        by_cases g : c < r 3000
        · exact h.2.2.2.2.2.2.1 c h0 h1 g
        · exact gn b c h0 h1 h2 (by omega)
      · rw [e 3000 (fun x => b x.symm)] at h2
        exact h.2.2.2.2.2.2.1 c h0 h1 h2
  · by_cases a : j = 3015 + 60 * c
    · rw [← a, ev]
      rw [e 3000 (by omega)] at h2
      exact gh c h0 h1 a h2
    · rw [e (3015 + 60 * c) (fun x => a x.symm)]
      by_cases b : j = 3000
      · rw [← b, ev] at h2
        by_cases g : r 3000 ≤ c
        · exact h.2.2.2.2.2.2.2.1 c h0 h1 g
        · exact gk b c h0 h1 h2 (by omega)
      · rw [e 3000 (fun x => b x.symm)] at h2
        exact h.2.2.2.2.2.2.2.1 c h0 h1 h2
  · by_cases a : j = 3815
    · rw [← a, ev] at h2
      rw [e (3850 + 8 * i) (by omega), e 2000 (by omega)]
      by_cases g : i < r 3815
      · exact h.2.2.2.2.2.2.2.2 i h0 h1 g
      · exact qb a i h0 h1 h2 (by omega)
    · rw [e 3815 (fun x => a x.symm)] at h2
      have w := h.2.2.2.2.2.2.2.2 i h0 h1 h2
      by_cases b : j = 3850 + 8 * i
      · rw [← b, ev, e 2000 (by omega)]
        exact qa i h0 h1 b h2
      · rw [e (3850 + 8 * i) (fun x => b x.symm)]
        by_cases c : j = 2000
        · have g := qc c
          rw [← c, ev]
          omega
        · rw [e 2000 (fun x => c x.symm)]
          exact w
theorem zY_w {m n : Nat} {Z : qz_Z} (h : zY m Z) (hm : m ≤ n) : zY n Z := fun p hp => zYr_w (h p hp) hm
theorem zYs_k {p : Nat × Int} (hp : p ∈ zYs) : zrw2 p.1 = true := by
  have : ∀ p ∈ zYs, zrw2 p.1 = true := by decide
  exact this p hp
theorem zYs_2 {p : Nat × Int} (hp : p ∈ zYs) (h : p.1 = 2) : p.2 = 0 := by
  have : ∀ p ∈ zYs, p.1 = 2 → p.2 = 0 := by decide
  exact this p hp h
theorem zY_2 {m : Nat} {Z : qz_Z} (h : zY m Z) : zYr m (fun j => Z 2 0 0 j) := by
  have := h (2, 0) (by decide)
  exact zYr_e this (fun j => by show Z 2 0 0 j = Z 2 0 0 (4400 * 0 + j); rw [show (4400 * 0 + j : Int) = j by omega])
/-- the row of the reference alone is written -/
theorem zY_r {m n : Nat} {Z Z1 : qz_Z} (h : zY m Z) (hm : m ≤ n) (e : ∀ k b i j, k ≠ 2 → Z1 k b i j = Z k b i j) (g : zYr n (fun j => Z1 2 0 0 j)) : zY n Z1 := fun p hp => by
  by_cases q : p.1 = 2
  · obtain ⟨k, c⟩ := p
    have q2 : c = 0 := zYs_2 hp q
    have q1 : k = 2 := q
    subst q1 q2
    exact zYr_e g (fun j => by show Z1 2 0 0 (4400 * 0 + j) = Z1 2 0 0 j; rw [show (4400 * 0 + j : Int) = j by omega])
  · exact zYr_e (zYr_w (h p hp) hm) (fun j => e _ _ _ _ q)
/-- no row is written -/
theorem zY_o {m : Nat} {Z Z1 : qz_Z} (h : zY m Z) (e : ∀ k j, zrw2 k = true → Z1 k 0 0 j = Z k 0 0 j) : zY m Z1 := fun p hp => zYr_e (h p hp) (fun j => e _ _ (zYs_k hp))
section ZM
variable {s : zSM} {Z Z1 : qz_Z}
theorem zm0 (h : zM s Z) : zM (zb s 0) Z := h
theorem zmt {a b c : Nat} (h : zM (zb (zb s a) b) Z) (e : a + b = c) : zM (zb s c) Z := by
  subst e
  refine ⟨zbt h.1 rfl, ?_⟩
  have h2 : zY (s.2 + a + b) Z := h.2
  show zY (s.2 + (a + b)) Z
  rw [← Nat.add_assoc]
  exact h2
theorem zmw {a c : Nat} (h : zM (zb s a) Z) (e : a ≤ c) : zM (zb s c) Z := ⟨zbw h.1 e, zY_w h.2 (show s.2 + a ≤ s.2 + c by omega)⟩
theorem zmx {x d T : Nat} (h : zM (zb (zb s x) d) Z) (e : x + d ≤ T) : zM (zb s T) Z := zmw (zmt h rfl) e
theorem zmx0 {x T : Nat} (h : zM (zb s x) Z) (e : x ≤ T) : zM (zb s T) Z := zmw h e
theorem zM_f (h : zM s Z) (k : Nat) (b i j : Int) : -2147483648 ≤ Z k b i j ∧ Z k b i j ≤ 2147483647 := zH_f h.1 k b i j
theorem zM_k (h : zM s Z) (k : Nat) (b i j : Int) {lo hi : Int} (hk : k ≠ 200) (e : zr k j = (lo, hi)) : lo ≤ Z k b i j ∧ Z k b i j ≤ hi := zH_k h.1 k b i j hk e
theorem zM_ct (h : zM s Z) (hM : s.2 + 0 ≤ 1000000000) : 0 ≤ Z 2 0 0 3814 ∧ Z 2 0 0 3814 ≤ 1000000000 := by
  have : 0 ≤ Z 2 0 0 3814 ∧ Z 2 0 0 3814 ≤ (s.2 : Int) := (zY_2 h.2).1
  omega
theorem zM_lt2 (h : zM s Z) (q : Int) : 0 ≤ q → q ≤ 59 → Z 2 0 0 (2019 + 16 * q) = 1 → 0 ≤ Z 2 0 0 (2020 + 16 * q) := (zY_2 h.2).2.1 q
theorem zM_py (h : zM s Z) (q : Int) : 0 ≤ q → q ≤ 59 → 0 ≤ Z 2 0 0 (1811 + 2 * q) ∧ Z 2 0 0 (1811 + 2 * q) ≤ 41 := fun h0 h1 => zM_k h 2 0 0 (1811 + 2 * q) (by decide) (zs_1810_1 (x := q) rfl h0 (by omega))
theorem zM_lc (h : zM s Z) (q : Int) : 0 ≤ q → q ≤ 1 → 0 ≤ Z 2 0 0 (3015 + 60 * q) ∧ Z 2 0 0 (3015 + 60 * q) ≤ 12 := fun h0 h1 => zM_k h 2 0 0 (3015 + 60 * q) (by decide) (zs_3010_5 (x := q) rfl h0 (by omega))
theorem zM_pl (h : zM s Z) (q : Int) : 0 ≤ q → q ≤ 47 → q < Z 2 0 0 102 → Z 2 0 0 (210 + 20 * q) ≤ 1 → 0 ≤ Z 2 0 0 (211 + 20 * q) := (zY_2 h.2).2.2.1 q
theorem zM_cr (h : zM s Z) (q : Int) : 0 ≤ q → q ≤ 59 → q < Z 2 0 0 2000 → 1 ≤ Z 2 0 0 (2013 + 16 * q) := (zY_2 h.2).2.2.2.1 q
theorem zM_dr (h : zM s Z) (q : Int) (hq : 0 ≤ q ∧ q ≤ 5) (hM : s.2 + 0 ≤ 1000000000) : 0 ≤ Z 2 0 0 (1216 + 12 * q) ∧ Z 2 0 0 (1216 + 12 * q) ≤ 1000000000 := by
  have : 0 ≤ Z 2 0 0 (1216 + 12 * q) ∧ Z 2 0 0 (1216 + 12 * q) ≤ (s.2 : Int) := (zY_2 h.2).2.2.2.2.1 q hq.1 hq.2
  omega
theorem zY_u {m k : Nat} {b i j v : Int} (h : zY m Z) (h1 : Z1 = zu Z k b i j v) (hr : zrw2 k = false) : zY m Z1 := zY_o h (fun k' j' hk => zu_ne h1 (fun q => by rw [q.1, hr] at hk; cases hk))
theorem zM_u {k : Nat} {b i j v : Int} (h : zM s Z) (h1 : Z1 = zu Z k b i j v) {lo hi : Int} (hk : k ≠ 200) (e : zr k j = (lo, hi)) (hv : lo ≤ v ∧ v ≤ hi) (hw : -2147483648 ≤ lo ∧ hi ≤ 2147483647) (hq : k ≠ 1 ∨ j ≠ 35) (hx : zxk k j = false) (hr : zrw2 k = false := by rfl) : zM s Z1 := ⟨zH_u h.1 h1 hk e hv hw hq hx, zY_u h.2 h1 hr⟩
theorem zM_0 {k : Nat} {b i j : Int} (h : zM s Z) (h1 : Z1 = zu Z k b i j 0) (hk : k ≠ 200) (hq : k ≠ 1 ∨ j ≠ 35) (hr : zrw2 k = false := by rfl) : zM s Z1 := ⟨zH_0 h.1 h1 hk hq, zY_u h.2 h1 hr⟩
theorem zY_u2 {m : Nat} {b i j v : Int} (h : zY m Z) (h1 : Z1 = zu Z 2 b i j v) (hs : ¬ zsp j) : zY m Z1 := zY_r h (Nat.le_refl _) (fun k b' i' j' hk => zu_ne h1 (fun q => hk q.1)) (zYr_s (zY_2 h) (fun j' hj => zu_ne h1 (fun q => hs (q.2.2.2 ▸ hj))))
theorem zM_u2 {b i j v : Int} (h : zM s Z) (h1 : Z1 = zu Z 2 b i j v) {lo hi : Int} (e : zr 2 j = (lo, hi)) (hv : lo ≤ v ∧ v ≤ hi) (hw : -2147483648 ≤ lo ∧ hi ≤ 2147483647) (hs : ¬ zsp j) : zM s Z1 := ⟨zH_u h.1 h1 (by decide) e hv hw (.inl (by decide)) rfl, zY_u2 h.2 h1 hs⟩
theorem zM_02 {b i j : Int} (h : zM s Z) (h1 : Z1 = zu Z 2 b i j 0) (hs : ¬ zsp j) : zM s Z1 := ⟨zH_0 h.1 h1 (by decide) (.inl (by decide)), zY_u2 h.2 h1 hs⟩
theorem zM_c2 {j e : Int} (h : zM s Z) (h1 : Z1 = zu Z 2 0 0 j (Z 2 0 0 e)) (he : e = j + 6) (hr : 3560 ≤ j ∧ j < 3698) (hs : ¬ zsp j) : zM s Z1 := by
  subst he
  have h2 := h.1.1.1 2 0 0 (j + 6) (by decide)
  rw [zs_up hr.1 hr.2] at h2
  refine ⟨⟨zI_v h.1.1 h1 (by decide) h2 (h.1.1.2.1 2 0 0 (j + 6)) (.inl (by decide)), zX_u h.1.2 h1 rfl⟩, zY_u2 h.2 h1 hs⟩
/-- a lot's columns, three further on -/
theorem zs_l3 {j : Int} (h : 3010 ≤ j ∧ j < 3127) (h2 : 12 ≤ (j - 3010) % 60 ∧ (j - 3010) % 60 ≤ 56) : zr 2 (j + 3) = zr 2 j := by
  have g : ∀ n < 57, 12 ≤ n → zrt_3010.getD (n + 3) z_F = zrt_3010.getD n z_F := by decide
  have e := g ((j - 3010) % 60).toNat (by omega) (by omega)
  rw [zsb_3010 (by omega) (by omega), zsb_3010 (e := j) (by omega) (by omega), show ((j + 3 - 3010) % 60).toNat = ((j - 3010) % 60).toNat + 3 by omega]
  exact e
/-- a cell of the row, with what it takes -/
theorem zM_1 {j v : Int} {n : Nat} (h : zM s Z) (h1 : Z1 = zu Z 2 0 0 j v) {lo hi : Int} (e : zr 2 j = (lo, hi)) (hv : lo ≤ v ∧ v ≤ hi) (hw : -2147483648 ≤ lo ∧ hi ≤ 2147483647)
    (c1 : j = 3814 → 0 ≤ v ∧ v ≤ ((s.2 + n : Nat) : Int))
    (c2 : ∀ q, 0 ≤ q → q ≤ 59 → j = 2019 + 16 * q → v = 1 → 0 ≤ Z 2 0 0 (2020 + 16 * q)) (d2 : ∀ q, 0 ≤ q → q ≤ 59 → j = 2020 + 16 * q → Z 2 0 0 (2019 + 16 * q) = 1 → 0 ≤ v)
    (c3 : ∀ q, 0 ≤ q → q ≤ 47 → j = 210 + 20 * q → q < Z 2 0 0 102 → v ≤ 1 → 0 ≤ Z 2 0 0 (211 + 20 * q)) (d3 : ∀ q, 0 ≤ q → q ≤ 47 → j = 211 + 20 * q → q < Z 2 0 0 102 → Z 2 0 0 (210 + 20 * q) ≤ 1 → 0 ≤ v) (f3 : j = 102 → ∀ q, 0 ≤ q → q ≤ 47 → q < v → Z 2 0 0 102 ≤ q → Z 2 0 0 (210 + 20 * q) ≤ 1 → 0 ≤ Z 2 0 0 (211 + 20 * q))
    (c4 : ∀ q, 0 ≤ q → q ≤ 59 → j = 2013 + 16 * q → q < Z 2 0 0 2000 → 1 ≤ v) (d4 : j = 2000 → ∀ q, 0 ≤ q → q ≤ 59 → q < v → Z 2 0 0 2000 ≤ q → 1 ≤ Z 2 0 0 (2013 + 16 * q))
    (c5 : ∀ q, 0 ≤ q → q ≤ 5 → j = 1216 + 12 * q → 0 ≤ v ∧ v ≤ ((s.2 + n : Nat) : Int))
    (g3 : ∀ c, 0 ≤ c → c ≤ 1 → j = 3013 + 60 * c → Z 2 0 0 (3015 + 60 * c) ≤ 0 ∧ 1 ≤ v := by omega)
    (g5 : ∀ c, 0 ≤ c → c ≤ 1 → j = 3015 + 60 * c → ∀ p, 0 ≤ p → p ≤ 11 → Z 2 0 0 (3015 + 60 * c) ≤ p → p < v → zlw (fun j => Z 2 0 0 j) c p := by omega)
    (gl : ∀ c p, 0 ≤ c → c ≤ 1 → 0 ≤ p → p ≤ 11 → (j = 3023 + 60 * c + 3 * p ∨ j = 3024 + 60 * c + 3 * p) → Z 2 0 0 (3015 + 60 * c) ≤ p := by omega)
    (gn : j = 3000 → ∀ c, 0 ≤ c → c ≤ 1 → c < v → Z 2 0 0 3000 ≤ c → 1 ≤ Z 2 0 0 (3013 + 60 * c) := by omega)
    (gh : ∀ c, 0 ≤ c → c ≤ 1 → j = 3015 + 60 * c → Z 2 0 0 3000 ≤ c → v ≤ 0 := by omega) (gk : j = 3000 → ∀ c, 0 ≤ c → c ≤ 1 → v ≤ c → c < Z 2 0 0 3000 → Z 2 0 0 (3015 + 60 * c) ≤ 0 := by omega)
    (qa : ∀ i, 0 ≤ i → i ≤ 11 → j = 3850 + 8 * i → i < Z 2 0 0 3815 → v < Z 2 0 0 2000 := by omega) (qb : j = 3815 → ∀ i, 0 ≤ i → i ≤ 11 → i < v → Z 2 0 0 3815 ≤ i → Z 2 0 0 (3850 + 8 * i) < Z 2 0 0 2000 := by omega) (qc : j = 2000 → Z 2 0 0 2000 ≤ v := by omega) : zM (zb s n) Z1 := by
  have g : zYr (s.2 + n) (fun j => Z1 2 0 0 j) := zYr_1 (zY_2 h.2) (Nat.le_add_right _ _) (fun j' hj => zu_ne h1 (fun q => hj q.2.2.2)) (zu_at h1) c1 c2 d2 c3 d3 f3 c4 d4 c5 g3 g5 gl gn gh gk qa qb qc
  exact ⟨zbw (a := 0) (zH_u h.1 h1 (by decide) e hv hw (.inl (by decide)) rfl) (Nat.zero_le _), zY_r h.2 (Nat.le_add_right _ _) (fun k b' i' j' hk => zu_ne h1 (fun q => hk q.1)) g⟩
theorem zM_ic {v : Int} (h : zM s Z) (h1 : Z1 = zu Z 2 0 0 3814 v) (hM : s.2 + 1 ≤ 1000000000) (hv : v = Z 2 0 0 3814 + 1) : zM (zb s 1) Z1 := by
  have h2 : 0 ≤ Z 2 0 0 3814 ∧ Z 2 0 0 3814 ≤ (s.2 : Int) := (zY_2 h.2).1
  exact zM_1 h h1 (show zr 2 3814 = z_F from rfl) (by omega) ⟨by decide, by decide⟩ (by omega) (by omega) (by omega) (by omega) (by omega) (by omega) (by omega) (by omega) (by omega)
theorem zM_st2 {j v q : Int} (h : zM s Z) (h1 : Z1 = zu Z 2 0 0 j v) (hj : j = 2019 + 16 * q) (hq : 0 ≤ q ∧ q ≤ 59) (hv : 0 ≤ v ∧ v ≤ 3) (hx : v ≠ 1 ∨ 0 ≤ Z 2 0 0 (2020 + 16 * q)) : zM s Z1 := by
  refine zM_1 (n := 0) h h1 (lo := 0) (hi := 3) (zs_2010_9 (x := q) (by omega) (by omega) (by omega)) hv ⟨by decide, by decide⟩ (by omega) (fun q' _ _ e => ?_) (by omega) (by omega) (by omega) (by omega) (by omega) (by omega) (by omega)
  have : q' = q := by omega
  subst this
  omega
theorem zM_tr2 {j v q : Int} (h : zM s Z) (h1 : Z1 = zu Z 2 0 0 j v) (hj : j = 2020 + 16 * q) (hq : 0 ≤ q ∧ q ≤ 59) (hv : -1 ≤ v ∧ v ≤ 3) (hx : 0 ≤ v ∨ Z 2 0 0 (2019 + 16 * q) ≠ 1) : zM s Z1 := by
  refine zM_1 (n := 0) h h1 (lo := -1) (hi := 3) (zs_2010_10 (x := q) (by omega) (by omega) (by omega)) hv ⟨by decide, by decide⟩ (by omega) (by omega) (fun q' _ _ e => ?_) (by omega) (by omega) (by omega) (by omega) (by omega) (by omega)
  have : q' = q := by omega
  subst this
  omega
theorem zM_ps2 {j v q : Int} (h : zM s Z) (h1 : Z1 = zu Z 2 0 0 j v) (hj : j = 210 + 20 * q) (hq : 0 ≤ q ∧ q ≤ 47) (hv : 0 ≤ v ∧ v ≤ 4) (hx : 2 ≤ v ∨ 0 ≤ Z 2 0 0 (211 + 20 * q) ∨ Z 2 0 0 102 ≤ q) : zM s Z1 := by
  refine zM_1 (n := 0) h h1 (lo := 0) (hi := 4) (zs_200_10 (x := q) (by omega) (by omega) (by omega)) hv ⟨by decide, by decide⟩ (by omega) (by omega) (by omega) (fun q' _ _ e => ?_) (by omega) (by omega) (by omega) (by omega) (by omega)
  have : q' = q := by omega
  subst this
  omega
theorem zM_pw2 {j v q : Int} (h : zM s Z) (h1 : Z1 = zu Z 2 0 0 j v) (hj : j = 211 + 20 * q) (hq : 0 ≤ q ∧ q ≤ 47) (hv : -1 ≤ v ∧ v ≤ 6) (hx : 0 ≤ v ∨ 2 ≤ Z 2 0 0 (210 + 20 * q) ∨ Z 2 0 0 102 ≤ q) : zM s Z1 := by
  refine zM_1 (n := 0) h h1 (lo := -1) (hi := 6) (zs_200_11 (x := q) (by omega) (by omega) (by omega)) hv ⟨by decide, by decide⟩ (by omega) (by omega) (by omega) (by omega) (fun q' _ _ e => ?_) (by omega) (by omega) (by omega) (by omega)
  have : q' = q := by omega
  subst this
  omega
theorem zM_np2 {v p : Int} (h : zM s Z) (h1 : Z1 = zu Z 2 0 0 102 v) (hp : p = Z 2 0 0 102) (hv : 0 ≤ v ∧ v ≤ 48) (hx : v ≤ Z 2 0 0 102 ∨ (v = Z 2 0 0 102 + 1 ∧ 0 ≤ Z 2 0 0 (211 + 20 * p))) : zM s Z1 := by
  subst hp
  refine zM_1 (n := 0) h h1 (lo := 0) (hi := 48) rfl hv ⟨by decide, by decide⟩ (by omega) (by omega) (by omega) (by omega) (by omega) (fun _ q' _ _ h3 h4 _ => ?_) (by omega) (by omega) (by omega)
  have : q' = Z 2 0 0 102 := by omega
  subst this
  omega
theorem zM_cr2 {j v q : Int} (h : zM s Z) (h1 : Z1 = zu Z 2 0 0 j v) (hj : j = 2013 + 16 * q) (hq : 0 ≤ q ∧ q ≤ 59) (hv : 0 ≤ v ∧ v ≤ 40) (hx : 1 ≤ v ∨ Z 2 0 0 2000 ≤ q) : zM s Z1 := by
  refine zM_1 (n := 0) h h1 (lo := 0) (hi := 40) (zs_2010_3 (x := q) (by omega) (by omega) (by omega)) hv ⟨by decide, by decide⟩ (by omega) (by omega) (by omega) (by omega) (by omega) (by omega) (fun q' _ _ e => ?_) (by omega) (by omega)
  have : q' = q := by omega
  subst this
  omega
theorem zM_nc2 {v p : Int} (h : zM s Z) (h1 : Z1 = zu Z 2 0 0 2000 v) (hp : p = Z 2 0 0 2000) (hv : 0 ≤ v ∧ v ≤ 60) (hx : v = Z 2 0 0 2000 ∨ (v = Z 2 0 0 2000 + 1 ∧ 1 ≤ Z 2 0 0 (2013 + 16 * p))) : zM s Z1 := by
  subst hp
  refine zM_1 (n := 0) h h1 (lo := 0) (hi := 60) rfl hv ⟨by decide, by decide⟩ (by omega) (by omega) (by omega) (by omega) (by omega) (by omega) (by omega) (fun _ q' _ _ h3 h4 => ?_) (by omega)
  have : q' = Z 2 0 0 2000 := by omega
  subst this
  omega
theorem zM_qr (h : zM s Z) (i : Int) : 0 ≤ i → i ≤ 11 → i < Z 2 0 0 3815 → Z 2 0 0 (3850 + 8 * i) < Z 2 0 0 2000 := (zY_2 h.2).2.2.2.2.2.2.2.2 i
theorem zM_qc (h : zM s Z) (i : Int) (h0 : 0 ≤ i) (h1 : i ≤ 11) (h2 : i < Z 2 0 0 3815) : 1 ≤ Z 2 0 0 (2013 + 16 * Z 2 0 0 (3850 + 8 * i)) := by
  have g := zM_k h 2 0 0 (3850 + 8 * i) (by decide) (zs_3850_0 (x := i) rfl h0 (by omega))
  exact zM_cr h _ g.1 g.2 (zM_qr h i h0 h1 h2)
theorem zM_di2 {j v q : Int} (h : zM s Z) (h1 : Z1 = zu Z 2 0 0 j v) (hj : j = 1216 + 12 * q) (hq : 0 ≤ q ∧ q ≤ 5) (hM : s.2 + 1 ≤ 1000000000) (hv : v = Z 2 0 0 (1216 + 12 * q) + 1) : zM (zb s 1) Z1 := by
  have h2 : 0 ≤ Z 2 0 0 (1216 + 12 * q) ∧ Z 2 0 0 (1216 + 12 * q) ≤ (s.2 : Int) := (zY_2 h.2).2.2.2.2.1 q hq.1 hq.2
  exact zM_1 h h1 (lo := -2147483648) (hi := 2147483647) (zs_1210_6 (x := q) (by omega) (by omega) (by omega)) (by omega) ⟨by decide, by decide⟩ (by omega) (by omega) (by omega) (by omega) (by omega) (by omega) (by omega) (by omega) (by omega)
theorem zM_lo (h : zM s Z) (c : Int) : 0 ≤ c → c ≤ 1 → 1 ≤ Z 2 0 0 (3015 + 60 * c) → 1 ≤ Z 2 0 0 (3024 + 60 * c) ∧ Z 2 0 0 (3024 + 60 * c) ≤ Z 2 0 0 (3023 + 60 * c) ∧ Z 2 0 0 (3023 + 60 * c) ≤ Z 2 0 0 (3024 + 60 * c) + 200 * Z 2 0 0 (3013 + 60 * c) ∧ 1 ≤ Z 2 0 0 (3013 + 60 * c) := fun h0 h1 h2 => by
  have w : zlw (fun j => Z 2 0 0 j) c 0 := (zY_2 h.2).2.2.2.2.2.1 c 0 h0 h1 (by omega) (by omega) (show (0 : Int) < Z 2 0 0 (3015 + 60 * c) by omega)
  unfold zlw at w
  rw [show 3024 + 60 * c + 3 * 0 = 3024 + 60 * c by omega, show 3023 + 60 * c + 3 * 0 = 3023 + 60 * c by omega] at w
  exact w
theorem zM_cs (h : zM s Z) (c : Int) : 0 ≤ c → c ≤ 1 → c < Z 2 0 0 3000 → 1 ≤ Z 2 0 0 (3013 + 60 * c) := (zY_2 h.2).2.2.2.2.2.2.1 c
theorem zM_nl (h : zM s Z) (c : Int) : 0 ≤ c → c ≤ 1 → Z 2 0 0 3000 ≤ c → Z 2 0 0 (3015 + 60 * c) ≤ 0 := (zY_2 h.2).2.2.2.2.2.2.2.1 c
/-- a lot behind the row's end -/
theorem zM_lw2 {j v c p lo hi : Int} (h : zM s Z) (h1 : Z1 = zu Z 2 0 0 j v) (e : zr 2 j = (lo, hi)) (hv : lo ≤ v ∧ v ≤ hi) (hw : -2147483648 ≤ lo ∧ hi ≤ 2147483647) (hj : j = 3023 + 60 * c + 3 * p ∨ j = 3024 + 60 * c + 3 * p) (hc : 0 ≤ c ∧ c ≤ 1) (hp : 0 ≤ p ∧ p ≤ 11) (hx : Z 2 0 0 (3015 + 60 * c) ≤ p) : zM s Z1 := by
  refine zM_1 (n := 0) h h1 e hv hw (by omega) (by omega) (by omega) (by omega) (by omega) (by omega) (by omega) (by omega) (by omega) (gl := fun c' p' _ _ _ _ g => ?_)
  have e1 : c' = c := by omega
  have e2 : p' = p := by omega
  subst e1 e2
  exact hx
/-- how many lots -/
theorem zM_ln2 {j v c p : Int} (h : zM s Z) (h1 : Z1 = zu Z 2 0 0 j v) (hj : j = 3015 + 60 * c) (hc : 0 ≤ c ∧ c ≤ 1) (hv : 0 ≤ v ∧ v ≤ 12) (hx : v ≤ Z 2 0 0 (3015 + 60 * c) ∨ (c < Z 2 0 0 3000 ∧ p = Z 2 0 0 (3015 + 60 * c) ∧ v = p + 1 ∧ 1 ≤ Z 2 0 0 (3024 + 60 * c + 3 * p) ∧ Z 2 0 0 (3024 + 60 * c + 3 * p) ≤ Z 2 0 0 (3023 + 60 * c + 3 * p) ∧ Z 2 0 0 (3023 + 60 * c + 3 * p) ≤ Z 2 0 0 (3024 + 60 * c + 3 * p) + 200 * Z 2 0 0 (3013 + 60 * c) ∧ 1 ≤ Z 2 0 0 (3013 + 60 * c))) : zM s Z1 := by
  refine zM_1 (n := 0) h h1 (lo := 0) (hi := 12) (zs_3010_5 (x := c) (by omega) (by omega) (by omega)) hv ⟨by decide, by decide⟩ (by omega) (by omega) (by omega) (by omega) (by omega) (by omega) (by omega) (by omega) (by omega) (g5 := fun c' _ _ g p' _ _ h2 h3 => ?_) (gh := fun c' h5 h6 g h7 => by
    have e1 : c' = c := by omega
    subst e1
    have := zM_nl h c' h5 h6 h7
    omega)
  have e1 : c' = c := by omega
  subst e1
  rcases hx with hx | hx
  · omega
  · have e2 : p' = p := by omega
    subst e2
    exact hx.2.2.2
/-- a clock's step, while no lot stands there -/
theorem zM_ls2 {j v c : Int} (h : zM s Z) (h1 : Z1 = zu Z 2 0 0 j v) (hj : j = 3013 + 60 * c) (hc : 0 ≤ c ∧ c ≤ 1) (hv : 1 ≤ v ∧ v ≤ 500) (hx : Z 2 0 0 (3015 + 60 * c) ≤ 0) : zM s Z1 := by
  refine zM_1 (n := 0) h h1 (lo := 0) (hi := 500) (zs_3010_3 (x := c) (by omega) (by omega) (by omega)) (by omega) ⟨by decide, by decide⟩ (by omega) (by omega) (by omega) (by omega) (by omega) (by omega) (by omega) (by omega) (by omega) (g3 := fun c' _ _ g => ?_)
  have e1 : c' = c := by omega
  subst e1
  exact ⟨hx, hv.1⟩
/-- nothing, where no parcel's or pallet's row is that stands -/
theorem zM_z2 {j : Int} (h : zM s Z) (h1 : Z1 = zu Z 2 0 0 j 0) (hn : j ≠ 102 ∧ j ≠ 2000 ∧ (j < 3000 ∨ 3130 ≤ j)) (hp : j < 200 ∨ 1160 ≤ j ∨ 200 + 20 * Z 2 0 0 102 ≤ j) (hc : j < 2010 ∨ 2970 ≤ j ∨ 2010 + 16 * Z 2 0 0 2000 ≤ j) (hqq : j < 3815 ∨ 3946 ≤ j := by omega) : zM s Z1 :=
  ⟨zH_0 h.1 h1 (by decide) (.inl (by decide)), zY_r h.2 (Nat.le_refl _) (fun k b' i' j' hk => zu_ne h1 (fun q => hk q.1)) (zYr_1 (zY_2 h.2) (Nat.le_refl _) (fun j' hj => zu_ne h1 (fun q => hj q.2.2.2)) (zu_at h1) (by omega) (by omega) (by omega) (by omega) (by omega) (by omega) (by omega) (by omega) (by omega))⟩
theorem zM_qw2 {j v i : Int} (h : zM s Z) (h1 : Z1 = zu Z 2 0 0 j v) (hj : j = 3850 + 8 * i) (hi : 0 ≤ i ∧ i ≤ 11) (hv : 0 ≤ v ∧ v ≤ 59) (hx : v < Z 2 0 0 2000 ∨ Z 2 0 0 3815 ≤ i) : zM s Z1 :=
  ⟨zH_u h.1 h1 (by decide) (zs_3850_0 (x := i) (by omega) (by omega) (by omega)) hv ⟨by decide, by decide⟩ (.inl (by decide)) rfl, zY_r h.2 (Nat.le_refl _) (fun k b' i' j' hk => zu_ne h1 (fun q => hk q.1)) (zYr_1 (zY_2 h.2) (Nat.le_refl _) (fun j' hj => zu_ne h1 (fun q => hj q.2.2.2)) (zu_at h1) (by omega) (by omega) (by omega) (by omega) (by omega) (by omega) (by omega) (by omega) (by omega) (qa := fun i' h0 h1 e h2 => by
    have : i' = i := by omega
    subst this
    omega))⟩
theorem zM_qn2 {v p : Int} (h : zM s Z) (h1 : Z1 = zu Z 2 0 0 3815 v) (hp : p = Z 2 0 0 3815) (hv : 0 ≤ v ∧ v ≤ 12) (hx : v = Z 2 0 0 3815 ∨ (v = Z 2 0 0 3815 + 1 ∧ Z 2 0 0 (3850 + 8 * p) < Z 2 0 0 2000)) : zM s Z1 := by
  subst hp
  exact ⟨zH_u h.1 h1 (by decide) (show zr 2 3815 = (0, 12) from rfl) hv ⟨by decide, by decide⟩ (.inl (by decide)) rfl, zY_r h.2 (Nat.le_refl _) (fun k b' i' j' hk => zu_ne h1 (fun q => hk q.1)) (zYr_1 (zY_2 h.2) (Nat.le_refl _) (fun j' hj => zu_ne h1 (fun q => hj q.2.2.2)) (zu_at h1) (by omega) (by omega) (by omega) (by omega) (by omega) (by omega) (by omega) (by omega) (by omega) (qb := fun _ i _ _ h3 h4 => by
    have : i = Z 2 0 0 3815 := by omega
    subst this
    omega))⟩
/-! a parcel is counted ahead of being written -/
def zYp (x : Int) (m : Nat) (r : Int → Int) : Prop := zYr m (fun j => if j = x then 1 else r j)
def zMp (c : Int) (s : zSM) (Z : qz_Z) : Prop := zH s Z ∧ zYp c s.2 (fun j => Z 2 0 0 j) ∧ ∀ p ∈ zYs, p.1 ≠ 2 → zYr s.2 (zRo Z p.1 p.2)
theorem zY_mk {m : Nat} {Z : qz_Z} (g : zYr m (fun j => Z 2 0 0 j)) (h : ∀ p ∈ zYs, p.1 ≠ 2 → zYr m (zRo Z p.1 p.2)) : zY m Z := fun p hp => by
  by_cases q : p.1 = 2
  · obtain ⟨k, c⟩ := p
    have q2 : c = 0 := zYs_2 hp q
    have q1 : k = 2 := q
    subst q1 q2
    exact zYr_e g (fun j => by show Z 2 0 0 (4400 * 0 + j) = Z 2 0 0 j; rw [show (4400 * 0 + j : Int) = j by omega])
  · exact h p hp q
theorem zMp_nc {v p : Int} (h : zM s Z) (h1 : Z1 = zu Z 2 0 0 2000 v) (hp : p = Z 2 0 0 2000) (hv : v = p + 1 ∧ 0 ≤ p ∧ p ≤ 59) : zMp (2013 + 16 * p) s Z1 := by
  refine ⟨zH_u h.1 h1 (by decide) (show zr 2 2000 = (0, 60) from rfl) (by omega) ⟨by decide, by decide⟩ (.inl (by decide)) rfl, ?_, fun q hq hn => zYr_e (h.2 q hq) (fun j => zu_ne h1 (fun g => hn g.1))⟩
  have a : zYr s.2 (fun j => if j = 2013 + 16 * p then 1 else Z 2 0 0 j) := zYr_1 (j := 2013 + 16 * p) (v := 1) (zY_2 h.2) (Nat.le_refl _) (fun j' hj => if_neg hj) (if_pos rfl) (by omega) (by omega) (by omega) (by omega) (by omega) (by omega) (by omega) (by omega) (by omega)
  refine zYr_1 (j := 2000) (v := v) a (Nat.le_refl _) (fun j' hj => ?_) ?_ (by omega) (by omega) (by omega) (by omega) (by omega) (by omega) (by omega) (fun _ q _ _ h3 h4 => ?_) (by omega)
  · show (if j' = 2013 + 16 * p then 1 else Z1 2 0 0 j') = _
    rw [zu_ne h1 (fun q => hj q.2.2.2)]
  · show (if (2000 : Int) = 2013 + 16 * p then 1 else Z1 2 0 0 2000) = v
    rw [if_neg (by omega), zu_at h1]
  · have h4' : (if (2000 : Int) = 2013 + 16 * p then 1 else Z 2 0 0 2000) ≤ q := h4
    rw [if_neg (by omega)] at h4'
    have e : q = p := by omega
    subst e
    show 1 ≤ (if (2013 + 16 * q : Int) = 2013 + 16 * q then 1 else Z 2 0 0 (2013 + 16 * q))
    rw [if_pos rfl]
    exact Int.le_refl 1
theorem zMp_nk {v p : Int} (h : zM s Z) (h1 : Z1 = zu Z 2 0 0 3000 v) (hp : p = Z 2 0 0 3000) (hv : v = p + 1 ∧ 0 ≤ p ∧ p ≤ 1) : zMp (3013 + 60 * p) s Z1 := by
  have hx : Z 2 0 0 (3015 + 60 * p) ≤ 0 := zM_nl h p hv.2.1 hv.2.2 (by omega)
  refine ⟨zH_u h.1 h1 (by decide) (show zr 2 3000 = (0, 2) from rfl) (by omega) ⟨by decide, by decide⟩ (.inl (by decide)) rfl, ?_, fun q hq hn => zYr_e (h.2 q hq) (fun j => zu_ne h1 (fun g => hn g.1))⟩
  have a : zYr s.2 (fun j => if j = 3013 + 60 * p then 1 else Z 2 0 0 j) := zYr_1 (j := 3013 + 60 * p) (v := 1) (zY_2 h.2) (Nat.le_refl _) (fun j' hj => if_neg hj) (if_pos rfl) (by omega) (by omega) (by omega) (by omega) (by omega) (by omega) (by omega) (by omega) (by omega) (g3 := fun c _ _ g => by
    have e1 : c = p := by omega
    subst e1
    exact ⟨hx, by omega⟩)
  refine zYr_1 (j := 3000) (v := v) a (Nat.le_refl _) (fun j' hj => ?_) ?_ (by omega) (by omega) (by omega) (by omega) (by omega) (by omega) (by omega) (by omega) (by omega) (gn := fun _ q _ _ h3 h4 => ?_) (gk := fun _ c _ _ h3 h4 => by
    have h4' : c < (if (3000 : Int) = 3013 + 60 * p then 1 else Z 2 0 0 3000) := h4
    rw [if_neg (by omega)] at h4'
    omega)
  · show (if j' = 3013 + 60 * p then 1 else Z1 2 0 0 j') = _
    rw [zu_ne h1 (fun q => hj q.2.2.2)]
  · show (if (3000 : Int) = 3013 + 60 * p then 1 else Z1 2 0 0 3000) = v
    rw [if_neg (by omega), zu_at h1]
  · have h4' : (if (3000 : Int) = 3013 + 60 * p then 1 else Z 2 0 0 3000) ≤ q := h4
    rw [if_neg (by omega)] at h4'
    have e : q = p := by omega
    subst e
    show 1 ≤ (if (3013 + 60 * q : Int) = 3013 + 60 * q then 1 else Z 2 0 0 (3013 + 60 * q))
    rw [if_pos rfl]
    exact Int.le_refl 1
theorem zMp_u2 {x j v : Int} (h : zMp x s Z) (h1 : Z1 = zu Z 2 0 0 j v) {lo hi : Int} (e : zr 2 j = (lo, hi)) (hv : lo ≤ v ∧ v ≤ hi) (hw : -2147483648 ≤ lo ∧ hi ≤ 2147483647) (hs : ¬ zsp j) : zMp x s Z1 := by
  refine ⟨zH_u h.1 h1 (by decide) e hv hw (.inl (by decide)) rfl, ?_, fun q hq hn => zYr_e (h.2.2 q hq hn) (fun j => zu_ne h1 (fun g => hn g.1))⟩
  refine zYr_s h.2.1 (fun j' hj => ?_)
  show (if j' = x then 1 else Z1 2 0 0 j') = (if j' = x then 1 else Z 2 0 0 j')
  rw [zu_ne h1 (fun q => hs (q.2.2.2 ▸ hj))]
theorem zMp_cr {c j v : Int} (h : zMp (2013 + 16 * c) s Z) (h1 : Z1 = zu Z 2 0 0 j v) (hj : j = 2013 + 16 * c) (hc : 0 ≤ c ∧ c ≤ 59) (hv : 1 ≤ v ∧ v ≤ 40) : zM s Z1 := by
  refine ⟨zH_u h.1 h1 (by decide) (lo := 0) (hi := 40) (zs_2010_3 (x := c) (by omega) (by omega) (by omega)) (by omega) ⟨by decide, by decide⟩ (.inl (by decide)) rfl, zY_mk ?_ (fun q hq hn => zYr_e (h.2.2 q hq hn) (fun j => zu_ne h1 (fun g => hn g.1)))⟩
  subst hj
  refine zYr_1 (j := 2013 + 16 * c) (v := v) h.2.1 (Nat.le_refl _) (fun j' hj => ?_) (zu_at h1) (by omega) (by omega) (by omega) (by omega) (by omega) (by omega) (by omega) (by omega) (by omega)
  show Z1 2 0 0 j' = (if j' = 2013 + 16 * c then 1 else Z 2 0 0 j')
  rw [if_neg hj, zu_ne h1 (fun q => hj q.2.2.2)]
theorem zMp_cs {c j v : Int} (h : zMp (3013 + 60 * c) s Z) (h1 : Z1 = zu Z 2 0 0 j v) (hj : j = 3013 + 60 * c) (hc : 0 ≤ c ∧ c ≤ 1) (hv : 1 ≤ v ∧ v ≤ 500) (hx : Z 2 0 0 (3015 + 60 * c) ≤ 0) : zM s Z1 := by
  refine ⟨zH_u h.1 h1 (by decide) (lo := 0) (hi := 500) (zs_3010_3 (x := c) (by omega) (by omega) (by omega)) (by omega) ⟨by decide, by decide⟩ (.inl (by decide)) rfl, zY_mk ?_ (fun q hq hn => zYr_e (h.2.2 q hq hn) (fun j => zu_ne h1 (fun g => hn g.1)))⟩
  subst hj
  refine zYr_1 (j := 3013 + 60 * c) (v := v) h.2.1 (Nat.le_refl _) (fun j' hj => ?_) (zu_at h1) (by omega) (by omega) (by omega) (by omega) (by omega) (by omega) (by omega) (by omega) (by omega) (g3 := fun c' _ _ g => ?_)
  · show Z1 2 0 0 j' = (if j' = 3013 + 60 * c then 1 else Z 2 0 0 j')
    rw [if_neg hj, zu_ne h1 (fun q => hj q.2.2.2)]
  · have e1 : c' = c := by omega
    subst e1
    refine ⟨?_, hv.1⟩
    show (if (3015 + 60 * c' : Int) = 3013 + 60 * c' then 1 else Z 2 0 0 (3015 + 60 * c')) ≤ 0
    rw [if_neg (by omega)]
    exact hx
end ZM
theorem z_div1 {x y : Int} : 0 < y → y ≤ x → 1 ≤ x / y := fun h0 h1 => by
  have := Int.ediv_le_ediv h0 h1
  rw [Int.ediv_self (by omega)] at this
  exact this
/-- how often a price falls -/
def zfl (x r s : Int) : Nat := ((x - r + s - 1) / s).toNat
theorem zfl_s (x r s : Int) : 1 ≤ s → r ≤ x - s → zfl (x - s) r s + 1 ≤ zfl x r s := fun h0 h1 => by
  have e : x - r + s - 1 = (x - s - r + s - 1) + 1 * s := by omega
  have h2 : (x - r + s - 1) / s = (x - s - r + s - 1) / s + 1 := by rw [e, Int.add_mul_ediv_right _ _ (by omega)]
  have h3 : 0 ≤ (x - s - r + s - 1) / s := Int.ediv_nonneg (by omega) (by omega)
  unfold zfl
  omega
theorem zfl_b (x r s : Int) : 1 ≤ s → x ≤ r + 200 * s → zfl x r s ≤ 200 := fun h0 h1 => by
  have h2 : (x - r + s - 1) / s < 201 := Int.ediv_lt_of_lt_mul (by omega) (by omega)
  unfold zfl
  omega
theorem zfl_c {x y : Int} (r s : Int) : x = y → zfl x r s = zfl y r s := fun h => by rw [h]
theorem z_mulr {x y b : Int} (hx : 0 ≤ x) (hb : y ≤ b) : x * y ≤ b * x := by
  rw [Int.mul_comm b x]
  exact Int.mul_le_mul_of_nonneg_left hb hx
/-- what a deed lays down leaves all but its own -/
def zMd (Z0 Zd : qz_Z) : Prop := ∀ k (b i j : Int), (k ≠ 101 ∧ k ≠ 102 ∧ k ≠ 200 ∧ ¬ (k = 1 ∧ (j = 34 ∨ j = 37))) → Zd k b i j = Z0 k b i j
theorem zMd_C {Z0 Zd : qz_Z} (d : zMd Z0 Zd) : zC [1, 101, 102, 200] Z0 Zd := fun k b i j hk => by
  have n : ∀ m, [1, 101, 102, 200].contains m = true → Nat.beq m 11 = false → Nat.beq m 2 = false → k ≠ m := fun m hm h1 h2 q => by
    subst q
    rw [zcl_k j h1 h2, hm] at hk
    cases hk
  exact d k b i j ⟨n 101 rfl rfl rfl, n 102 rfl rfl rfl, n 200 rfl rfl rfl, fun q => n 1 rfl rfl rfl q.1⟩
theorem zMd_U {Z0 Zd : qz_Z} (d : zMd Z0 Zd) : zU [] Z0 Zd := fun k b i j hk _ => by
  refine d k b i j ⟨fun q => ?_, fun q => ?_, fun q => ?_, fun q => ?_⟩
  · subst q; cases hk
  · subst q; cases hk
  · subst q; cases hk
  · rw [q.1] at hk; cases hk
/-- the reference's deed: what is kept, then what is recorded -/
def zDm (s : zSM) (ν ν1 : qz_N) (Z : qz_Z) (dk : qz_Z → qz_Z) (dm : qz_Z → Int → Int → Int → Int → Int → Int → Int → qz_Z) : Prop := ∀ (Z0 : qz_Z) (c a1 a2 a3 a4 a5 a6 : Int), zM s Z0 → Z0 1 0 0 37 = Z 1 0 0 37 → Z0 1 0 0 34 = Z 1 0 0 34 → Z0 1 0 0 35 = 0 →
  (-2147483648 ≤ c ∧ c ≤ 2147483647) → (-2147483648 ≤ a1 ∧ a1 ≤ 2147483647) → (-2147483648 ≤ a2 ∧ a2 ≤ 2147483647) → (-2147483648 ≤ a3 ∧ a3 ≤ 2147483647) → (-2147483648 ≤ a4 ∧ a4 ≤ 2147483647) → (-2147483648 ≤ a5 ∧ a5 ≤ 2147483647) → (-2147483648 ≤ a6 ∧ a6 ≤ 2147483647) →
  qf_557 [.inr (.inr (some (1, 0, 0))), .inl (i3 (-1))] (zm Z0 ν) = some (zm (dk Z0) ν, .inl none) ∧ qf_563 [.inr (.inr (some (1, 0, 0))), .inl (i3 c), .inl (i3 a1), .inl (i3 a2), .inl (i3 a3), .inl (i3 a4), .inl (i3 a5), .inl (i3 a6)] (zm (dk Z0) ν) = some (zm (dm Z0 c a1 a2 a3 a4 a5 a6) ν1, .inl none) ∧ zM s (dm Z0 c a1 a2 a3 a4 a5 a6) ∧ zMd Z0 (dm Z0 c a1 a2 a3 a4 a5 a6)
def zpY (Q : qz_Z → Prop) (ν ν1 : qz_N) (P : qz_Z × Int) : wz_R := fun μ2 o2 => ∃ ν2 : qz_N, (ν2 = ν ∨ ν2 = ν1) ∧ (μ2 = zm P.1 ν2 ∧ o2 = .inl (some (.inl (i3 P.2)))) ∧ Q P.1
theorem zc_Y {f : qz_Fn} {as : List qz_V} {μ : qz_M} {ν ν1 : qz_N} {Q : qz_Z → Prop} {P P0 : qz_Z × Int} (hP : P = P0) (h : wz_call f as μ (zpY Q ν ν1 P)) : ∃ (Z1 : qz_Z) (ν2 : qz_N) (v : Int), (Z1, v) = P0 ∧ (ν2 = ν ∨ ν2 = ν1) ∧ f as μ = some (zm Z1 ν2, .inl (some (.inl (i3 v)))) ∧ Q Z1 := by
  obtain ⟨μ', o, e, ν2, h0, ⟨h1, h2⟩, h3⟩ := h
  exact ⟨P.1, ν2, P.2, hP, h0, by rw [e, h1, h2], h3⟩
theorem zlY {Z : qz_Z} {ν ν1 ν2 : qz_N} {Q : qz_Z → Prop} {P : qz_Z × Int} {e : Int} {v : Int32} (hP : zE P (Z, e)) (p : v = i3 e) (hn : ν2 = ν ∨ ν2 = ν1) (h : Q Z) : zpY Q ν ν1 P (zm Z ν2) (.inl (some (.inl v))) := by cases hP; subst p; exact ⟨ν2, hn, ⟨rfl, rfl⟩, h⟩
