/-! a sale and ageing, told of the class alone -/
theorem zbad {a n c : Int} (a0 : 0 ≤ a) (n1 : 0 ≤ n) (n2 : n ≤ c) (c1 : 1 ≤ c) : 0 ≤ a * n / c ∧ a * n / c ≤ a := by
  refine ⟨Int.ediv_nonneg (Int.mul_nonneg a0 n1) (by omega), ?_⟩
  exact Int.ediv_le_of_le_mul (by omega) (Int.mul_le_mul_of_nonneg_left n2 a0)
/-- what it takes to be the taker -/
def zTk (b p pr : Int) (Z : qz_Z) (o : Int) : Prop := Z 11 b 0 6 < 60 ∧ 1 ≤ Z 46 b o 6 ∧ (1 ≤ Z 44 b p 4 ∧ Z 44 b p 9 ≠ -1) ∧ pr ≤ w3 ((w3 ((Z 45 b (Z 46 b o 0) 1) + (Z 45 b (Z 46 b o 0) 3))) - (Z 45 b (Z 46 b o 0) 4))
theorem zl_34_p {b p pr : Int} {Z : qz_Z} (r1 : 1 ≤ pr) : ∀ (m : Nat) (x3 x4 x5 : Int), (zl_34_1 b b p pr m Z x3 x4 x5).1 = x3 ∨ zTk b p pr Z (zl_34_1 b b p pr m Z x3 x4 x5).1
  | 0, x3, x4, x5 => .inl rfl
  | m + 1, x3, x4, x5 => by
    unfold zl_34_1
    simp only [zlet]
    split
    · exact .inl rfl
    split
    · exact zl_34_p r1 m _ _ _
    split
    · exact zl_34_p r1 m _ _ _
    split
    · exact zl_34_p r1 m _ _ _
    rename_i g1 g2 g3 g4
    split
    · rename_i g5
      split
      · exact zl_34_p r1 m _ _ _
      · rename_i g6
        rcases zl_34_p r1 (Z := Z) (b := b) (p := p) m x5 (Z 46 b x5 4) (x5 + 1) with e | e
        · right
          rw [e]
          refine ⟨by omega, ?_, ?_, by omega⟩
          · unfold zf_14 at g3
            by_cases w : Z 46 b x5 6 ≤ 0
            · rw [if_pos w] at g3
              exact absurd rfl g3
            · omega
          · unfold zf_33 at g5
            by_cases w : Z 44 b p 4 ≤ 0
            · rw [if_pos w] at g5
              exact absurd rfl g5
            rw [if_neg w] at g5
            by_cases v : Z 44 b p 9 = -1
            · rw [if_pos v] at g5
              exact absurd rfl g5
            · exact ⟨by omega, v⟩
        · exact .inr e
    · exact zl_34_p r1 m _ _ _
theorem zf_34_p {b p pr : Int} {Z : qz_Z} (r1 : 1 ≤ pr) (h : zf_34 Z b b p pr ≠ -1) : zTk b p pr Z (zf_34 Z b b p pr) := by
  have g := zl_34_p (b := b) (p := p) (pr := pr) (Z := Z) r1 25 (-1) 0 0
  have e : zf_34 Z b b p pr = (zl_34_1 b b p pr 25 Z (-1) 0 0).1 := rfl
  rw [e] at h ⊢
  rcases g with g | g
  · exact absurd g h
  · exact g
theorem zf_9032_k {Z : qz_Z} {b c p o h n : Int} {k : Nat} {i j : Int} (hk : k = 11 ∧ j ≠ 6 ∧ j ≠ 12 ∨ k = 48 ∧ j = 4 ∨ k = 44 ∧ i ≠ p) : zf_9032 Z b c p o h n k b i j = Z k b i j := by
  unfold zf_9032
  simp only [zlet]
  rcases hk with ⟨rfl, hj, hj2⟩ | ⟨rfl, rfl⟩ | ⟨rfl, hi⟩
  · rw [zu_ne rfl (fun q => absurd q.1 (by decide)), zu_ne rfl (fun q => absurd q.1 (by decide)), zu_ne rfl (fun q => absurd q.1 (by decide)), zf_6_k ⟨by decide, by decide, by decide, fun _ => hj2⟩]
    simp [zuq, hj]
  · rw [zu_ne rfl (fun q => absurd q.2.2.2 (by decide)), zu_ne rfl (fun q => absurd q.2.2.2 (by decide)), zu_ne rfl (fun q => absurd q.2.2.2 (by decide)), zf_6_k ⟨by decide, by decide, by decide, fun e => absurd e (by decide)⟩]
    simp [zuq]
  · rw [zu_ne rfl (fun q => absurd q.1 (by decide)), zu_ne rfl (fun q => absurd q.1 (by decide)), zu_ne rfl (fun q => absurd q.1 (by decide)), zf_6_k ⟨by decide, by decide, by decide, fun e => absurd e (by decide)⟩]
    simp [zuq, hi]
theorem zf_6_K {Z : qz_Z} {b q : Int} {k : Nat} {i j : Int} (hk : zKbc k j = true ∨ zPbc k j = true) : zf_6 Z b b q k b i j = Z k b i j := zf_6_k (by
  refine ⟨?_, ?_, ?_, ?_⟩
  · rintro rfl
    rcases hk with h | h <;> cases h
  · rintro rfl
    rcases hk with h | h <;> cases h
  · rintro rfl
    rcases hk with h | h <;> cases h
  · rintro rfl rfl
    rcases hk with h | h <;> cases h)
theorem zKb_sell {Z : qz_Z} {b c p o h0 n : Int} (h : zKb (-1) b Z) (p0 : 0 ≤ p) (p1 : p < Z 11 b 0 3) (n1 : 1 ≤ n) (n2 : n ≤ Z 44 b p 4) (r0 : 0 ≤ h0) (r1 : h0 ≤ 9999) (g9 : Z 44 b p 9 ≠ -1) : zKb (-1) b (zf_9032 Z b c p o h0 n) := by
  have k := h.2.1
  have k3 := k.2.2.2.1
  have k13 := k.2.2.1
  obtain ⟨⟨a1, a2⟩, ⟨a3, a4⟩, ⟨a5, a6⟩, ⟨a7, a8⟩, ⟨a9, a10⟩, ⟨a11, a12⟩⟩ := k.1 p p0 (by omega)
  obtain ⟨b1, b2⟩ := zbad (a := Z 44 b p 5) (n := n) (c := Z 44 b p 4) a5 (by omega) n2 (by omega)
  unfold zf_9032
  simp only [zlet]
  refine zKb_u (zKb_u (zKb_u ?_ rfl) rfl) rfl
  refine zKb_e ?_ (fun k i j hk => zf_6_K (.inl hk))
  refine zKb_close (x := Z 11 b 0 6) (zKb_u (zKb_u (zKb_u (zKb_u (zKb_p (zKb_p (zKb_x (zKb_x (zKb_x (zKb_x (zKb_x (zKb_x (zKb_x (zKb_x (zKb_x (zKb_x (zKb_x (zKb_x (zKb_x (zKb_x (zKb_x (zKb_x (zKb_x (zKb_x (zKb_n h))))))))))))))))))) ?_) ?_) rfl) rfl) rfl) rfl) (fun q0 q1 => ⟨?_, ?_, ?_, ?_⟩)
  · left
    refine ⟨rfl, ?_⟩
    simp [zuq]
    omega
  · right
    left
    refine ⟨rfl, ?_⟩
    simp [zuq]
    omega
  all_goals simp [zKa, zKw, zKl, zKc, zuq]
  all_goals omega
/-- a parcel more: purses -/
theorem zPb_n {b : Int} {Z C : qz_Z} (h : zPb b Z) (hq : Z 11 b 0 6 < 60) (c6 : C 11 b 0 6 = Z 11 b 0 6 + 1) (c10 : C 11 b 0 10 = Z 11 b 0 10) (k : ∀ r, C 54 b r 2 = Z 54 b r 2) (rn : ∀ r, r ≠ Z 11 b 0 6 → C 47 b r 9 = Z 47 b r 9 ∧ C 47 b r 18 = Z 47 b r 18 ∧ C 47 b r 19 = Z 47 b r 19) (rq : C 47 b (Z 11 b 0 6) 9 = 0 ∧ 0 ≤ C 47 b (Z 11 b 0 6) 19 ∧ C 47 b (Z 11 b 0 6) 19 ≤ C 47 b (Z 11 b 0 6) 18 ∧ C 47 b (Z 11 b 0 6) 18 ≤ 399960) (b3 : ∀ i, C 45 b i 3 = Z 45 b i 3) : zPb b C := by
  have q0 := h.1.1
  have e : zPs b C = zPs b Z := by
    unfold zPs
    rw [c6, c10, zSi_s q0, zSi_e (g := fun q => if C 47 b q 9 = 3 then 1 else 0) (f := fun q => if Z 47 b q 9 = 3 then 1 else 0) (fun j _ j1 => by simp only [(rn j (by omega)).1])]
    simp only [k, rq.1]
    simp
  refine ⟨by rw [c6]; omega, by rw [c10]; exact h.2.1, fun r r0 r1 => ?_, fun i i0 i1 => ?_⟩
  · by_cases n : r = Z 11 b 0 6
    · rw [n]
      exact rq.2
    · rw [(rn r n).2.1, (rn r n).2.2]
      exact h.2.2.1 r r0 (by omega)
  · rw [e, b3]
    exact h.2.2.2 i i0 i1
theorem zPb_sell {Z : qz_Z} {b c p o h0 n : Int} (h : zPb b Z) (hq : Z 11 b 0 6 < 60) (n1 : 1 ≤ n) (n2 : n ≤ 40) (r0 : 0 ≤ h0) (r1 : h0 ≤ 9999) : zPb b (zf_9032 Z b c p o h0 n) := by
  have m0 : 0 ≤ n * h0 := Int.mul_nonneg (by omega) r0
  have m1 : n * h0 ≤ 40 * 9999 := Int.le_trans (Int.mul_le_mul_of_nonneg_right n2 r0) (Int.mul_le_mul_of_nonneg_left r1 (by omega))
  unfold zf_9032
  simp only [zlet]
  refine zPb_u (zPb_u (zPb_u ?_ rfl) rfl) rfl
  refine zPb_e ?_ (fun k i j hk => zf_6_K (.inr hk))
  refine zPb_n h hq ?_ ?_ (fun r => ?_) (fun r ne => ⟨?_, ?_, ?_⟩) ⟨?_, ?_, ?_, ?_⟩ (fun i => ?_)
  all_goals simp [zuq, *]
  all_goals omega
/-- the loop of a clock -/
theorem zK4_73l {b c p start res st : Int} (p0 : 0 ≤ p) (s1 : 1 ≤ st) (r1 : 1 ≤ res) (s9 : start ≤ 9999) : ∀ (m : Nat) (Z : qz_Z) (x9 x10 : Int), zK4 b Z → p < Z 11 b 0 3 → 0 ≤ Z 48 b c 4 → 0 ≤ x10 → res ≤ x9 → x9 ≤ start → res ≤ start → zK4 b (zl_73_1 b c p c p start res st m Z x9 x10).1
  | 0, Z, x9, x10, h, _, _, _, _, _, _ => h
  | m + 1, Z, x9, x10, h, p1, c4, x0, hx, hs, rs => by
    rw [zl_73s]
    split
    · exact h
    split
    · exact h
    rename_i g1 g2
    have hh : res ≤ (if x10 ≤ 0 then x9 else min (x9 + Z 48 b c 4 * st) start) ∧ (if x10 ≤ 0 then x9 else min (x9 + Z 48 b c 4 * st) start) ≤ start := by
      have m0 : 0 ≤ Z 48 b c 4 * st := Int.mul_nonneg c4 (by omega)
      split <;> omega
    generalize (if x10 ≤ 0 then x9 else min (x9 + Z 48 b c 4 * st) start) = h0 at hh ⊢
    obtain ⟨hh1, hh2⟩ := hh
    unfold zg_73
    have m1 := zediv (a := h0 - res) s1
    have mo0 : 0 ≤ (h0 - res) / st := Int.ediv_nonneg (by omega) (by omega)
    have f0 : 0 ≤ (max 0 (h0 - zf_26 Z b b p) + st - 1) / st := Int.ediv_nonneg (by omega) (by omega)
    generalize (max 0 (h0 - zf_26 Z b b p) + st - 1) / st = f at f0 ⊢
    generalize (h0 - res) / st = mo at m1 mo0 ⊢
    split
    · rename_i fm
      rw [show min mo f = f by omega]
      have cm : st * f = f * st := Int.mul_comm st f
      have g3 : f * st ≤ mo * st := Int.mul_le_mul_of_nonneg_right fm (by omega)
      have g4 : 0 ≤ f * st := Int.mul_nonneg f0 (by omega)
      rw [cm]
      have hr : res ≤ h0 - f * st := by omega
      have hr2 : h0 - f * st ≤ start := by omega
      generalize h0 - f * st = hd at hr hr2 ⊢
      split
      · rename_i ho
        obtain ⟨t1, t2, ⟨t3, t4⟩, t5⟩ := zf_34_p (b := b) (p := p) (pr := hd) (Z := Z) (by omega) ho
        generalize zf_34 Z b b p hd = o at t1 t2 t3 t4 t5 ⊢
        have L1 : 1 ≤ w3 ((w3 ((Z 45 b (Z 46 b o 0) 1) + (Z 45 b (Z 46 b o 0) 3))) - (Z 45 b (Z 46 b o 0) 4)) / hd := Int.le_ediv_of_mul_le (by omega) (by omega)
        generalize w3 ((w3 ((Z 45 b (Z 46 b o 0) 1) + (Z 45 b (Z 46 b o 0) 3))) - (Z 45 b (Z 46 b o 0) 4)) / hd = L at L1 ⊢
        have c40 := (h.2.2.2.1.1 p p0 (by have := h.2.2.2.1.2.2.2.1; omega)).2.1
        have hn : 1 ≤ min L (min (Z 44 b p 4) (Z 46 b o 6)) ∧ min L (min (Z 44 b p 4) (Z 46 b o 6)) ≤ Z 44 b p 4 := by omega
        generalize min L (min (Z 44 b p 4) (Z 46 b o 6)) = n at hn ⊢
        refine zK4_73l p0 s1 r1 s9 m _ hd (x10 + 1) ⟨zDb_sell h.1 h.2.1.1.1, zPb_sell h.2.1 t1 hn.1 (by omega) (by omega) (by omega), zKb_sell h.2.2 p0 p1 hn.1 hn.2 (by omega) (by omega) t4⟩ ?_ ?_ (by omega) hr hr2 rs
        · rw [zf_9032_k (.inl ⟨rfl, by decide, by decide⟩)]
          exact p1
        · rw [zf_9032_k (.inr (.inl ⟨rfl, rfl⟩))]
          exact c4
      · exact h
    · exact h
theorem zK4_73 {b c : Int} {Z : qz_Z} (h : zK4 b Z) (p0 : 0 ≤ Z 49 b (12 * c) 0) (p1 : Z 49 b (12 * c) 0 < Z 11 b 0 3) (c4 : 0 ≤ Z 48 b c 4) (r1 : 1 ≤ Z 49 b (12 * c) 2) (rs : Z 49 b (12 * c) 2 ≤ Z 49 b (12 * c) 1) (s9 : Z 49 b (12 * c) 1 ≤ 9999) : zK4 b (zf_73 Z b c) := by
  have e3 : ∀ {α : Type} (q : qz_Z × Int × Int) (kk : qz_Z → Int → Int → α), zlet3 q kk = kk q.1 q.2.1 q.2.2 := fun _ _ => rfl
  have g := zK4_73l (c := c) p0 (show 1 ≤ max 1 (Z 48 b c 3) by omega) r1 s9 41 Z (Z 49 b (12 * c) 1) 0 h p1 c4 (by omega) rs (by omega) rs
  have o : ∀ {Y : qz_Z} {j v : Int}, (j = 6 ∨ j = 7 ∨ j = 8) → zK4 b Y → zK4 b (zu Y 48 b c j v) := fun hj hy => by
    rcases hj with rfl | rfl | rfl
    · exact ⟨zDb_u hy.1 rfl, zPb_u hy.2.1 rfl, zKb_u hy.2.2 rfl⟩
    · exact ⟨zDb_u hy.1 rfl, zPb_u hy.2.1 rfl, zKb_u hy.2.2 rfl⟩
    · exact ⟨zDb_u hy.1 rfl, zPb_u hy.2.1 rfl, zKb_u hy.2.2 rfl⟩
  unfold zf_73
  simp only [zlet, e3]
  exact z69_P (P := zK4 b) (fun _ _ _ _ _ e h => zK4_u e h) (zK4_44 (.inr (.inl rfl)) (o (.inr (.inr rfl)) (o (.inr (.inl rfl)) (o (.inl rfl) g))))
/-- other pallets aren't touched -/
theorem z44_73 {b c : Int} {Z : qz_Z} {r j : Int} (hr : r ≠ Z 49 b (12 * c) 0) : zf_73 Z b c 44 b r j = Z 44 b r j := by
  have e3 : ∀ {α : Type} (q : qz_Z × Int × Int) (kk : qz_Z → Int → Int → α), zlet3 q kk = kk q.1 q.2.1 q.2.2 := fun _ _ => rfl
  have lp : ∀ (m : Nat) (C : qz_Z) (start res st x9 x10 : Int), C 44 b r j = Z 44 b r j → (zl_73_1 b c (Z 49 b (12 * c) 0) c (Z 49 b (12 * c) 0) start res st m C x9 x10).1 44 b r j = Z 44 b r j := fun m => by
    induction m with
    | zero => exact fun _ _ _ _ _ _ h => h
    | succ m ih =>
      intro C start res st x9 x10 h
      rw [zl_73s]
      split
      · exact h
      split
      · exact h
      generalize (if x10 ≤ 0 then x9 else min (x9 + C 48 b c 4 * st) start) = h0
      unfold zg_73
      split
      · split
        · exact ih _ _ _ _ _ _ ((zf_9032_k (.inr (.inr ⟨rfl, hr⟩))).trans h)
        · exact h
      · exact h
  unfold zf_73
  simp only [zlet, e3]
  refine z69_P (P := fun C => C 44 b r j = Z 44 b r j) (fun C kk ii jj v e h => (zu_ne rfl (fun q => by rw [← q.1] at e; cases e)).trans h) ?_
  rw [zu_ne rfl (fun q => hr q.2.2.1), zu_ne rfl (fun q => absurd q.1 (by decide)), zu_ne rfl (fun q => absurd q.1 (by decide)), zu_ne rfl (fun q => absurd q.1 (by decide))]
  exact lp _ _ _ _ _ _ _ rfl
/-! an hour's ageing -/
theorem z168_P {P : qz_Z → Prop} {b : Int} (hu : ∀ Z i j v, P Z → P (zu Z 43 b i j v)) {r w : Int} {Z : qz_Z} (h : P Z) : P (zf_168 Z b r w) := by
  unfold zf_168
  simp only [zlet]
  repeat' split
  all_goals first
    | exact hu _ _ _ _ (hu _ _ _ _ (hu _ _ _ _ (hu _ _ _ _ h)))
    | exact hu _ _ _ _ (hu _ _ _ _ h)
theorem zl171_1P {P : qz_Z → Prop} {b w : Int} (hu : ∀ Z i j v, P Z → P (zu Z 43 b i j v)) : ∀ (m : Nat) (Z : qz_Z) (x : Int), P Z → P (zl_171_1 b w m Z x).1
  | 0, Z, x, h => h
  | m + 1, Z, x, h => by
    unfold zl_171_1
    split
    · exact h
    · simp only [zlet]
      exact zl171_1P hu m _ _ (z168_P hu h)
theorem zpmx {p w : Int} (h : 0 ≤ p) : 0 ≤ p * max 0 w / 8 := Int.ediv_nonneg (Int.mul_nonneg h (by omega)) (by omega)
theorem zKb_171_2 {b w : Int} : ∀ (m : Nat) (Z : qz_Z) (x : Int), 0 ≤ x → zKb (-1) b Z → zKb (-1) b (zl_171_2 b w m Z x).1
  | 0, Z, x, x0, h => h
  | m + 1, Z, x, x0, h => by
    unfold zl_171_2
    split
    · exact h
    rename_i g1
    split
    · exact zKb_171_2 m Z _ (by omega) h
    have c3 := h.2.1.2.2.2.1
    obtain ⟨a1, a4, a5, a7, a8, a9⟩ := h.2.1.1 x x0 (by omega)
    have s0 := (h.2.1.2.1 (Z 44 b x 1) a1.1 (by omega)).1
    have st : ∀ {v u : Int}, Z 44 b x 7 ≤ v → v ≤ 2000 → 0 ≤ u → u ≤ 999 → zKb (-1) b (zu (zu Z 44 b x 7 v) 44 b x 8 u) := fun v0 v1 u0 u1 => zKb_p (zKb_p h (.inr (.inr (.inl ⟨rfl, v0, by omega, v1⟩)))) (.inr (.inr (.inr (.inl ⟨rfl, u0, u1⟩))))
    have e8 : ∀ v : Int, zu Z 44 b x 7 v 44 b x 8 = Z 44 b x 8 := fun v => zu_ne rfl (fun q => absurd q.2.2.2 (by decide))
    split
    · have q := zpmx (w := Z 43 b (Z 44 b x 12) 5 - Z 41 b (Z 44 b x 1) 1) s0
      split
      · simp only [zlet]
        split
        · exact zKb_171_2 m _ _ (by omega) (st (by omega) (by omega) (by rw [e8]; omega) (by rw [e8]; omega))
        · exact zKb_171_2 m _ _ (by omega) (st (by omega) (by omega) (by rw [e8]; omega) (by rw [e8]; omega))
      · simp only [zlet]
        split
        · exact zKb_171_2 m _ _ (by omega) (st (by omega) (by omega) (by rw [e8]; omega) (by rw [e8]; omega))
        · exact zKb_171_2 m _ _ (by omega) (st (by omega) (by omega) (by rw [e8]; omega) (by rw [e8]; omega))
    · have q := zpmx (w := w - Z 41 b (Z 44 b x 1) 1) s0
      simp only [zlet]
      split
      · exact zKb_171_2 m _ _ (by omega) (st (by omega) (by omega) (by rw [e8]; omega) (by rw [e8]; omega))
      · exact zKb_171_2 m _ _ (by omega) (st (by omega) (by omega) (by rw [e8]; omega) (by rw [e8]; omega))
theorem zKb_171_3 {b : Int} : ∀ (m : Nat) (Z : qz_Z) (x : Int), 0 ≤ x → zKb (-1) b Z → zKb (-1) b (zl_171_3 b m Z x).1
  | 0, Z, x, x0, h => h
  | m + 1, Z, x, x0, h => by
    unfold zl_171_3
    split
    · exact h
    rename_i g1
    split
    · exact zKb_171_3 m Z _ (by omega) h
    rename_i g2
    have s1 : Z 47 b x 9 = 1 := Classical.not_not.mp g2
    obtain ⟨⟨⟨a1, a2⟩, ⟨a3, a4⟩, ⟨a5, a6⟩, ⟨a7, a8⟩, ⟨a9, b1⟩, b2, b3, b4⟩, _, gl, _⟩ := h.1 x x0 (by omega) (by omega)
    obtain ⟨⟨l1, l2, l3⟩, ⟨l4, l5, l6⟩, l7, l8⟩ := gl s1
    have c3 := h.2.1.2.2.2.1
    obtain ⟨d1, _⟩ := h.2.1.1 (Z 47 b x 0) a1 (by omega)
    have s0 := (h.2.1.2.1 (Z 44 b (Z 47 b x 0) 1) d1.1 (by omega)).1
    have o := zKb_open (x := x) h (by omega)
    have q := zpmx (w := Z 50 b (Z 47 b x 10) 1 - Z 41 b (Z 44 b (Z 47 b x 0) 1) 1) s0
    have st : ∀ {v u : Int}, Z 47 b x 11 ≤ v → v ≤ 2000 → Z 47 b x 12 ≤ u → u ≤ 999 → zKb (-1) b (zu (zu Z 47 b x 11 v) 47 b x 12 u) := fun v0 v1 u0 u1 => by
      refine zKb_close (zKb_x (zKb_x o)) (fun _ _ => ⟨?_, ?_, ?_, ?_⟩)
      all_goals simp [zKa, zKw, zKl, zKc, zuq]
      all_goals omega
    have e8 : ∀ v : Int, zu Z 47 b x 11 v 47 b x 12 = Z 47 b x 12 := fun v => zu_ne rfl (fun q => absurd q.2.2.2 (by decide))
    simp only [zlet]
    split
    · exact zKb_171_3 m _ _ (by omega) (st (by omega) (by omega) (by rw [e8]; omega) (by rw [e8]; omega))
    · exact zKb_171_3 m _ _ (by omega) (st (by omega) (by omega) (by rw [e8]; omega) (by rw [e8]; omega))
theorem zKb_171 {b : Int} {Z : qz_Z} (h : zKb (-1) b Z) : zKb (-1) b (zf_171 Z b) := by
  unfold zf_171
  simp only [zlet, zlet2]
  exact zKb_171_3 _ _ _ (Int.le_refl 0) (zKb_171_2 _ _ _ (Int.le_refl 0) (zl171_1P (P := zKb (-1) b) (fun _ _ _ _ h => zKb_u h rfl) _ _ _ h))
/-- rows beyond the counts -/
theorem z44_171 {b : Int} {Z : qz_Z} {p j : Int} (hp : Z 11 b 0 3 ≤ p) : zf_171 Z b 44 b p j = Z 44 b p j := by
  have l2 : ∀ (m : Nat) (C : qz_Z) (x w : Int), C 11 b 0 3 = Z 11 b 0 3 → C 44 b p j = Z 44 b p j → (zl_171_2 b w m C x).1 44 b p j = Z 44 b p j := fun m => by
    induction m with
    | zero => exact fun _ _ _ _ h => h
    | succ m ih =>
      intro C x w h3 h
      unfold zl_171_2
      split
      · exact h
      rename_i g1
      have n : p ≠ x := by omega
      have st : ∀ {v u : Int}, zu (zu C 44 b x 7 v) 44 b x 8 u 44 b p j = Z 44 b p j := fun {v u} => (zu_ne rfl (fun q => n q.2.2.1)).trans ((zu_ne rfl (fun q => n q.2.2.1)).trans h)
      have s3 : ∀ {v u : Int}, zu (zu C 44 b x 7 v) 44 b x 8 u 11 b 0 3 = Z 11 b 0 3 := fun {v u} => (zu_ne rfl (fun q => absurd q.1 (by decide))).trans ((zu_ne rfl (fun q => absurd q.1 (by decide))).trans h3)
      split
      · exact ih _ _ _ h3 h
      split
      · split
        · simp only [zlet]
          split
          · exact ih _ _ _ s3 st
          · exact ih _ _ _ s3 st
        · simp only [zlet]
          split
          · exact ih _ _ _ s3 st
          · exact ih _ _ _ s3 st
      · simp only [zlet]
        split
        · exact ih _ _ _ s3 st
        · exact ih _ _ _ s3 st
  have l3 : ∀ (m : Nat) (C : qz_Z) (x : Int), C 44 b p j = Z 44 b p j → (zl_171_3 b m C x).1 44 b p j = Z 44 b p j := fun m => by
    induction m with
    | zero => exact fun _ _ h => h
    | succ m ih =>
      intro C x h
      unfold zl_171_3
      split
      · exact h
      split
      · exact ih _ _ h
      · simp only [zlet]
        split
        · exact ih _ _ ((zu_ne rfl (fun q => absurd q.1 (by decide))).trans ((zu_ne rfl (fun q => absurd q.1 (by decide))).trans h))
        · exact ih _ _ ((zu_ne rfl (fun q => absurd q.1 (by decide))).trans ((zu_ne rfl (fun q => absurd q.1 (by decide))).trans h))
  unfold zf_171
  simp only [zlet, zlet2]
  have g1 := zl171_1P (P := fun C => C 11 b 0 3 = Z 11 b 0 3 ∧ C 44 b p j = Z 44 b p j) (b := b) (w := Z 12 b 0 (Z 11 b 0 13 / 24)) (fun C i jj v h => ⟨(zu_ne rfl (fun q => absurd q.1 (by decide))).trans h.1, (zu_ne rfl (fun q => absurd q.1 (by decide))).trans h.2⟩) 7 Z 0 ⟨rfl, rfl⟩
  exact l3 _ _ _ (l2 _ _ _ _ g1.1 g1.2)
theorem z43_171 {b : Int} {Z : qz_Z} {r j : Int} (hr : Z 11 b 0 2 ≤ r) : zf_171 Z b 43 b r j = Z 43 b r j := by
  have l1 : ∀ (m : Nat) (C : qz_Z) (x w : Int), C 11 b 0 2 = Z 11 b 0 2 → C 43 b r j = Z 43 b r j → (zl_171_1 b w m C x).1 43 b r j = Z 43 b r j := fun m => by
    induction m with
    | zero => exact fun _ _ _ _ h => h
    | succ m ih =>
      intro C x w h2 h
      unfold zl_171_1
      split
      · exact h
      rename_i g1
      have n : r ≠ x := by omega
      have e : zf_168 C b x w 11 b 0 2 = C 11 b 0 2 ∧ zf_168 C b x w 43 b r j = C 43 b r j := by
        unfold zf_168
        simp only [zlet]
        repeat' split
        all_goals exact ⟨by simp [zuq], by simp [zuq, n]⟩
      simp only [zlet]
      exact ih _ _ _ (e.1.trans h2) (e.2.trans h)
  have l2 : ∀ (m : Nat) (C : qz_Z) (x w : Int), (zl_171_2 b w m C x).1 43 b r j = C 43 b r j := fun m => by
    induction m with
    | zero => exact fun _ _ _ => rfl
    | succ m ih =>
      intro C x w
      unfold zl_171_2
      simp only [zlet]
      repeat' split
      all_goals first
        | rfl
        | rw [ih]
      all_goals simp [zuq]
  have l3 : ∀ (m : Nat) (C : qz_Z) (x : Int), (zl_171_3 b m C x).1 43 b r j = C 43 b r j := fun m => by
    induction m with
    | zero => exact fun _ _ => rfl
    | succ m ih =>
      intro C x
      unfold zl_171_3
      simp only [zlet]
      repeat' split
      all_goals first
        | rfl
        | rw [ih]
      all_goals simp [zuq]
  unfold zf_171
  simp only [zlet, zlet2]
  rw [l3, l2]
  exact l1 _ _ _ _ rfl rfl
