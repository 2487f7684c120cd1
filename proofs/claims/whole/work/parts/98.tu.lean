/-! trips asked for: the same with the best row in an array of its own -/
abbrev zTp (b n N : Int) (Z0 Y0 Z Y : qz_Z) (x : Int) : Prop := (zrE n Z Y N) ∧ (Y 1 0 0 24 = N) ∧ (Y 1 0 0 25 = x) ∧ (0 ≤ x → (∀ k : Int, 0 ≤ k → k < N → Z 69 0 0 k = Y 96 0 0 k) ∧ zwl (fun k => Y 96 0 0 k) N) ∧ (x = -1 ∨ (0 ≤ x ∧ x ≤ 100)) ∧ (∀ (k : Nat) (c i j : Int), ¬ (k = 200 ∧ c = n ∨ k = 69) → Z k c i j = Z0 k c i j) ∧ (∀ j : Int, N ≤ j → Z 69 0 0 j = Z0 69 0 0 j) ∧ (∀ (k : Nat) (c i j : Int), k ≠ 95 → k ≠ 96 → ¬ (k = 1 ∧ (j = 24 ∨ j = 25)) → Y k c i j = Y0 k c i j)
theorem zTp.row {b n N : Int} {Z0 Y0 Z Y : qz_Z} {x : Int} (t : zTp b n N Z0 Y0 Z Y x) : zrE n Z Y N := t.1
theorem zTp.n24 {b n N : Int} {Z0 Y0 Z Y : qz_Z} {x : Int} (t : zTp b n N Z0 Y0 Z Y x) : Y 1 0 0 24 = N := t.2.1
theorem zTp.n25 {b n N : Int} {Z0 Y0 Z Y : qz_Z} {x : Int} (t : zTp b n N Z0 Y0 Z Y x) : Y 1 0 0 25 = x := t.2.2.1
theorem zTp.best {b n N : Int} {Z0 Y0 Z Y : qz_Z} {x : Int} (t : zTp b n N Z0 Y0 Z Y x) : 0 ≤ x → (∀ k : Int, 0 ≤ k → k < N → Z 69 0 0 k = Y 96 0 0 k) ∧ zwl (fun k => Y 96 0 0 k) N := t.2.2.2.1
theorem zTp.xx {b n N : Int} {Z0 Y0 Z Y : qz_Z} {x : Int} (t : zTp b n N Z0 Y0 Z Y x) : x = -1 ∨ (0 ≤ x ∧ x ≤ 100) := t.2.2.2.2.1
theorem zTp.fz {b n N : Int} {Z0 Y0 Z Y : qz_Z} {x : Int} (t : zTp b n N Z0 Y0 Z Y x) : ∀ (k : Nat) (c i j : Int), ¬ (k = 200 ∧ c = n ∨ k = 69) → Z k c i j = Z0 k c i j := t.2.2.2.2.2.1
theorem zTp.rest {b n N : Int} {Z0 Y0 Z Y : qz_Z} {x : Int} (t : zTp b n N Z0 Y0 Z Y x) : ∀ j : Int, N ≤ j → Z 69 0 0 j = Z0 69 0 0 j := t.2.2.2.2.2.2.1
theorem zTp.fy {b n N : Int} {Z0 Y0 Z Y : qz_Z} {x : Int} (t : zTp b n N Z0 Y0 Z Y x) : ∀ (k : Nat) (c i j : Int), k ≠ 95 → k ≠ 96 → ¬ (k = 1 ∧ (j = 24 ∨ j = 25)) → Y k c i j = Y0 k c i j := t.2.2.2.2.2.2.2
theorem zTp_copy {b n N x v : Int} {Z0 Y0 Z Y : qz_Z} (t : zTp b n N Z0 Y0 Z Y x) (w : zwl (fun k => Y 95 0 0 k) N) (N1 : N ≤ 5) (v0 : 0 ≤ v) (v1 : v ≤ 100) : zTp b n N Z0 Y0 (zpy Z 200 n 0 69 0 0 0 N) (zl_511_2 6 (zu Y 1 0 0 25 v) 0).1 v := by
  have u24 : zu Y 1 0 0 25 v 1 0 0 24 = N := (zu_ne rfl (fun q => absurd q.2.2.2 (by decide))).trans t.n24
  obtain ⟨a1, a2, a3⟩ := zl_511_2r (N := N) 6 (zu Y 1 0 0 25 v) 0 (by omega) u24 (by omega)
  have y95 : ∀ k : Int, zu Y 1 0 0 25 v 95 0 0 k = Y 95 0 0 k := fun k => zu_ne rfl (fun q => absurd q.1 (by decide))
  have pn : ∀ (k : Nat) (c i j : Int), ¬ (k = 69 ∧ c = 0 ∧ i = 0 ∧ 0 ≤ j ∧ j < N) → zpy Z 200 n 0 69 0 0 0 N k c i j = Z k c i j := fun k c i j q => if_neg (fun e => q ⟨e.1, e.2.1, e.2.2.1, e.2.2.2.1, by have := e.2.2.2.2; omega⟩)
  refine ⟨fun k k0 k1 => ?_, ?_, ?_, fun _ => ⟨fun k k0 k1 => ?_, fun k k0 k1 => ?_⟩, .inr ⟨v0, v1⟩, fun k c i j q => ?_, fun j q => ?_, fun k c i j q1 q2 q3 => ?_⟩
  · rw [pn _ _ _ _ (fun q => absurd q.1 (by decide)), a3 _ _ _ _ (by decide), y95]
    exact t.row k k0 k1
  · rw [a3 _ _ _ _ (by decide)]
    exact u24
  · rw [a3 _ _ _ _ (by decide)]
    exact zu_at rfl
  · rw [a1 k k0 k1, y95, show zpy Z 200 n 0 69 0 0 0 N 69 0 0 k = Z 200 n 0 (k - 0) from if_pos ⟨rfl, rfl, rfl, k0, by omega⟩, Int.sub_zero]
    exact t.row k k0 k1
  · show 0 ≤ (zl_511_2 6 (zu Y 1 0 0 25 v) 0).1 96 0 0 k ∧ (zl_511_2 6 (zu Y 1 0 0 25 v) 0).1 96 0 0 k < 5 ∧ (1 ≤ k → (zl_511_2 6 (zu Y 1 0 0 25 v) 0).1 96 0 0 k ≠ (zl_511_2 6 (zu Y 1 0 0 25 v) 0).1 96 0 0 (k - 1))
    rw [a1 k k0 k1, y95]
    refine ⟨(w k k0 k1).1, (w k k0 k1).2.1, fun q => ?_⟩
    rw [a1 (k - 1) (by omega) (by omega), y95]
    exact (w k k0 k1).2.2 q
  · rw [pn _ _ _ _ (fun e => q (.inr e.1))]
    exact t.fz k c i j q
  · rw [pn _ _ _ _ (fun e => by omega)]
    exact t.rest j q
  · rw [a3 _ _ _ _ q2, zu_ne rfl (fun e => q3 ⟨e.1, .inr e.2.2.2⟩)]
    exact t.fy k c i j q1 q2 q3
theorem zTp_next {b n N x : Int} {Z0 Y0 Z Y : qz_Z} (t : zTp b n N Z0 Y0 Z Y x) (N0 : 1 ≤ N) : zTp b n N Z0 Y0 (zf_1070 Z n N).1 (zf_522 Y).1 x ∧ (zf_1070 Z n N).2 = (zf_522 Y).2 := by
  obtain ⟨a1, a2, a3, a4, a5⟩ := rr_1070 t.row t.n24 N0
  refine ⟨⟨a1, ?_, ?_, fun q => ⟨fun k k0 k1 => ?_, ?_⟩, t.xx, fun k c i j q => ?_, fun j q => ?_, fun k c i j q1 q2 q3 => ?_⟩, a4⟩
  · rw [a3 _ _ _ _ (by decide)]
    exact t.n24
  · rw [a3 _ _ _ _ (by decide)]
    exact t.n25
  · rw [a3 _ _ _ _ (by decide), a2 _ _ _ _ (fun e => absurd e.1 (by decide))]
    exact (t.best q).1 k k0 k1
  · simp only [a3 96 _ _ _ (by decide)]
    exact (t.best q).2
  · rw [a2 _ _ _ _ (fun e => q (.inl e))]
    exact t.fz k c i j q
  · rw [a2 _ _ _ _ (fun e => absurd e.1 (by decide))]
    exact t.rest j q
  · rw [a3 _ _ _ _ q1]
    exact t.fy k c i j q1 q2 q3
theorem rl_56_2 {b n N : Int} {Z0 Y0 : qz_Z} (hD : zDv b Z0 Y0) : ∀ (r : List (List Int)) (l : List Int) (m m' : Nat) (Z Y : qz_Z) (x x7 : Int), ztc (l :: r) = true → N = l.length → x7 + r.length < 120 → r.length + 2 ≤ m → r.length + 2 ≤ m' → zrE n Z (ztk l) N → zTp b n N Z0 Y0 Z Y x → zTp b n N Z0 Y0 (zl_56_2 b n N m Z x 1 x7).1 (zl_511_4 m' Y 1).1 (zl_56_2 b n N m Z x 1 x7).2.1 ∧ 0 ≤ (zl_56_2 b n N m Z x 1 x7).2.1
  | r, l, 0, _, _, _, _, _, _, _, _, _, _, _, _ => by omega
  | r, l, m + 1, 0, _, _, _, _, _, _, _, _, _, _, _ => by omega
  | r, l, m + 1, m' + 1, Z, Y, x, x7, hc, e, h7, hm, hm', hl, t => by
    have hc1 : ztw l = true := by
      unfold ztc at hc
      exact (Bool.and_eq_true_iff.mp hc).1
    have hc2 := hc
    unfold ztc at hc2
    replace hc2 := (Bool.and_eq_true_iff.mp hc2).2
    obtain ⟨w, N0, N1⟩ := ztw_i (f := fun k => Y 95 0 0 k) hc1 e (fun k k0 k1 => (t.row k k0 k1).symm.trans (hl k k0 k1))
    have hDz : zDv b Z Y := fun i j i0 i1 j0 j1 ne => by
      rw [t.fz _ _ _ _ (fun q => by rcases q with q | q; exact absurd q.1 (by decide); exact absurd q (by decide)), t.fy _ _ _ _ (by decide) (by decide) (fun q => absurd q.1 (by decide))]
      exact hD i j i0 i1 j0 j1 ne
    obtain ⟨v1, v2, v3⟩ := rr_47 t.row hDz t.n24 w N0 N1
    have K : ∀ {Z1 Y1 : qz_Z} {x1 : Int}, 0 ≤ x1 → zrE n Z1 (ztk l) N → zTp b n N Z0 Y0 Z1 Y1 x1 → zTp b n N Z0 Y0 (zl_56_2 b n N m (zf_1070 Z1 n N).1 x1 (zf_1070 Z1 n N).2 (x7 + 1)).1 (zl_511_4 m' (zf_522 Y1).1 (zf_522 Y1).2).1 (zl_56_2 b n N m (zf_1070 Z1 n N).1 x1 (zf_1070 Z1 n N).2 (x7 + 1)).2.1 ∧ 0 ≤ (zl_56_2 b n N m (zf_1070 Z1 n N).1 x1 (zf_1070 Z1 n N).2 (x7 + 1)).2.1 := fun {Z1 Y1 x1} x0 g t1 => by
      obtain ⟨t2, t3⟩ := zTp_next t1 N0
      rw [← t3]
      match r, hc, hc2, h7, hm, hm' with
      | [], _, hc2, h7, hm, hm' =>
        have e24 : ztk l 1 0 0 24 = N := e.symm
        obtain ⟨a1, a2, a3, a4, a5⟩ := rr_1070 g e24 N0
        have z : (zf_1070 Z1 n N).2 = 0 := a4.trans (of_decide_eq_true hc2)
        rw [z]
        have c1 : zl_56_2 b n N m (zf_1070 Z1 n N).1 x1 0 (x7 + 1) = ((zf_1070 Z1 n N).1, x1, 0, x7 + 1) := by
          cases m with
          | zero => rfl
          | succ m =>
            unfold zl_56_2
            rw [if_pos rfl]
            split <;> rfl
        have c2 : zl_511_4 m' (zf_522 Y1).1 0 = ((zf_522 Y1).1, 0) := by
          cases m' with
          | zero => rfl
          | succ m' =>
            unfold zl_511_4
            rw [if_pos rfl]
        rw [c1, c2]
        exact ⟨t2, x0⟩
      | l' :: r', hc, hc2, h7, hm, hm' =>
        have s := Bool.and_eq_true_iff.mp hc2
        obtain ⟨s1, s2, s3⟩ := ztk_step g e N0 s.1
        rw [s1]
        simp only [List.length_cons] at h7 hm hm'
        exact rl_56_2 hD r' l' m m' _ _ x1 (x7 + 1) s.2 s3 (by omega) (by omega) (by omega) s2 t2
    have g : zrE n (zpy Z 200 n 0 69 0 0 0 N) (ztk l) N := fun k k0 k1 => by
      rw [show zpy Z 200 n 0 69 0 0 0 N 200 n 0 k = Z 200 n 0 k from if_neg (fun q => absurd q.1 (by decide))]
      exact hl k k0 k1
    unfold zl_56_2 zl_511_4
    rw [if_neg (by omega), if_neg (by omega), if_neg (by omega), v1, t.n25]
    generalize zf_514 Y = v at v1 v2 v3 ⊢
    have tc := zTp_copy t w N1 v2 v3
    simp only [zlet, zlet2]
    by_cases c : x = -1
    · rw [if_pos c, if_pos c]
      exact K v2 g tc
    rw [if_neg c, if_neg c]
    by_cases d : x ≤ v
    · rw [if_pos d, if_pos d]
      exact K (by rcases t.xx with q | q <;> omega) hl t
    · rw [if_neg d, if_neg d]
      exact K v2 g tc
termination_by r _ _ _ _ _ _ _ => r.length
theorem rl_56_1 {b n a : Int} {Z0 Y0 : qz_Z} : ∀ (m : Nat) (Z Y : qz_Z) (x4 x5 : Int), 0 ≤ x4 → x4 ≤ x5 → x5 ≤ 5 → 5 - x5 < (m : Int) → Y 1 0 0 24 = x4 → zrE n Z Y x4 → (∀ j : Int, 0 ≤ j → j < x5 → Z 69 0 0 j = -1) → (∀ (k : Nat) (c i j : Int), ¬ (k = 200 ∧ c = n ∨ k = 69) → Z k c i j = Z0 k c i j) → (∀ (k : Nat) (c i j : Int), k ≠ 95 → k ≠ 96 → ¬ (k = 1 ∧ (j = 24 ∨ j = 25)) → Y k c i j = Y0 k c i j) → (zl_511_1 a m Y x5).1 1 0 0 24 = (zl_56_1 b n a m Z x4 x5).2.1 ∧ zrE n (zl_56_1 b n a m Z x4 x5).1 (zl_511_1 a m Y x5).1 (zl_56_1 b n a m Z x4 x5).2.1 ∧ (∀ j : Int, 0 ≤ j → j < 5 → (zl_56_1 b n a m Z x4 x5).1 69 0 0 j = -1) ∧ (∀ (k : Nat) (c i j : Int), ¬ (k = 200 ∧ c = n ∨ k = 69) → (zl_56_1 b n a m Z x4 x5).1 k c i j = Z0 k c i j) ∧ (∀ (k : Nat) (c i j : Int), k ≠ 95 → k ≠ 96 → ¬ (k = 1 ∧ (j = 24 ∨ j = 25)) → (zl_511_1 a m Y x5).1 k c i j = Y0 k c i j)
  | 0, _, _, _, _, _, _, _, _, _, _, _, _, _ => by omega
  | m + 1, Z, Y, x4, x5, h0, h1, h2, h3, e, h, g, fz, fy => by
    unfold zl_56_1 zl_511_1
    by_cases c : 5 ≤ x5
    · rw [if_pos c, if_pos c]
      exact ⟨e, h, fun j j0 j1 => g j j0 (by omega), fz, fy⟩
    rw [if_neg c, if_neg c]
    simp only [zlet]
    have fz1 : ∀ (k : Nat) (c i j : Int), ¬ (k = 200 ∧ c = n ∨ k = 69) → zu Z 69 0 0 x5 (-1) k c i j = Z0 k c i j := fun k c i j q => (zu_ne rfl (fun r => q (.inr r.1))).trans (fz k c i j q)
    have g1 : ∀ j : Int, 0 ≤ j → j < x5 + 1 → zu Z 69 0 0 x5 (-1) 69 0 0 j = -1 := fun j j0 j1 => by
      by_cases d : j = x5
      · rw [d]
        exact zu_at rfl
      · exact (zu_ne rfl (fun r => d r.2.2.2)).trans (g j j0 (by omega))
    have h1' : zrE n (zu Z 69 0 0 x5 (-1)) Y x4 := fun k k0 k1 => (zu_ne rfl (fun r => absurd r.1 (by decide))).trans (h k k0 k1)
    by_cases d : z2 (fun x y => x &&& y) (z2 (fun x y => x >>> (y &&& 31)) a x5) 1 ≠ 1
    · rw [if_pos d, if_pos d]
      exact rl_56_1 m _ _ x4 (x5 + 1) h0 (by omega) (by omega) (by omega) e h1' g1 fz1 fy
    · rw [if_neg d, if_neg d, e]
      refine rl_56_1 m _ _ (x4 + 1) (x5 + 1) (by omega) (by omega) (by omega) (by omega) ?_ (fun k k0 k1 => ?_) (fun j j0 j1 => ?_) (fun k c i j q => ?_) (fun k c i j q1 q2 q3 => ?_)
      · rw [zu_at rfl, zu_ne rfl (fun r => absurd r.1 (by decide)), e]
      · rw [zu_ne (Z := zu Y 95 0 0 x4 x5) rfl (fun r => absurd r.1 (by decide))]
        by_cases q : k = x4
        · rw [q, zu_at rfl, zu_at rfl]
        · rw [zu_ne (Z := zu Z 69 0 0 x5 (-1)) rfl (fun r => q r.2.2.2), zu_ne (Z := Y) rfl (fun r => q r.2.2.2)]
          exact h1' k k0 (by omega)
      · rw [zu_ne (Z := zu Z 69 0 0 x5 (-1)) rfl (fun r => absurd r.1 (by decide))]
        exact g1 j j0 j1
      · rw [zu_ne (Z := zu Z 69 0 0 x5 (-1)) rfl (fun r => q (.inl ⟨r.1, r.2.1⟩))]
        exact fz1 k c i j q
      · rw [zu_ne (Z := zu Y 95 0 0 x4 x5) rfl (fun r => q3 ⟨r.1, .inl r.2.2.2⟩), zu_ne rfl (fun r => q1 r.1)]
        exact fy k c i j q1 q2 q3
theorem rr_56 {b n a : Int} {Z Y : qz_Z} (hD : zDv b Z Y) (a0 : 1 ≤ a) (a1 : a ≤ 31) : ∃ N x : Int, 1 ≤ N ∧ N ≤ 5 ∧ 0 ≤ x ∧ x ≤ 100 ∧ (zf_56 Z n b a).2.1 = n + 1 ∧ (zf_56 Z n b a).2.2 = x ∧ zf_511 Y a 1 0 0 24 = N ∧ zf_511 Y a 1 0 0 25 = x ∧ (∀ k : Int, 0 ≤ k → k < N → (zf_56 Z n b a).1 69 0 0 k = zf_511 Y a 96 0 0 k) ∧ zwl (fun k => zf_511 Y a 96 0 0 k) N ∧ (∀ j : Int, N ≤ j → j < 5 → (zf_56 Z n b a).1 69 0 0 j = -1) ∧ (∀ (k : Nat) (c i j : Int), ¬ (k = 200 ∧ c = n ∨ k = 69) → (zf_56 Z n b a).1 k c i j = Z k c i j) ∧ (∀ (k : Nat) (c i j : Int), k ≠ 95 → k ≠ 96 → ¬ (k = 1 ∧ (j = 24 ∨ j = 25)) → zf_511 Y a k c i j = Y k c i j) := by
  obtain ⟨m, rfl⟩ : ∃ m : Nat, a = m := ⟨a.toNat, by omega⟩
  have fz0 : ∀ (k : Nat) (c i j : Int), ¬ (k = 200 ∧ c = n ∨ k = 69) → zzi Z n k c i j = Z k c i j := fun k c i j q => if_neg (fun r => q (.inl r))
  have fy0 : ∀ (k : Nat) (c i j : Int), k ≠ 95 → k ≠ 96 → ¬ (k = 1 ∧ (j = 24 ∨ j = 25)) → zu Y 1 0 0 24 0 k c i j = Y k c i j := fun k c i j _ _ q => zu_ne rfl (fun r => q ⟨r.1, .inl r.2.2.2⟩)
  obtain ⟨p1, p2, p3, p4, p5⟩ := rl_56_1 (b := b) (n := n) (a := (m : Int)) (Z0 := Z) (Y0 := Y) 6 (zzi Z n) (zu Y 1 0 0 24 0) 0 0 (by omega) (by omega) (by omega) (by omega) (zu_at rfl) (fun k k0 k1 => by omega) (fun j j0 j1 => by omega) fz0 fy0
  obtain ⟨c1, c2, _, _, _⟩ := rl_56_1 (b := b) (n := n) (a := (m : Int)) (Z0 := Z) (Y0 := zt0) 6 (zzi Z n) zt0 0 0 (by omega) (by omega) (by omega) (by omega) rfl (fun k k0 k1 => by omega) (fun j j0 j1 => by omega) fz0 (fun _ _ _ _ _ _ _ => rfl)
  obtain ⟨l, r, s1, s2, s3, s4⟩ := zt_start (m := m) (by omega) (by omega)
  unfold zf_56 zf_511
  simp only [zlet, zlet2, zlet3, zlet4]
  generalize zl_56_1 b n (m : Int) 6 (zzi Z n) 0 0 = C at p1 p2 p3 p4 c1 c2 ⊢
  generalize (zl_511_1 (m : Int) 6 (zu Y 1 0 0 24 0) 0).1 = Y3 at p1 p2 p5 ⊢
  generalize (zl_511_1 (m : Int) 6 zt0 0).1 = Yc at c1 c2 s3 s4
  obtain ⟨Z7, N, y6⟩ := C
  have p1' : Y3 1 0 0 24 = N := p1
  have c1' : Yc 1 0 0 24 = N := c1
  have eN : N = l.length := c1'.symm.trans s3
  have hl : zrE n Z7 (ztk l) N := fun k k0 k1 => (c2 k k0 k1).trans (s4 k k0 (by omega))
  have hw : ztw l = true := by
    unfold ztc at s1
    exact (Bool.and_eq_true_iff.mp s1).1
  obtain ⟨_, N0, N1⟩ := ztw_i (f := fun k => ztk l 95 0 0 k) hw eN (fun _ _ _ => rfl)
  have y3 : ∀ (k : Nat) (c i j : Int), ¬ (k = 1 ∧ j = 25) → zu Y3 1 0 0 25 (-1) k c i j = Y3 k c i j := fun k c i j q => zu_ne rfl (fun r => q ⟨r.1, r.2.2.2⟩)
  have hD7 : zDv b Z7 (zu Y3 1 0 0 25 (-1)) := fun i j i0 i1 j0 j1 ne => by
    rw [show Z7 40 b i j = Z 40 b i j from p4 _ _ _ _ (fun q => by rcases q with q | q; exact absurd q.1 (by decide); exact absurd q (by decide)), y3 _ _ _ _ (fun q => absurd q.1 (by decide)), p5 _ _ _ _ (by decide) (by decide) (fun q => absurd q.1 (by decide))]
    exact hD i j i0 i1 j0 j1 ne
  have t0 : zTp b n N Z7 (zu Y3 1 0 0 25 (-1)) Z7 (zu Y3 1 0 0 25 (-1)) (-1) := by
    refine ⟨fun k k0 k1 => ?_, ?_, zu_at rfl, fun q => by omega, .inl rfl, fun _ _ _ _ _ => rfl, fun _ _ => rfl, fun _ _ _ _ _ _ _ => rfl⟩
    · rw [y3 _ _ _ _ (fun q => absurd q.1 (by decide))]
      exact p2 k k0 k1
    · rw [y3 _ _ _ _ (fun q => absurd q.2 (by decide))]
      exact p1'
  obtain ⟨t, x0⟩ := rl_56_2 (b := b) hD7 r l 121 3126 Z7 (zu Y3 1 0 0 25 (-1)) (-1) 0 s1 eN (by omega) (by omega) (by omega) hl t0
  show ∃ N1 x : Int, 1 ≤ N1 ∧ N1 ≤ 5 ∧ 0 ≤ x ∧ x ≤ 100 ∧ True ∧ (zl_56_2 b n N 121 Z7 (-1) 1 0).2.1 = x ∧ (zl_511_4 3126 (zu Y3 1 0 0 25 (-1)) 1).1 1 0 0 24 = N1 ∧ (zl_511_4 3126 (zu Y3 1 0 0 25 (-1)) 1).1 1 0 0 25 = x ∧ (∀ k : Int, 0 ≤ k → k < N1 → (zl_56_2 b n N 121 Z7 (-1) 1 0).1 69 0 0 k = (zl_511_4 3126 (zu Y3 1 0 0 25 (-1)) 1).1 96 0 0 k) ∧ zwl (fun k => (zl_511_4 3126 (zu Y3 1 0 0 25 (-1)) 1).1 96 0 0 k) N1 ∧ (∀ j : Int, N1 ≤ j → j < 5 → (zl_56_2 b n N 121 Z7 (-1) 1 0).1 69 0 0 j = -1) ∧ (∀ (k : Nat) (c i j : Int), ¬ (k = 200 ∧ c = n ∨ k = 69) → (zl_56_2 b n N 121 Z7 (-1) 1 0).1 k c i j = Z k c i j) ∧ (∀ (k : Nat) (c i j : Int), k ≠ 95 → k ≠ 96 → ¬ (k = 1 ∧ (j = 24 ∨ j = 25)) → (zl_511_4 3126 (zu Y3 1 0 0 25 (-1)) 1).1 k c i j = Y k c i j)
  generalize zl_56_2 b n N 121 Z7 (-1) 1 0 = C at t x0 ⊢
  generalize (zl_511_4 3126 (zu Y3 1 0 0 25 (-1)) 1).1 = M at t ⊢
  refine ⟨N, C.2.1, N0, N1, x0, ?_, trivial, rfl, t.n24, t.n25, (t.best x0).1, (t.best x0).2, fun j j0 j1 => ?_, fun k c i j q => ?_, fun k c i j q1 q2 q3 => ?_⟩
  · rcases t.xx with q | q
    · omega
    · exact q.2
  · rw [t.rest j j0]
    exact p3 j (by omega) j1
  · rw [t.fz k c i j q]
    exact p4 k c i j q
  · rw [t.fy k c i j q1 q2 q3, y3 _ _ _ _ (fun r => q3 ⟨r.1, .inr r.2⟩)]
    exact p5 k c i j q1 q2 q3
theorem rr_56z {b n : Int} {Z Y : qz_Z} (h5 : Z 40 b 5 5 = 0) : (zf_56 Z n b 0).2.2 = 0 ∧ zf_511 Y 0 1 0 0 25 = 0 ∧ (∀ (k : Nat) (c i j : Int), (k ≠ 200 ∧ k ≠ 69) → (zf_56 Z n b 0).1 k c i j = Z k c i j) ∧ (∀ j : Int, 0 ≤ j → j < 5 → (zf_56 Z n b 0).1 69 0 0 j = -1) ∧ zf_511 Y 0 1 0 0 24 = 0 ∧ (∀ (k : Nat) (c i j : Int), k ≠ 95 → k ≠ 96 → ¬ (k = 1 ∧ (j = 24 ∨ j = 25)) → zf_511 Y 0 k c i j = Y k c i j) := by
  have fz0 : ∀ (k : Nat) (c i j : Int), ¬ (k = 200 ∧ c = n ∨ k = 69) → zzi Z n k c i j = Z k c i j := fun k c i j q => if_neg (fun r => q (.inl r))
  have fy0 : ∀ (k : Nat) (c i j : Int), k ≠ 95 → k ≠ 96 → ¬ (k = 1 ∧ (j = 24 ∨ j = 25)) → zu Y 1 0 0 24 0 k c i j = Y k c i j := fun k c i j _ _ q => zu_ne rfl (fun r => q ⟨r.1, .inl r.2.2.2⟩)
  obtain ⟨p1, p2, p3, p4, p5⟩ := rl_56_1 (b := b) (n := n) (a := 0) (Z0 := Z) (Y0 := Y) 6 (zzi Z n) (zu Y 1 0 0 24 0) 0 0 (by omega) (by omega) (by omega) (by omega) (zu_at rfl) (fun k k0 k1 => by omega) (fun j j0 j1 => by omega) fz0 fy0
  obtain ⟨c1, c2, _, _, _⟩ := rl_56_1 (b := b) (n := n) (a := 0) (Z0 := Z) (Y0 := zt0) 6 (zzi Z n) zt0 0 0 (by omega) (by omega) (by omega) (by omega) rfl (fun k k0 k1 => by omega) (fun j j0 j1 => by omega) fz0 (fun _ _ _ _ _ _ _ => rfl)
  have c3 : (zl_511_1 0 6 zt0 0).1 1 0 0 24 = 0 := by decide +kernel
  rw [c3] at c1
  unfold zf_56 zf_511
  simp only [zlet, zlet2, zlet3, zlet4]
  generalize zl_56_1 b n 0 6 (zzi Z n) 0 0 = C at p1 p2 p3 p4 c1 c2 ⊢
  generalize (zl_511_1 0 6 (zu Y 1 0 0 24 0) 0).1 = Y3 at p1 p2 p5 ⊢
  rw [← c1] at p1 ⊢
  obtain ⟨Z7, N, y6⟩ := C
  have d : Z7 40 b 5 5 = 0 := (p4 _ _ _ _ (fun q => by rcases q with q | q; exact absurd q.1 (by decide); exact absurd q (by decide))).trans h5
  have k0 : zf_47 Z7 b n 0 = 0 := by
    unfold zf_47
    rw [zl_47_1, if_pos (by omega), zlet3, d]
    rfl
  have kp : zpy Z7 200 n 0 69 0 0 0 0 = Z7 := by
    funext k c i j
    exact if_neg (fun q => by have := q.2.2.2.2; have := q.2.2.2.1; omega)
  have k7 : zf_1070 Z7 n 0 = (Z7, 0) := by
    unfold zf_1070
    rw [zl_1070_1, if_pos (by omega), zlet, if_neg (by omega)]
  have e1 : zl_56_2 b n 0 121 Z7 (-1) 1 0 = (Z7, 0, 0, 1) := by
    rw [zl_56_2, if_neg (by omega), if_neg (by omega), zlet, if_pos rfl, kp, zlet, k7, zlet2, k0]
    rw [zl_56_2, if_neg (by omega), if_pos rfl]
    rfl
  have y24 : zu Y3 1 0 0 25 (-1) 1 0 0 24 = 0 := (zu_ne rfl (fun q => absurd q.2.2.2 (by decide))).trans p1
  have e2 : (zl_511_4 3126 (zu Y3 1 0 0 25 (-1)) 1).1 = zu (zu Y3 1 0 0 25 (-1)) 1 0 0 25 0 := by
    have v : zf_514 (zu Y3 1 0 0 25 (-1)) = 0 := by
      unfold zf_514
      rw [zlet3, y24, if_neg (by omega)]
    have u24 : zu (zu Y3 1 0 0 25 (-1)) 1 0 0 25 0 1 0 0 24 = 0 := (zu_ne rfl (fun q => absurd q.2.2.2 (by decide))).trans y24
    have v2 : zl_511_2 6 (zu (zu Y3 1 0 0 25 (-1)) 1 0 0 25 0) 0 = (zu (zu Y3 1 0 0 25 (-1)) 1 0 0 25 0, 0) := by
      rw [zl_511_2, u24, if_pos (by omega)]
    have v3 : zf_522 (zu (zu Y3 1 0 0 25 (-1)) 1 0 0 25 0) = (zu (zu Y3 1 0 0 25 (-1)) 1 0 0 25 0, 0) := by
      unfold zf_522
      rw [u24, zl_522_1, if_pos (by omega), zlet, if_neg (by omega)]
    rw [zl_511_4, if_neg (by omega), zlet, v, if_pos (zu_at rfl), zlet, v2, zlet2, v3, zlet2, zl_511_4, if_pos rfl]
  refine ⟨?_, ?_, fun k c i j q => ?_, fun j j0 j1 => ?_, ?_, fun k c i j q1 q2 q3 => ?_⟩
  · show (zl_56_2 b n 0 121 Z7 (-1) 1 0).2.1 = 0
    rw [e1]
  · rw [e2]
    exact zu_at rfl
  · show (zl_56_2 b n 0 121 Z7 (-1) 1 0).1 k c i j = _
    rw [e1]
    exact p4 k c i j (fun r => by rcases r with r | r; exact q.1 r.1; exact q.2 r)
  · show (zl_56_2 b n 0 121 Z7 (-1) 1 0).1 69 0 0 j = _
    rw [e1]
    exact p3 j j0 j1
  · rw [e2]
    exact (zu_ne rfl (fun q => absurd q.2.2.2 (by decide))).trans y24
  · rw [e2, zu_ne rfl (fun r => q3 ⟨r.1, .inr r.2.2.2⟩), zu_ne rfl (fun r => q3 ⟨r.1, .inr r.2.2.2⟩)]
    exact p5 k c i j q1 q2 q3
theorem zW_69 {b : Int} {L K : List Nat} {Z Y C M C' M' : qz_Z} (w : zW [] L K b Z Y C M) (fz : ∀ (k : Nat) (c i j : Int), k ≠ 200 → k ≠ 69 → C' k c i j = C k c i j) (fy : ∀ (k : Nat) (c i j : Int), k ≠ 95 → k ≠ 96 → ¬ (k = 1 ∧ (j = 24 ∨ j = 25)) → M' k c i j = M k c i j) : zW [] L K b Z Y C' M' := by
  have f2 : ∀ j : Int, M' 2 0 0 j = M 2 0 0 j := fun j => fy _ _ _ _ (by decide) (by decide) (fun q => absurd q.1 (by decide))
  refine ⟨zRx_0 (zR_e (zRx_1 w.1) (fun k i j hk => fz k b i j (fun q => by rw [q] at hk; cases hk) (fun q => by rw [q] at hk; cases hk)) f2), zV_e w.2.1 f2, zFc_t w.2.2.1 (L2 := []) ⟨fun k i j hk _ => fz _ _ _ _ (fun q => by rw [q] at hk; cases hk) (fun q => by rw [q] at hk; cases hk), fun k c i j h => fz _ _ _ _ (fun q => by rw [q] at h; rcases h with h | h; cases h.1; cases h) (fun q => by rw [q] at h; rcases h with h | h; cases h.1; cases h)⟩ (fun x hx => by cases hx), yFr_t w.2.2.2 (L2 := []) ⟨fun a _ => f2 a, fun _ => fy _ _ _ _ (by decide) (by decide) (fun q => by have := q.2; omega), fun k c i j hk => fy _ _ _ _ (fun q => by rw [q] at hk; cases hk) (fun q => by rw [q] at hk; cases hk) (fun q => ?_)⟩ (fun x hx => by cases hx)⟩
  rcases q with ⟨rfl, rfl | rfl⟩ <;> cases hk
theorem rf_250 {Z Y : qz_Z} {dm : qz_Z → Int → Int → Int → Int → Int → Int → Int → qz_Z} {n a1 a2 : Int} (hRa : zR 0 Z Y) (hV : zV Y) (hN4 : zN4 Y) (hDt : zDt 0 Z Y) (hDv : zDv 0 Z Y) (h5 : Z 40 0 5 5 = 0) {C : qz_Z × Int × Int} {M : qz_Z × Int} (hC : zE C (zx_250 Z n a1 a2)) (hM : zE M (zy_538 Y a1 a2)) : zPq [(24, 1), (13, 2)] Z Y dm C M := by
  have hc : C = _ := hC
  have hm : M = _ := hM
  unfold zx_250 at hc
  unfold zy_538 at hm
  have r8 := zRl_11_8 (a := 3200) hRa rfl
  have v8 := zVr_11_8 (a := 3200) hV rfl
  have q1 := zqY_u (t := 0) (zqY_0 (Y := Y))
  have q2 := zqY_u (t := 0) q1
  by_cases h1 : a1 < 0
  · rw [if_neg (by omega)] at hc
    rw [if_pos h1] at hm
    rw [hc, hm]
    exact zPq_e hRa hV zqY_0 (by decide)
  rw [if_neg h1] at hm
  by_cases h2 : Y 2 0 0 3200 - 1 < a1
  · rw [if_neg (by omega)] at hc
    rw [if_pos h2] at hm
    rw [hc, hm]
    exact zPq_e hRa hV zqY_0 (by decide)
  rw [if_neg h2] at hm
  rw [if_pos (by omega)] at hc
  rw [zlet] at hm
  by_cases h3 : a2 < 0
  · rw [if_neg (by omega)] at hc
    rw [if_pos h3] at hm
    rw [hc, hm]
    exact zPq_e hRa hV q1 (by decide)
  rw [if_neg h3] at hm
  by_cases h4 : 4 < a2
  · rw [if_neg (by omega)] at hc
    rw [if_pos h4] at hm
    rw [hc, hm]
    exact zPq_e hRa hV q1 (by decide)
  rw [if_neg h4] at hm
  rw [if_pos (show 0 ≤ a2 ∧ a2 ≤ 4 by omega)] at hc
  rw [zlet] at hm
  have y32 : zu (zu Y 1 0 0 2 0) 1 0 0 2 0 1 0 0 2 = 0 := zu_at rfl
  have S : ∀ {v v' : Int}, v = v' → zPq [(24, 1), (13, 2)] Z Y dm (Z, v, 0) (zu (zu Y 1 0 0 2 0) 1 0 0 2 0, v') := fun e => zPq_a hRa hV q1 e
  generalize zu (zu Y 1 0 0 2 0) 1 0 0 2 0 = Y' at hm q2 y32 S
  have R := zR_e hRa (fun _ _ _ _ => rfl) q2.1
  have V : zV Y' := zV_e hV q2.1
  have N4 : zN4 Y' := zN4_f hN4 q2.2.1 ⟨rfl, rfl, rfl⟩
  have Dt : zDt 0 Z Y' := zDt_f (L := []) hDt (fun _ _ _ _ _ => rfl) q2.2.1 rfl rfl
  have Dv : zDv 0 Z Y' := fun i j i0 i1 j0 j1 ne => by
    rw [q2.1]
    exact hDv i j i0 i1 j0 j1 ne
  have t0 : 0 ≤ a1 := by omega
  have t1 : a1 < 4 := by omega
  have tn : a1 < Y' 2 0 0 3200 := by
    rw [q2.1]
    omega
  have o2 := zRl_50_2 (x := a1) (a := 3252 + 24 * a1) R t0 t1 rfl
  have T : ∀ {x x' : Int} {Zt Yt : qz_Z}, (∀ (k : Nat) (c i j : Int), k ≠ 200 → k ≠ 69 → Zt k c i j = Z k c i j) → (∀ (k : Nat) (c i j : Int), k ≠ 95 → k ≠ 96 → ¬ (k = 1 ∧ (j = 24 ∨ j = 25)) → Yt k c i j = Y' k c i j) → x = x' → zPq [(24, 1), (13, 2)] Z Y dm (Zt, x, 0) (Yt, x') := fun {x x' Zt Yt} fz fy e => by
    have w : zW [] [] [99999] 0 Z Y Z Y' := ⟨zRx_0 R, V, zFc_r, q2.2⟩
    have w2 := zW_69 w fz fy
    refine ⟨zRx_1 w2.1, w2.2.1, ⟨Z, Y', .inl ⟨rfl, q2.2⟩, w2.2.2.1, ?_⟩, zThr_a ?_ e⟩
    · have w3_ := zW_69 (L := []) (K := [99999]) (Z := Z) (Y := Y') ⟨zRx_0 R, V, zFc_r, yFr_r⟩ fz fy
      exact w3_.2.2.2
    · show Yt 1 0 0 2 = 0
      rw [fy _ _ _ _ (by decide) (by decide) (fun q => by have := q.2; omega)]
      exact y32
  have n59 : zf_59 Z 0 a1 = zf_527 Y' a1 := rr_59 R V N4 t0 rfl rfl
  have hd := Dt a1 t0 t1 tn
  rw [o2] at hc
  by_cases o : Y' 2 0 0 (3252 + 24 * a1) ≠ 1
  · rw [if_pos o] at hc hm
    simp only [zlet, zlet3] at hc hm
    rw [n59] at hc
    obtain ⟨m0, m1, _⟩ := z527 (t := a1) V
    generalize zf_527 Y' a1 = a at m0 m1 hc hm
    by_cases z : a = 0
    · rw [z] at hc hm
      obtain ⟨g1, g2, g3, g4, g5, g6⟩ := rr_56z (b := 0) (n := n) (Z := Z) (Y := Y') h5
      rw [if_pos (by omega)] at hm
      rw [hc, hm]
      exact T (fun k c i j p q => g3 k c i j ⟨p, q⟩) g6 (g4 a2 (by omega) (by omega))
    · obtain ⟨N, x, _, _, _, _, _, _, f3, _, f5, _, f7, f8, f9⟩ := rr_56 (b := 0) (n := n) (a := a) (Z := Z) (Y := Y') Dv (by omega) m1
      rw [f3] at hm
      by_cases c : N ≤ a2
      · rw [if_pos c] at hm
        rw [hc, hm]
        exact T (fun k c i j p q => f8 k c i j (fun r => by rcases r with r | r; exact p r.1; exact q r)) f9 (f7 a2 c (by omega))
      · rw [if_neg c] at hm
        rw [hc, hm]
        exact T (fun k c i j p q => f8 k c i j (fun r => by rcases r with r | r; exact p r.1; exact q r)) f9 (f5 a2 (by omega) (by omega))
  · rw [if_neg o] at hc hm
    obtain ⟨_, _, g3⟩ := hd.1 (Classical.not_not.mp o)
    have g := g3 a2 (by omega) (by omega)
    by_cases c : Y' 2 0 0 (3258 + 24 * a1) ≤ a2
    · rw [if_pos c] at hm
      rw [hc, hm]
      exact S (g.2 c).1
    · rw [if_neg c] at hm
      rw [hc, hm]
      exact S (g.1 (by omega)).1
