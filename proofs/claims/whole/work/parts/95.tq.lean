/-! trips: the best row of all -/
def zwl (f : Int → Int) (N : Int) : Prop := ∀ k : Int, 0 ≤ k → k < N → 0 ≤ f k ∧ f k < 5 ∧ (1 ≤ k → f k ≠ f (k - 1))
theorem ztw_i {l : List Int} {N : Int} {f : Int → Int} (h : ztw l = true) (e : N = l.length) (g : ∀ k : Int, 0 ≤ k → k < N → f k = ztk l 95 0 0 k) : zwl f N ∧ 1 ≤ N ∧ N ≤ 5 := by
  unfold ztw at h
  simp only [Bool.and_eq_true, List.all_eq_true, Bool.or_eq_true, decide_eq_true_eq, List.mem_range, Nat.beq_eq_true_eq, Nat.ble_eq] at h
  obtain ⟨⟨⟨h1, h2⟩, h3⟩, h4⟩ := h
  refine ⟨fun k k0 k1 => ?_, by omega, by omega⟩
  obtain ⟨n, rfl⟩ : ∃ n : Nat, k = n := ⟨k.toNat, by omega⟩
  have hn : n < l.length := by omega
  have a := g n k0 k1
  have a2 : f n = l.getD n 0 := a
  have m : l.getD n 0 ∈ l := by
    rw [List.getD_eq_getElem?_getD, List.getElem?_eq_getElem hn]
    exact List.getElem_mem hn
  have b := h1 _ m
  refine ⟨by omega, by omega, fun q => ?_⟩
  have c := g ((n : Int) - 1) (by omega) (by omega)
  have c2 : f ((n : Int) - 1) = l.getD (n - 1) 0 := by
    rw [c, show (n : Int) - 1 = ((n - 1 : Nat) : Int) by omega]
    rfl
  rw [a2, c2]
  rcases h2 n hn with d | d
  · have := Nat.eq_of_beq_eq_true d
    omega
  · exact d
theorem zl_47_c {b c c' N : Int} {Z Z' : qz_Z} (h : ∀ k : Int, 0 ≤ k → k < N → Z' 200 c' 0 k = Z 200 c 0 k) (g : ∀ i j : Int, Z' 40 b i j = Z 40 b i j) : ∀ (m : Nat) (x3 x4 x5 : Int), 0 ≤ x5 → zl_47_1 b c' N m Z' x3 x4 x5 = zl_47_1 b c N m Z x3 x4 x5
  | 0, _, _, _, _ => rfl
  | m + 1, x3, x4, x5, h0 => by
    unfold zl_47_1
    by_cases q : N ≤ x5
    · rw [if_pos q, if_pos q]
    · rw [if_neg q, if_neg q, h x5 h0 (by omega), g]
      exact zl_47_c h g m _ _ _ (by omega)
theorem zf_47_c {b c c' N : Int} {Z Z' : qz_Z} (h : ∀ k : Int, 0 ≤ k → k < N → Z' 200 c' 0 k = Z 200 c 0 k) (g : ∀ i j : Int, Z' 40 b i j = Z 40 b i j) : zf_47 Z' b c' N = zf_47 Z b c N := by
  unfold zf_47
  rw [zl_47_c h g 6 0 5 0 (by omega), zlet3, zlet3, g]
abbrev zTq (b n b2 N : Int) (Z0 Y0 Z Y : qz_Z) (x : Int) : Prop := (zrE n Z Y N) ∧ (Y 1 0 0 24 = N) ∧ (Y 1 0 0 25 = x) ∧ (0 ≤ x → (∀ k : Int, 0 ≤ k → k < N → Z 200 b2 0 k = Y 96 0 0 k) ∧ zwl (fun k => Y 96 0 0 k) N) ∧ (x = -1 ∨ (0 ≤ x ∧ x ≤ 100)) ∧ (∀ (k : Nat) (c i j : Int), ¬ (k = 200 ∧ (c = n ∨ c = b2)) → Z k c i j = Z0 k c i j) ∧ (∀ j : Int, N ≤ j → Z 200 b2 0 j = Z0 200 b2 0 j) ∧ (∀ (k : Nat) (c i j : Int), k ≠ 95 → k ≠ 96 → ¬ (k = 1 ∧ (j = 24 ∨ j = 25)) → Y k c i j = Y0 k c i j) ∧ (0 ≤ x → x = zf_47 Z b b2 N)
theorem zTq.row {b n b2 N : Int} {Z0 Y0 Z Y : qz_Z} {x : Int} (t : zTq b n b2 N Z0 Y0 Z Y x) : zrE n Z Y N := t.1
theorem zTq.n24 {b n b2 N : Int} {Z0 Y0 Z Y : qz_Z} {x : Int} (t : zTq b n b2 N Z0 Y0 Z Y x) : Y 1 0 0 24 = N := t.2.1
theorem zTq.n25 {b n b2 N : Int} {Z0 Y0 Z Y : qz_Z} {x : Int} (t : zTq b n b2 N Z0 Y0 Z Y x) : Y 1 0 0 25 = x := t.2.2.1
theorem zTq.best {b n b2 N : Int} {Z0 Y0 Z Y : qz_Z} {x : Int} (t : zTq b n b2 N Z0 Y0 Z Y x) : 0 ≤ x → (∀ k : Int, 0 ≤ k → k < N → Z 200 b2 0 k = Y 96 0 0 k) ∧ zwl (fun k => Y 96 0 0 k) N := t.2.2.2.1
theorem zTq.xx {b n b2 N : Int} {Z0 Y0 Z Y : qz_Z} {x : Int} (t : zTq b n b2 N Z0 Y0 Z Y x) : x = -1 ∨ (0 ≤ x ∧ x ≤ 100) := t.2.2.2.2.1
theorem zTq.fz {b n b2 N : Int} {Z0 Y0 Z Y : qz_Z} {x : Int} (t : zTq b n b2 N Z0 Y0 Z Y x) : ∀ (k : Nat) (c i j : Int), ¬ (k = 200 ∧ (c = n ∨ c = b2)) → Z k c i j = Z0 k c i j := t.2.2.2.2.2.1
theorem zTq.rest {b n b2 N : Int} {Z0 Y0 Z Y : qz_Z} {x : Int} (t : zTq b n b2 N Z0 Y0 Z Y x) : ∀ j : Int, N ≤ j → Z 200 b2 0 j = Z0 200 b2 0 j := t.2.2.2.2.2.2.1
theorem zTq.fy {b n b2 N : Int} {Z0 Y0 Z Y : qz_Z} {x : Int} (t : zTq b n b2 N Z0 Y0 Z Y x) : ∀ (k : Nat) (c i j : Int), k ≠ 95 → k ≠ 96 → ¬ (k = 1 ∧ (j = 24 ∨ j = 25)) → Y k c i j = Y0 k c i j := t.2.2.2.2.2.2.2.1
theorem zTq.sum {b n b2 N : Int} {Z0 Y0 Z Y : qz_Z} {x : Int} (t : zTq b n b2 N Z0 Y0 Z Y x) : 0 ≤ x → x = zf_47 Z b b2 N := t.2.2.2.2.2.2.2.2
def zDv (b : Int) (Z Y : qz_Z) : Prop := ∀ i j : Int, 0 ≤ i → i < 6 → 0 ≤ j → j < 6 → i ≠ j → Z 40 b i j = Y 2 0 0 (3210 + 6 * i + j) ∧ 0 ≤ Z 40 b i j ∧ Z 40 b i j ≤ 12
theorem rl_47 {b n N : Int} {Z Y : qz_Z} (h : zrE n Z Y N) (hD : zDv b Z Y) (e : Y 1 0 0 24 = N) (w : zwl (fun k => Y 95 0 0 k) N) (N1 : N ≤ 5) : ∀ (m : Nat) (x3 x4 x5 : Int), 0 ≤ x5 → x5 ≤ N → 0 ≤ x3 → x3 ≤ 12 * x5 → 0 ≤ x4 → x4 ≤ 5 → (x5 = 0 → x4 = 5) → (1 ≤ x5 → x4 = Y 95 0 0 (x5 - 1)) → N - x5 < (m : Int) → zl_47_1 b n N m Z x3 x4 x5 = zl_514_1 m Y x3 x4 x5 ∧ 0 ≤ (zl_514_1 m Y x3 x4 x5).1 ∧ (zl_514_1 m Y x3 x4 x5).1 ≤ 60 ∧ (1 ≤ N → 0 ≤ (zl_514_1 m Y x3 x4 x5).2.1 ∧ (zl_514_1 m Y x3 x4 x5).2.1 < 5)
  | 0, _, _, _, _, _, _, _, _, _, _, _, _ => by omega
  | m + 1, x3, x4, x5, h0, h1, h2, h3, h4, h5, h6, h7, h8 => by
    unfold zl_47_1 zl_514_1
    rw [e]
    by_cases c : N ≤ x5
    · rw [if_pos c, if_pos c]
      refine ⟨rfl, h2, by show x3 ≤ 60; omega, fun q => ?_⟩
      have a := w (x5 - 1) (by omega) (by omega)
      have b := h7 (by omega)
      have a1 : 0 ≤ Y 95 0 0 (x5 - 1) := a.1
      have a2 : Y 95 0 0 (x5 - 1) < 5 := a.2.1
      exact ⟨by show 0 ≤ x4; omega, by show x4 < 5; omega⟩
    rw [if_neg c, if_neg c, h x5 h0 (by omega)]
    have a := w x5 h0 (by omega)
    have a1 : 0 ≤ Y 95 0 0 x5 := a.1
    have a2 : Y 95 0 0 x5 < 5 := a.2.1
    have a3 : x4 ≠ Y 95 0 0 x5 := by
      by_cases d : x5 = 0
      · rw [h6 d]
        omega
      · rw [h7 (by omega)]
        exact fun q => a.2.2 (by omega) q.symm
    obtain ⟨d1, d2, d3⟩ := hD x4 (Y 95 0 0 x5) h4 (by omega) a1 (by omega) a3
    rw [← d1, w3_id (by omega) (by omega)]
    exact rl_47 h hD e w N1 m _ _ (x5 + 1) (by omega) (by omega) (by omega) (by omega) a1 (by omega) (fun q => by omega) (fun _ => by rw [show x5 + 1 - 1 = x5 by omega]) (by omega)
theorem rr_47 {b n N : Int} {Z Y : qz_Z} (h : zrE n Z Y N) (hD : zDv b Z Y) (e : Y 1 0 0 24 = N) (w : zwl (fun k => Y 95 0 0 k) N) (N0 : 1 ≤ N) (N1 : N ≤ 5) : zf_47 Z b n N = zf_514 Y ∧ 0 ≤ zf_514 Y ∧ zf_514 Y ≤ 100 := by
  obtain ⟨a1, a2, a3, a4⟩ := rl_47 h hD e w N1 6 0 5 0 (by omega) (by omega) (by omega) (by omega) (by omega) (by omega) (fun _ => rfl) (fun q => by omega) (by omega)
  obtain ⟨a5, a6⟩ := a4 N0
  unfold zf_47 zf_514
  rw [a1, zlet3, zlet3, e, if_pos (by omega)]
  obtain ⟨d1, d2, d3⟩ := hD (zl_514_1 6 Y 0 5 0).2.1 5 a5 (by omega) (by omega) (by omega) (by omega)
  rw [show 3215 + 6 * (zl_514_1 6 Y 0 5 0).2.1 = 3210 + 6 * (zl_514_1 6 Y 0 5 0).2.1 + 5 by omega, ← d1, w3_id (by omega) (by omega)]
  exact ⟨rfl, by omega, by omega⟩
theorem zl_511_2r {N : Int} : ∀ (m : Nat) (Y : qz_Z) (x : Int), 0 ≤ x → Y 1 0 0 24 = N → N - x < (m : Int) → (∀ k : Int, x ≤ k → k < N → (zl_511_2 m Y x).1 96 0 0 k = Y 95 0 0 k) ∧ (∀ k : Int, k < x → (zl_511_2 m Y x).1 96 0 0 k = Y 96 0 0 k) ∧ (∀ (k : Nat) (c i j : Int), k ≠ 96 → (zl_511_2 m Y x).1 k c i j = Y k c i j)
  | 0, Y, x, _, _, h => ⟨fun k _ _ => by omega, fun _ _ => rfl, fun _ _ _ _ _ => rfl⟩
  | m + 1, Y, x, h0, e, h => by
    unfold zl_511_2
    rw [e]
    by_cases c : N ≤ x
    · rw [if_pos c]
      exact ⟨fun k _ _ => by omega, fun _ _ => rfl, fun _ _ _ _ _ => rfl⟩
    rw [if_neg c, zlet]
    obtain ⟨a1, a2, a3⟩ := zl_511_2r (N := N) m (zu Y 96 0 0 x (Y 95 0 0 x)) (x + 1) (by omega) ((zu_ne rfl (fun q => absurd q.1 (by decide))).trans e) (by omega)
    refine ⟨fun k k0 k1 => ?_, fun k k0 => ?_, fun k c i j hk => ?_⟩
    · by_cases d : k = x
      · rw [d, a2 x (by omega), zu_at rfl]
      · rw [a1 k (by omega) k1, zu_ne rfl (fun q => absurd q.1 (by decide))]
    · rw [a2 k (by omega), zu_ne rfl (fun q => by have := q.2.2.2; omega)]
    · rw [a3 k c i j hk, zu_ne rfl (fun q => hk q.1)]
theorem zTq_copy {b n b2 N x v : Int} {Z0 Y0 Z Y : qz_Z} (hn : n ≠ b2) (t : zTq b n b2 N Z0 Y0 Z Y x) (w : zwl (fun k => Y 95 0 0 k) N) (N1 : N ≤ 5) (v0 : 0 ≤ v) (v1 : v ≤ 100) (ev : v = zf_47 Z b n N) : zTq b n b2 N Z0 Y0 (zpy Z 200 n 0 200 b2 0 0 N) (zl_511_2 6 (zu Y 1 0 0 25 v) 0).1 v := by
  have u24 : zu Y 1 0 0 25 v 1 0 0 24 = N := (zu_ne rfl (fun q => absurd q.2.2.2 (by decide))).trans t.n24
  obtain ⟨a1, a2, a3⟩ := zl_511_2r (N := N) 6 (zu Y 1 0 0 25 v) 0 (by omega) u24 (by omega)
  have y95 : ∀ k : Int, zu Y 1 0 0 25 v 95 0 0 k = Y 95 0 0 k := fun k => zu_ne rfl (fun q => absurd q.1 (by decide))
  have pn : ∀ (k : Nat) (c i j : Int), ¬ (k = 200 ∧ c = b2 ∧ i = 0 ∧ 0 ≤ j ∧ j < N) → zpy Z 200 n 0 200 b2 0 0 N k c i j = Z k c i j := fun k c i j q => if_neg (fun e => q ⟨e.1, e.2.1, e.2.2.1, e.2.2.2.1, by have := e.2.2.2.2; omega⟩)
  refine ⟨fun k k0 k1 => ?_, ?_, ?_, fun _ => ⟨fun k k0 k1 => ?_, fun k k0 k1 => ?_⟩, .inr ⟨v0, v1⟩, fun k c i j q => ?_, fun j q => ?_, fun k c i j q1 q2 q3 => ?_, fun _ => ?_⟩
  · rw [pn _ _ _ _ (fun q => hn q.2.1), a3 _ _ _ _ (by decide), y95]
    exact t.row k k0 k1
  · rw [a3 _ _ _ _ (by decide)]
    exact u24
  · rw [a3 _ _ _ _ (by decide)]
    exact zu_at rfl
  · rw [a1 k k0 k1, y95, show zpy Z 200 n 0 200 b2 0 0 N 200 b2 0 k = Z 200 n 0 (k - 0) from if_pos ⟨rfl, rfl, rfl, k0, by omega⟩, Int.sub_zero]
    exact t.row k k0 k1
  · show 0 ≤ (zl_511_2 6 (zu Y 1 0 0 25 v) 0).1 96 0 0 k ∧ (zl_511_2 6 (zu Y 1 0 0 25 v) 0).1 96 0 0 k < 5 ∧ (1 ≤ k → (zl_511_2 6 (zu Y 1 0 0 25 v) 0).1 96 0 0 k ≠ (zl_511_2 6 (zu Y 1 0 0 25 v) 0).1 96 0 0 (k - 1))
    rw [a1 k k0 k1, y95]
    refine ⟨(w k k0 k1).1, (w k k0 k1).2.1, fun q => ?_⟩
    rw [a1 (k - 1) (by omega) (by omega), y95]
    exact (w k k0 k1).2.2 q
  · rw [pn _ _ _ _ (fun e => q ⟨e.1, .inr e.2.1⟩)]
    exact t.fz k c i j q
  · rw [pn _ _ _ _ (fun e => by omega)]
    exact t.rest j q
  · rw [a3 _ _ _ _ q2, zu_ne rfl (fun e => q3 ⟨e.1, .inr e.2.2.2⟩)]
    exact t.fy k c i j q1 q2 q3
  · rw [ev]
    refine (zf_47_c (fun k k0 k1 => ?_) (fun i j => pn _ _ _ _ (fun q => absurd q.1 (by decide)))).symm
    rw [show zpy Z 200 n 0 200 b2 0 0 N 200 b2 0 k = Z 200 n 0 (k - 0) from if_pos ⟨rfl, rfl, rfl, k0, by omega⟩, Int.sub_zero]
theorem zTq_next {b n b2 N x : Int} {Z0 Y0 Z Y : qz_Z} (hn : n ≠ b2) (t : zTq b n b2 N Z0 Y0 Z Y x) (N0 : 1 ≤ N) : zTq b n b2 N Z0 Y0 (zf_1070 Z n N).1 (zf_522 Y).1 x ∧ (zf_1070 Z n N).2 = (zf_522 Y).2 := by
  obtain ⟨a1, a2, a3, a4, a5⟩ := rr_1070 t.row t.n24 N0
  refine ⟨⟨a1, ?_, ?_, fun q => ⟨fun k k0 k1 => ?_, ?_⟩, t.xx, fun k c i j q => ?_, fun j q => ?_, fun k c i j q1 q2 q3 => ?_, fun q => ?_⟩, a4⟩
  · rw [a3 _ _ _ _ (by decide)]
    exact t.n24
  · rw [a3 _ _ _ _ (by decide)]
    exact t.n25
  · rw [a3 _ _ _ _ (by decide), a2 _ _ _ _ (fun e => hn e.2.symm)]
    exact (t.best q).1 k k0 k1
  · simp only [a3 96 _ _ _ (by decide)]
    exact (t.best q).2
  · rw [a2 _ _ _ _ (fun e => q ⟨e.1, .inl e.2⟩)]
    exact t.fz k c i j q
  · rw [a2 _ _ _ _ (fun e => hn e.2.symm)]
    exact t.rest j q
  · rw [a3 _ _ _ _ q1]
    exact t.fy k c i j q1 q2 q3
  · rw [zf_47_c (c := b2) (c' := b2) (fun k k0 k1 => a2 _ _ _ _ (fun e => hn e.2.symm)) (fun i j => a2 _ _ _ _ (fun e => absurd e.1 (by decide)))]
    exact t.sum q
theorem ztk_step {n N : Int} {Z : qz_Z} {l l' : List Int} (h : zrE n Z (ztk l) N) (e : N = l.length) (N0 : 1 ≤ N) (s : ztn l l' = true) : (zf_1070 Z n N).2 = 1 ∧ zrE n (zf_1070 Z n N).1 (ztk l') N ∧ N = l'.length := by
  have e24 : ztk l 1 0 0 24 = N := e.symm
  obtain ⟨a1, a2, a3, a4, a5⟩ := rr_1070 h e24 N0
  unfold ztn at s
  simp only [Bool.and_eq_true, List.all_eq_true, decide_eq_true_eq, List.mem_range, Nat.beq_eq_true_eq] at s
  obtain ⟨⟨s1, s2⟩, s3⟩ := s
  replace s3 := Nat.eq_of_beq_eq_true s3
  refine ⟨a4.trans s1, fun k k0 k1 => ?_, by omega⟩
  obtain ⟨j, rfl⟩ : ∃ j : Nat, k = j := ⟨k.toNat, by omega⟩
  rw [a1 j k0 k1, s2 j (by omega)]
  rfl
theorem rl_1056_2 {b n b2 N : Int} {Z0 Y0 : qz_Z} (hn : n ≠ b2) (hD : zDv b Z0 Y0) : ∀ (r : List (List Int)) (l : List Int) (m m' : Nat) (Z Y : qz_Z) (x x7 : Int), ztc (l :: r) = true → N = l.length → x7 + r.length < 120 → r.length + 2 ≤ m → r.length + 2 ≤ m' → zrE n Z (ztk l) N → zTq b n b2 N Z0 Y0 Z Y x → zTq b n b2 N Z0 Y0 (zl_1056_2 b b2 n N m Z x 1 x7).1 (zl_511_4 m' Y 1).1 (zl_1056_2 b b2 n N m Z x 1 x7).2.1 ∧ 0 ≤ (zl_1056_2 b b2 n N m Z x 1 x7).2.1
  | r, l, 0, _, _, _, _, _, _, _, _, _, _, _, _ => by omega
  | r, l, m + 1, 0, _, _, _, _, _, _, _, _, _, _, _ => by omega
  | r, l, m + 1, m' + 1, Z, Y, x, x7, hc, e, h7, hm, hm', hl, t => by
    have hc1 : ztw l = true := by
      unfold ztc at hc
      exact (Bool.and_eq_true_iff.mp hc).1
    have hc2 := hc
    unfold ztc at hc2
    replace hc2 := (Bool.and_eq_true_iff.mp hc2).2
    obtain ⟨w, N0, N1⟩ := ztw_i (f := fun k => Y 95 0 0 k) hc1 e (fun k k0 k1 => (t.row k k0 k1).symm.trans (hl k k0 k1))
    have hDz : zDv b Z Y := fun i j i0 i1 j0 j1 ne => by
      rw [t.fz _ _ _ _ (fun q => absurd q.1 (by decide)), t.fy _ _ _ _ (by decide) (by decide) (fun q => absurd q.1 (by decide))]
      exact hD i j i0 i1 j0 j1 ne
    obtain ⟨v1, v2, v3⟩ := rr_47 t.row hDz t.n24 w N0 N1
    have K : ∀ {Z1 Y1 : qz_Z} {x1 : Int}, 0 ≤ x1 → zrE n Z1 (ztk l) N → zTq b n b2 N Z0 Y0 Z1 Y1 x1 → zTq b n b2 N Z0 Y0 (zl_1056_2 b b2 n N m (zf_1070 Z1 n N).1 x1 (zf_1070 Z1 n N).2 (x7 + 1)).1 (zl_511_4 m' (zf_522 Y1).1 (zf_522 Y1).2).1 (zl_1056_2 b b2 n N m (zf_1070 Z1 n N).1 x1 (zf_1070 Z1 n N).2 (x7 + 1)).2.1 ∧ 0 ≤ (zl_1056_2 b b2 n N m (zf_1070 Z1 n N).1 x1 (zf_1070 Z1 n N).2 (x7 + 1)).2.1 := fun {Z1 Y1 x1} x0 g t1 => by
      obtain ⟨t2, t3⟩ := zTq_next hn t1 N0
      rw [← t3]
      match r, hc, hc2, h7, hm, hm' with
      | [], _, hc2, h7, hm, hm' =>
        have e24 : ztk l 1 0 0 24 = N := e.symm
        obtain ⟨a1, a2, a3, a4, a5⟩ := rr_1070 g e24 N0
        have z : (zf_1070 Z1 n N).2 = 0 := a4.trans (of_decide_eq_true hc2)
        rw [z]
        have c1 : zl_1056_2 b b2 n N m (zf_1070 Z1 n N).1 x1 0 (x7 + 1) = ((zf_1070 Z1 n N).1, x1, 0, x7 + 1) := by
          cases m with
          | zero => rfl
          | succ m =>
            unfold zl_1056_2
            rw [if_pos rfl]
            split <;> rfl
        have c2 : zl_511_4 m' (zf_522 Y1).1 0 = ((zf_522 Y1).1, 0) := by
          cases m' with
          | zero => rfl
          | succ m' =>
            unfold zl_511_4
            rw [if_pos rfl]
        rw [c1, c2]
        exact ⟨t2, x0⟩
      | l' :: r', hc, hc2, h7, hm, hm' =>
        have s := Bool.and_eq_true_iff.mp hc2
        obtain ⟨s1, s2, s3⟩ := ztk_step g e N0 s.1
        rw [s1]
        simp only [List.length_cons] at h7 hm hm'
        exact rl_1056_2 hn hD r' l' m m' _ _ x1 (x7 + 1) s.2 s3 (by omega) (by omega) (by omega) s2 t2
    have g : zrE n (zpy Z 200 n 0 200 b2 0 0 N) (ztk l) N := fun k k0 k1 => by
      rw [show zpy Z 200 n 0 200 b2 0 0 N 200 n 0 k = Z 200 n 0 k from if_neg (fun q => hn q.2.1)]
      exact hl k k0 k1
    unfold zl_1056_2 zl_511_4
    rw [if_neg (by omega), if_neg (by omega), if_neg (by omega), v1, t.n25]
    generalize zf_514 Y = v at v1 v2 v3 ⊢
    have tc := zTq_copy hn t w N1 v2 v3 v1.symm
    simp only [zlet, zlet2]
    by_cases c : x = -1
    · rw [if_pos c, if_pos c]
      exact K v2 g tc
    rw [if_neg c, if_neg c]
    by_cases d : x ≤ v
    · rw [if_pos d, if_pos d]
      exact K (by rcases t.xx with q | q <;> omega) hl t
    · rw [if_neg d, if_neg d]
      exact K v2 g tc
termination_by r _ _ _ _ _ _ _ => r.length
/-- rows at the start -/
theorem rl_1056_1 {b n b2 a : Int} (hn : n ≠ b2) {Z0 Y0 : qz_Z} : ∀ (m : Nat) (Z Y : qz_Z) (x4 x5 : Int), 0 ≤ x4 → x4 ≤ x5 → x5 ≤ 5 → 5 - x5 < (m : Int) → Y 1 0 0 24 = x4 → zrE n Z Y x4 → (∀ j : Int, 0 ≤ j → j < x5 → Z 200 b2 0 j = -1) → (∀ (k : Nat) (c i j : Int), ¬ (k = 200 ∧ (c = n ∨ c = b2)) → Z k c i j = Z0 k c i j) → (∀ (k : Nat) (c i j : Int), k ≠ 95 → k ≠ 96 → ¬ (k = 1 ∧ (j = 24 ∨ j = 25)) → Y k c i j = Y0 k c i j) → (zl_511_1 a m Y x5).1 1 0 0 24 = (zl_1056_1 b b2 n a m Z x4 x5).2.1 ∧ zrE n (zl_1056_1 b b2 n a m Z x4 x5).1 (zl_511_1 a m Y x5).1 (zl_1056_1 b b2 n a m Z x4 x5).2.1 ∧ (∀ j : Int, 0 ≤ j → j < 5 → (zl_1056_1 b b2 n a m Z x4 x5).1 200 b2 0 j = -1) ∧ (∀ (k : Nat) (c i j : Int), ¬ (k = 200 ∧ (c = n ∨ c = b2)) → (zl_1056_1 b b2 n a m Z x4 x5).1 k c i j = Z0 k c i j) ∧ (∀ (k : Nat) (c i j : Int), k ≠ 95 → k ≠ 96 → ¬ (k = 1 ∧ (j = 24 ∨ j = 25)) → (zl_511_1 a m Y x5).1 k c i j = Y0 k c i j)
  | 0, _, _, _, _, _, _, _, _, _, _, _, _, _ => by omega
  | m + 1, Z, Y, x4, x5, h0, h1, h2, h3, e, h, g, fz, fy => by
    unfold zl_1056_1 zl_511_1
    by_cases c : 5 ≤ x5
    · rw [if_pos c, if_pos c]
      exact ⟨e, h, fun j j0 j1 => g j j0 (by omega), fz, fy⟩
    rw [if_neg c, if_neg c]
    simp only [zlet]
    have fz1 : ∀ (k : Nat) (c i j : Int), ¬ (k = 200 ∧ (c = n ∨ c = b2)) → zu Z 200 b2 0 x5 (-1) k c i j = Z0 k c i j := fun k c i j q => (zu_ne rfl (fun r => q ⟨r.1, .inr r.2.1⟩)).trans (fz k c i j q)
    have g1 : ∀ j : Int, 0 ≤ j → j < x5 + 1 → zu Z 200 b2 0 x5 (-1) 200 b2 0 j = -1 := fun j j0 j1 => by
      by_cases d : j = x5
      · rw [d]
        exact zu_at rfl
      · exact (zu_ne rfl (fun r => d r.2.2.2)).trans (g j j0 (by omega))
    have h1' : zrE n (zu Z 200 b2 0 x5 (-1)) Y x4 := fun k k0 k1 => (zu_ne rfl (fun r => hn r.2.1)).trans (h k k0 k1)
    by_cases d : z2 (fun x y => x &&& y) (z2 (fun x y => x >>> (y &&& 31)) a x5) 1 ≠ 1
    · rw [if_pos d, if_pos d]
      exact rl_1056_1 hn m _ _ x4 (x5 + 1) h0 (by omega) (by omega) (by omega) e h1' g1 fz1 fy
    · rw [if_neg d, if_neg d, e]
      refine rl_1056_1 hn m _ _ (x4 + 1) (x5 + 1) (by omega) (by omega) (by omega) (by omega) ?_ (fun k k0 k1 => ?_) (fun j j0 j1 => ?_) (fun k c i j q => ?_) (fun k c i j q1 q2 q3 => ?_)
      · rw [zu_at rfl, zu_ne rfl (fun r => absurd r.1 (by decide)), e]
      · rw [zu_ne (Z := zu Y 95 0 0 x4 x5) rfl (fun r => absurd r.1 (by decide))]
        by_cases q : k = x4
        · rw [q, zu_at rfl, zu_at rfl]
        · rw [zu_ne (Z := zu Z 200 b2 0 x5 (-1)) rfl (fun r => q r.2.2.2), zu_ne (Z := Y) rfl (fun r => q r.2.2.2)]
          exact h1' k k0 (by omega)
      · rw [zu_ne (Z := zu Z 200 b2 0 x5 (-1)) rfl (fun r => hn r.2.1.symm)]
        exact g1 j j0 j1
      · rw [zu_ne (Z := zu Z 200 b2 0 x5 (-1)) rfl (fun r => q ⟨r.1, .inl r.2.1⟩)]
        exact fz1 k c i j q
      · rw [zu_ne (Z := zu Y 95 0 0 x4 x5) rfl (fun r => q3 ⟨r.1, .inl r.2.2.2⟩), zu_ne rfl (fun r => q1 r.1)]
        exact fy k c i j q1 q2 q3
def zt0 : qz_Z := fun _ _ _ _ => 0
def zts (m : Nat) : Bool := match ztps (ztbits m).length (ztbits m) with
  | [] => false
  | l :: _ => decide ((zl_511_1 (m : Int) 6 zt0 0).1 1 0 0 24 = (l.length : Int)) && (List.range l.length).all (fun k => decide ((zl_511_1 (m : Int) 6 zt0 0).1 95 0 0 (k : Int) = l.getD k 0))
theorem zts_all : (List.range 31).all (fun m => zts (m + 1)) = true := by decide +kernel
theorem zt_start {m : Nat} (h0 : 1 ≤ m) (h1 : m ≤ 31) : ∃ l r, ztc (l :: r) = true ∧ r.length + 1 ≤ 120 ∧ (zl_511_1 (m : Int) 6 zt0 0).1 1 0 0 24 = (l.length : Int) ∧ ∀ k : Int, 0 ≤ k → k < l.length → (zl_511_1 (m : Int) 6 zt0 0).1 95 0 0 k = ztk l 95 0 0 k := by
  have a := List.all_eq_true.mp ztc_all (m - 1) (List.mem_range.mpr (by omega))
  have b := List.all_eq_true.mp zts_all (m - 1) (List.mem_range.mpr (by omega))
  rw [show m - 1 + 1 = m by omega] at a b
  unfold zts at b
  generalize ztps (ztbits m).length (ztbits m) = q at a b
  match q, a, b with
  | [], _, b => exact Bool.noConfusion (show false = true from b)
  | l :: r, a, b =>
    have a2 := Bool.and_eq_true_iff.mp a
    have b2 := Bool.and_eq_true_iff.mp b
    refine ⟨l, r, a2.1, Nat.le_of_ble_eq_true a2.2, of_decide_eq_true b2.1, fun k k0 k1 => ?_⟩
    obtain ⟨j, rfl⟩ : ∃ j : Nat, k = j := ⟨k.toNat, by omega⟩
    exact of_decide_eq_true (List.all_eq_true.mp b2.2 j (List.mem_range.mpr (by omega)))
theorem rr_1056 {b n b2 a : Int} {Z Y : qz_Z} (hn : n ≠ b2) (hD : zDv b Z Y) (a0 : 1 ≤ a) (a1 : a ≤ 31) : ∃ N x : Int, 1 ≤ N ∧ N ≤ 5 ∧ 0 ≤ x ∧ x ≤ 100 ∧ (zf_1056 Z n b a b2).2.1 = n + 1 ∧ (zf_1056 Z n b a b2).2.2 = x ∧ zf_511 Y a 1 0 0 24 = N ∧ zf_511 Y a 1 0 0 25 = x ∧ (∀ k : Int, 0 ≤ k → k < N → (zf_1056 Z n b a b2).1 200 b2 0 k = zf_511 Y a 96 0 0 k) ∧ zwl (fun k => zf_511 Y a 96 0 0 k) N ∧ (∀ j : Int, N ≤ j → j < 5 → (zf_1056 Z n b a b2).1 200 b2 0 j = -1) ∧ (∀ (k : Nat) (c i j : Int), ¬ (k = 200 ∧ (c = n ∨ c = b2)) → (zf_1056 Z n b a b2).1 k c i j = Z k c i j) ∧ (∀ (k : Nat) (c i j : Int), k ≠ 95 → k ≠ 96 → ¬ (k = 1 ∧ (j = 24 ∨ j = 25)) → zf_511 Y a k c i j = Y k c i j) ∧ x = zf_47 (zf_1056 Z n b a b2).1 b b2 N := by
  obtain ⟨m, rfl⟩ : ∃ m : Nat, a = m := ⟨a.toNat, by omega⟩
  have fz0 : ∀ (k : Nat) (c i j : Int), ¬ (k = 200 ∧ (c = n ∨ c = b2)) → zzi Z n k c i j = Z k c i j := fun k c i j q => if_neg (fun r => q ⟨r.1, .inl r.2⟩)
  have fy0 : ∀ (k : Nat) (c i j : Int), k ≠ 95 → k ≠ 96 → ¬ (k = 1 ∧ (j = 24 ∨ j = 25)) → zu Y 1 0 0 24 0 k c i j = Y k c i j := fun k c i j _ _ q => zu_ne rfl (fun r => q ⟨r.1, .inl r.2.2.2⟩)
  obtain ⟨p1, p2, p3, p4, p5⟩ := rl_1056_1 (b := b) (n := n) (b2 := b2) (a := (m : Int)) hn (Z0 := Z) (Y0 := Y) 6 (zzi Z n) (zu Y 1 0 0 24 0) 0 0 (by omega) (by omega) (by omega) (by omega) (zu_at rfl) (fun k k0 k1 => by omega) (fun j j0 j1 => by omega) fz0 fy0
  obtain ⟨c1, c2, _, _, _⟩ := rl_1056_1 (b := b) (n := n) (b2 := b2) (a := (m : Int)) hn (Z0 := Z) (Y0 := zt0) 6 (zzi Z n) zt0 0 0 (by omega) (by omega) (by omega) (by omega) rfl (fun k k0 k1 => by omega) (fun j j0 j1 => by omega) fz0 (fun _ _ _ _ _ _ _ => rfl)
  obtain ⟨l, r, s1, s2, s3, s4⟩ := zt_start (m := m) (by omega) (by omega)
  unfold zf_1056 zf_511
  simp only [zlet, zlet2, zlet3, zlet4]
  generalize zl_1056_1 b b2 n (m : Int) 6 (zzi Z n) 0 0 = C at p1 p2 p3 p4 c1 c2 ⊢
  generalize (zl_511_1 (m : Int) 6 (zu Y 1 0 0 24 0) 0).1 = Y3 at p1 p2 p5 ⊢
  generalize (zl_511_1 (m : Int) 6 zt0 0).1 = Yc at c1 c2 s3 s4
  obtain ⟨Z7, N, y6⟩ := C
  have p1' : Y3 1 0 0 24 = N := p1
  have c1' : Yc 1 0 0 24 = N := c1
  have eN : N = l.length := c1'.symm.trans s3
  have hl : zrE n Z7 (ztk l) N := fun k k0 k1 => (c2 k k0 k1).trans (s4 k k0 (by omega))
  have hw : ztw l = true := by
    unfold ztc at s1
    exact (Bool.and_eq_true_iff.mp s1).1
  obtain ⟨_, N0, N1⟩ := ztw_i (f := fun k => ztk l 95 0 0 k) hw eN (fun _ _ _ => rfl)
  have y3 : ∀ (k : Nat) (c i j : Int), ¬ (k = 1 ∧ j = 25) → zu Y3 1 0 0 25 (-1) k c i j = Y3 k c i j := fun k c i j q => zu_ne rfl (fun r => q ⟨r.1, r.2.2.2⟩)
  have hD7 : zDv b Z7 (zu Y3 1 0 0 25 (-1)) := fun i j i0 i1 j0 j1 ne => by
    rw [show Z7 40 b i j = Z 40 b i j from p4 _ _ _ _ (fun q => absurd q.1 (by decide)), y3 _ _ _ _ (fun q => absurd q.1 (by decide)), p5 _ _ _ _ (by decide) (by decide) (fun q => absurd q.1 (by decide))]
    exact hD i j i0 i1 j0 j1 ne
  have t0 : zTq b n b2 N Z7 (zu Y3 1 0 0 25 (-1)) Z7 (zu Y3 1 0 0 25 (-1)) (-1) := by
    refine ⟨fun k k0 k1 => ?_, ?_, zu_at rfl, fun q => by omega, .inl rfl, fun _ _ _ _ _ => rfl, fun _ _ => rfl, fun _ _ _ _ _ _ _ => rfl, fun q => by omega⟩
    · rw [y3 _ _ _ _ (fun q => absurd q.1 (by decide))]
      exact p2 k k0 k1
    · rw [y3 _ _ _ _ (fun q => absurd q.2 (by decide))]
      exact p1'
  obtain ⟨t, x0⟩ := rl_1056_2 (b := b) hn hD7 r l 121 3126 Z7 (zu Y3 1 0 0 25 (-1)) (-1) 0 s1 eN (by omega) (by omega) (by omega) hl t0
  show ∃ N1 x : Int, 1 ≤ N1 ∧ N1 ≤ 5 ∧ 0 ≤ x ∧ x ≤ 100 ∧ True ∧ (zl_1056_2 b b2 n N 121 Z7 (-1) 1 0).2.1 = x ∧ (zl_511_4 3126 (zu Y3 1 0 0 25 (-1)) 1).1 1 0 0 24 = N1 ∧ (zl_511_4 3126 (zu Y3 1 0 0 25 (-1)) 1).1 1 0 0 25 = x ∧ (∀ k : Int, 0 ≤ k → k < N1 → (zl_1056_2 b b2 n N 121 Z7 (-1) 1 0).1 200 b2 0 k = (zl_511_4 3126 (zu Y3 1 0 0 25 (-1)) 1).1 96 0 0 k) ∧ zwl (fun k => (zl_511_4 3126 (zu Y3 1 0 0 25 (-1)) 1).1 96 0 0 k) N1 ∧ (∀ j : Int, N1 ≤ j → j < 5 → (zl_1056_2 b b2 n N 121 Z7 (-1) 1 0).1 200 b2 0 j = -1) ∧ (∀ (k : Nat) (c i j : Int), ¬ (k = 200 ∧ (c = n ∨ c = b2)) → (zl_1056_2 b b2 n N 121 Z7 (-1) 1 0).1 k c i j = Z k c i j) ∧ (∀ (k : Nat) (c i j : Int), k ≠ 95 → k ≠ 96 → ¬ (k = 1 ∧ (j = 24 ∨ j = 25)) → (zl_511_4 3126 (zu Y3 1 0 0 25 (-1)) 1).1 k c i j = Y k c i j) ∧ x = zf_47 (zl_1056_2 b b2 n N 121 Z7 (-1) 1 0).1 b b2 N1
  generalize zl_1056_2 b b2 n N 121 Z7 (-1) 1 0 = C at t x0 ⊢
  generalize (zl_511_4 3126 (zu Y3 1 0 0 25 (-1)) 1).1 = M at t ⊢
  refine ⟨N, C.2.1, N0, N1, x0, ?_, trivial, rfl, t.n24, t.n25, (t.best x0).1, (t.best x0).2, fun j j0 j1 => ?_, fun k c i j q => ?_, fun k c i j q1 q2 q3 => ?_, t.sum x0⟩
  · rcases t.xx with q | q
    · omega
    · exact q.2
  · rw [t.rest j j0]
    exact p3 j (by omega) j1
  · rw [t.fz k c i j q]
    exact p4 k c i j q
  · rw [t.fy k c i j q1 q2 q3, y3 _ _ _ _ (fun r => q3 ⟨r.1, .inr r.2⟩)]
    exact p5 k c i j q1 q2 q3
