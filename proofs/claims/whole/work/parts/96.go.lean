/-! trucks that go: the way by towns -/
theorem rl_45b {b t b2 : Int} : ∀ (m : Nat) (Z : qz_Z) (x5 x6 x7 : Int), 0 ≤ x7 → x7 ≤ 5 → 5 - x7 < (m : Int) → (∀ j : Int, x7 ≤ j → j < 5 → Z 200 b2 0 j = -1) → (∀ k : Int, x7 ≤ k → k < 5 → (zl_45_1 b t b2 m Z x5 x6 x7).1 50 b t (12 + k) = -1 ∧ (zl_45_1 b t b2 m Z x5 x6 x7).1 50 b t (17 + k) = -1) ∧ (∀ (k : Nat) (c i j : Int), ¬ (k = 50 ∧ c = b ∧ i = t ∧ (12 + x7 ≤ j ∧ j < 17 ∨ 17 + x7 ≤ j ∧ j < 22)) → (zl_45_1 b t b2 m Z x5 x6 x7).1 k c i j = Z k c i j)
  | 0, _, _, _, _, _, _, _, _ => by omega
  | m + 1, Z, x5, x6, x7, h0, h1, h2, g => by
    unfold zl_45_1
    by_cases c : 5 ≤ x7
    · rw [if_pos c]
      exact ⟨fun k _ _ => by omega, fun _ _ _ _ _ => rfl⟩
    rw [if_neg c, if_pos (g x7 (by omega) (by omega)), g x7 (by omega) (by omega)]
    simp only [zlet]
    obtain ⟨a1, a2⟩ := rl_45b (b := b) (t := t) (b2 := b2) m (zu (zu Z 50 b t (12 + x7) (-1)) 50 b t (17 + x7) (-1)) x5 x6 (x7 + 1) (by omega) (by omega) (by omega) (fun j j0 j1 => by
      rw [zu_ne rfl (fun q => absurd q.1 (by decide)), zu_ne rfl (fun q => absurd q.1 (by decide))]
      exact g j (by omega) j1)
    refine ⟨fun k k0 k1 => ?_, fun k c i j q => ?_⟩
    · by_cases d : k = x7
      · rw [d, a2 _ _ _ _ (fun q => by have := q.2.2.2; omega), a2 _ _ _ _ (fun q => by have := q.2.2.2; omega), zu_at rfl, zu_ne rfl (fun q => by have := q.2.2.2; omega), zu_at rfl]
        exact ⟨rfl, rfl⟩
      · exact a1 k (by omega) k1
    · rw [a2 _ _ _ _ (fun r => q ⟨r.1, r.2.1, r.2.2.1, by have := r.2.2.2; omega⟩), zu_ne rfl (fun r => q ⟨r.1, r.2.1, r.2.2.1, by have := r.2.2.2; omega⟩), zu_ne rfl (fun r => q ⟨r.1, r.2.1, r.2.2.1, by have := r.2.2.2; omega⟩)]
theorem rl_45 {b t b2 N w0 : Int} {Z0 Y0 : qz_Z} (N1 : N ≤ 5) (hD : zDv b Z0 Y0) (hr : ∀ k : Int, 0 ≤ k → k < N → Z0 200 b2 0 k = Y0 96 0 0 k) (w : zwl (fun k => Y0 96 0 0 k) N) (hm : ∀ j : Int, N ≤ j → j < 5 → Z0 200 b2 0 j = -1) (e : Y0 1 0 0 24 = N) (t0 : 0 ≤ t) (t1 : t < 4) : ∀ (m m' : Nat) (Z Y : qz_Z) (x5 s x7 : Int), 0 ≤ x7 → x7 ≤ N → 5 - x7 < (m : Int) → N - x7 < (m' : Int) → 0 ≤ x5 → x5 ≤ 5 → (x7 = 0 → x5 = 5) → (1 ≤ x7 → x5 = Y0 96 0 0 (x7 - 1)) → (∀ k : Int, 0 ≤ k → k < x7 → Z 50 b t (12 + k) = Y 2 0 0 (3259 + 24 * t + k) ∧ Z 50 b t (17 + k) = Y 2 0 0 (3264 + 24 * t + k)) → (∀ (k : Nat) (c i j : Int), ¬ (k = 50 ∧ c = b ∧ i = t ∧ 12 ≤ j ∧ j < 22) → Z k c i j = Z0 k c i j) → (∀ (k : Nat) (c i j : Int), ¬ (k = 2 ∧ c = 0 ∧ i = 0 ∧ 3259 + 24 * t ≤ j ∧ j < 3269 + 24 * t) → Y k c i j = Y0 k c i j) → (∀ k : Int, 0 ≤ k → k < N → (zl_45_1 b t b2 m Z x5 (w0 + s) x7).1 50 b t (12 + k) = (zl_513_1 t m' Y x5 (w0 + s) x7).1 2 0 0 (3259 + 24 * t + k) ∧ (zl_45_1 b t b2 m Z x5 (w0 + s) x7).1 50 b t (17 + k) = (zl_513_1 t m' Y x5 (w0 + s) x7).1 2 0 0 (3264 + 24 * t + k)) ∧ (∀ k : Int, N ≤ k → k < 5 → (zl_45_1 b t b2 m Z x5 (w0 + s) x7).1 50 b t (12 + k) = -1 ∧ (zl_45_1 b t b2 m Z x5 (w0 + s) x7).1 50 b t (17 + k) = -1) ∧ (∀ (k : Nat) (c i j : Int), ¬ (k = 50 ∧ c = b ∧ i = t ∧ 12 ≤ j ∧ j < 22) → (zl_45_1 b t b2 m Z x5 (w0 + s) x7).1 k c i j = Z0 k c i j) ∧ (∀ (k : Nat) (c i j : Int), ¬ (k = 2 ∧ c = 0 ∧ i = 0 ∧ 3259 + 24 * t ≤ j ∧ j < 3269 + 24 * t) → (zl_513_1 t m' Y x5 (w0 + s) x7).1 k c i j = Y0 k c i j) ∧ (zl_513_1 t m' Y x5 (w0 + s) x7).2.1 = (zl_47_1 b b2 N m' Z0 s x5 x7).2.1 ∧ (zl_513_1 t m' Y x5 (w0 + s) x7).2.2.1 = w0 + (zl_47_1 b b2 N m' Z0 s x5 x7).1 ∧ (1 ≤ N → 0 ≤ (zl_47_1 b b2 N m' Z0 s x5 x7).2.1 ∧ (zl_47_1 b b2 N m' Z0 s x5 x7).2.1 < 5)
  | 0, _, _, _, _, _, _, _, _, _, _, _, _, _, _, _, _, _ => by omega
  | m + 1, 0, _, _, _, _, _, _, _, _, _, _, _, _, _, _, _, _ => by omega
  | m + 1, m' + 1, Z, Y, x5, s, x7, h0, h1, h2, h3, h4, h5, h6, h7, hi, fz, fy => by
    have e1 : Y 1 0 0 24 = N := (fy _ _ _ _ (fun q => absurd q.1 (by decide))).trans e
    by_cases c : N ≤ x7
    · have x : x7 = N := by omega
      obtain ⟨a1, a2⟩ := rl_45b (b := b) (t := t) (b2 := b2) (m + 1) Z x5 (w0 + s) x7 h0 (by omega) h2 (fun j j0 j1 => by
        rw [fz _ _ _ _ (fun q => absurd q.1 (by decide))]
        exact hm j (by omega) j1)
      have em : zl_513_1 t (m' + 1) Y x5 (w0 + s) x7 = (Y, x5, w0 + s, x7) := by
        unfold zl_513_1
        rw [e1, if_pos c]
      have e47 : zl_47_1 b b2 N (m' + 1) Z0 s x5 x7 = (s, x5, x7) := by
        unfold zl_47_1
        rw [if_pos c]
      rw [em, e47]
      refine ⟨fun k k0 k1 => ?_, fun k k0 k1 => a1 k (by omega) k1, fun k c i j q => ?_, fy, rfl, rfl, fun q => ?_⟩
      · rw [a2 _ _ _ _ (fun q => by have := q.2.2.2; omega), a2 _ _ _ _ (fun q => by have := q.2.2.2; omega)]
        exact hi k k0 (by omega)
      · rw [a2 _ _ _ _ (fun r => q ⟨r.1, r.2.1, r.2.2.1, by have := r.2.2.2; omega⟩)]
        exact fz k c i j q
      · have a := w (x7 - 1) (by omega) (by omega)
        have b := h7 (by omega)
        have a1 : 0 ≤ Y0 96 0 0 (x7 - 1) := a.1
        have a2 : Y0 96 0 0 (x7 - 1) < 5 := a.2.1
        exact ⟨by show 0 ≤ x5; omega, by show x5 < 5; omega⟩
    have r0 : Z 200 b2 0 x7 = Y0 96 0 0 x7 := (fz _ _ _ _ (fun q => absurd q.1 (by decide))).trans (hr x7 h0 (by omega))
    have r1 : Y 96 0 0 x7 = Y0 96 0 0 x7 := fy _ _ _ _ (fun q => absurd q.1 (by decide))
    have a := w x7 h0 (by omega)
    have a1 : 0 ≤ Y0 96 0 0 x7 := a.1
    have a2 : Y0 96 0 0 x7 < 5 := a.2.1
    have a3 : x5 ≠ Y0 96 0 0 x7 := by
      by_cases d : x7 = 0
      · rw [h6 d]
        omega
      · rw [h7 (by omega)]
        exact fun q => a.2.2 (by omega) q.symm
    obtain ⟨d1, d2, d3⟩ := hD x5 (Y0 96 0 0 x7) h4 (by omega) a1 (by omega) a3
    have y1 : Y 2 0 0 (3210 + 6 * x5 + Y0 96 0 0 x7) = Z0 40 b x5 (Y0 96 0 0 x7) := (fy _ _ _ _ (fun q => by have := q.2.2.2; omega)).trans d1.symm
    have z1 : Z 40 b x5 (Y0 96 0 0 x7) = Z0 40 b x5 (Y0 96 0 0 x7) := fz _ _ _ _ (fun q => absurd q.1 (by decide))
    have em : zl_513_1 t (m' + 1) Y x5 (w0 + s) x7 = zl_513_1 t m' (zu (zu Y 2 0 0 (3259 + 24 * t + x7) (Y0 96 0 0 x7)) 2 0 0 (3264 + 24 * t + x7) (w0 + s + Z0 40 b x5 (Y0 96 0 0 x7))) (Y0 96 0 0 x7) (w0 + s + Z0 40 b x5 (Y0 96 0 0 x7)) (x7 + 1) := by
      rw [zl_513_1, e1, if_neg c, r1, y1]
      rfl
    have ec : zl_45_1 b t b2 (m + 1) Z x5 (w0 + s) x7 = zl_45_1 b t b2 m (zu (zu Z 50 b t (12 + x7) (Y0 96 0 0 x7)) 50 b t (17 + x7) (w0 + s + Z0 40 b x5 (Y0 96 0 0 x7))) (Y0 96 0 0 x7) (w0 + s + Z0 40 b x5 (Y0 96 0 0 x7)) (x7 + 1) := by
      rw [zl_45_1, if_neg (by omega), r0, if_neg (by omega), z1]
      rfl
    have e47 : zl_47_1 b b2 N (m' + 1) Z0 s x5 x7 = zl_47_1 b b2 N m' Z0 (s + Z0 40 b x5 (Y0 96 0 0 x7)) (Y0 96 0 0 x7) (x7 + 1) := by
      rw [zl_47_1, if_neg c, hr x7 h0 (by omega)]
    rw [em, ec, e47, show w0 + s + Z0 40 b x5 (Y0 96 0 0 x7) = w0 + (s + Z0 40 b x5 (Y0 96 0 0 x7)) by omega]
    refine rl_45 N1 hD hr w hm e t0 t1 m m' _ _ _ _ (x7 + 1) (by omega) (by omega) (by omega) (by omega) a1 (by omega) (fun q => by omega) (fun _ => by rw [show x7 + 1 - 1 = x7 by omega]) (fun k k0 k1 => ?_) (fun k c i j q => ?_) (fun k c i j q => ?_)
    · by_cases d : k = x7
      · rw [d, zu_at rfl, zu_at rfl, zu_ne rfl (fun q => by have := q.2.2.2; omega), zu_at rfl, zu_ne rfl (fun q => by have := q.2.2.2; omega), zu_at rfl]
        exact ⟨rfl, rfl⟩
      · rw [zu_ne rfl (fun q => by have := q.2.2.2; omega), zu_ne rfl (fun q => by have := q.2.2.2; omega), zu_ne rfl (fun q => by have := q.2.2.2; omega), zu_ne rfl (fun q => by have := q.2.2.2; omega), zu_ne rfl (fun q => by have := q.2.2.2; omega), zu_ne rfl (fun q => by have := q.2.2.2; omega), zu_ne rfl (fun q => by have := q.2.2.2; omega), zu_ne rfl (fun q => by have := q.2.2.2; omega)]
        exact hi k k0 (by omega)
    · rw [zu_ne rfl (fun r => q ⟨r.1, r.2.1, r.2.2.1, by have := r.2.2.2; omega⟩), zu_ne rfl (fun r => q ⟨r.1, r.2.1, r.2.2.1, by have := r.2.2.2; omega⟩)]
      exact fz k c i j q
    · rw [zu_ne rfl (fun r => q ⟨r.1, r.2.1, r.2.2.1, by have := r.2.2.2; omega⟩), zu_ne rfl (fun r => q ⟨r.1, r.2.1, r.2.2.1, by have := r.2.2.2; omega⟩)]
      exact fy k c i j q
/-- a truck that holds parcels has towns to go to -/
def zor5 (x t : Int) : Int := z2 (fun x y => x ||| y) x (z2 (fun x y => x <<< (y &&& 31)) 1 t)
theorem zor5_all : (List.range 32).all (fun x => decide (z2 (fun x y => x ||| y) (x : Int) 0 = (x : Int)) && (List.range 5).all (fun t => decide (1 ≤ zor5 x t) && decide (zor5 x t ≤ 31))) = true := by decide +kernel
theorem zor5_0 {x : Int} (h0 : 0 ≤ x) (h1 : x ≤ 31) : z2 (fun x y => x ||| y) x 0 = x := by
  obtain ⟨n, rfl⟩ : ∃ n : Nat, x = n := ⟨x.toNat, by omega⟩
  exact of_decide_eq_true (Bool.and_eq_true_iff.mp (List.all_eq_true.mp zor5_all n (List.mem_range.mpr (by omega)))).1
theorem zor5_1 {x t : Int} (h0 : 0 ≤ x) (h1 : x ≤ 31) (t0 : 0 ≤ t) (t1 : t < 5) : 1 ≤ zor5 x t ∧ zor5 x t ≤ 31 := by
  obtain ⟨n, rfl⟩ : ∃ n : Nat, x = n := ⟨x.toNat, by omega⟩
  obtain ⟨k, rfl⟩ : ∃ k : Nat, t = k := ⟨t.toNat, by omega⟩
  have a := List.all_eq_true.mp (Bool.and_eq_true_iff.mp (List.all_eq_true.mp zor5_all n (List.mem_range.mpr (by omega)))).2 k (List.mem_range.mpr (by omega))
  have b := Bool.and_eq_true_iff.mp a
  exact ⟨of_decide_eq_true b.1, of_decide_eq_true b.2⟩
theorem zl527 {Y : qz_Z} {t : Int} (hV : zV Y) : ∀ (m : Nat) (x2 x3 x4 : Int), 0 ≤ x4 → x4 ≤ 60 → 0 ≤ x3 → x3 ≤ x4 → 0 ≤ x2 → x2 ≤ 31 → (x2 = 0 ↔ x3 ≤ 0) → 0 ≤ (zl_527_1 t m Y x2 x4).1 ∧ (zl_527_1 t m Y x2 x4).1 ≤ 31 ∧ ((zl_527_1 t m Y x2 x4).1 = 0 ↔ (zl_518_1 t 0 m Y x3 x4).1 ≤ 0)
  | 0, _, _, _, _, _, _, _, h5, h6, h7 => ⟨h5, h6, h7⟩
  | m + 1, x2, x3, x4, h1, h2, h3, h4, h5, h6, h7 => by
    unfold zl_527_1 zl_518_1
    have v := zVr_11_6 (a := 2000) hV rfl
    by_cases c : Y 2 0 0 2000 ≤ x4
    · rw [if_pos c, if_pos c]
      exact ⟨h5, h6, h7⟩
    rw [if_neg c, if_neg c, zor5_0 h5 h6, Int.add_zero, if_pos rfl]
    by_cases d : Y 2 0 0 (2019 + 16 * x4) ≠ 1
    · rw [if_pos d, if_pos d]
      exact zl527 hV m _ _ _ (by omega) (by omega) h3 (by omega) h5 h6 h7
    rw [if_neg d, if_neg d]
    by_cases g : Y 2 0 0 (2020 + 16 * x4) ≠ t
    · rw [if_pos g, if_pos g]
      exact zl527 hV m _ _ _ (by omega) (by omega) h3 (by omega) h5 h6 h7
    rw [if_neg g, if_neg g, w3_id (by omega) (by omega)]
    have v1 := zVr_47_1 (x := x4) (a := 2011 + 16 * x4) hV h1 (by omega) rfl
    have v2 := zVr_45_0 (x := Y 2 0 0 (2011 + 16 * x4)) (a := 1410 + 12 * Y 2 0 0 (2011 + 16 * x4)) hV v1.1 (by omega) rfl
    have k := zor5_1 h5 h6 v2.1 (by omega)
    exact zl527 hV m _ _ _ (by omega) (by omega) (by omega) (by omega) (by have := k.1; unfold zor5 at this; omega) k.2 ⟨fun q => by have := k.1; unfold zor5 at this; omega, fun q => by omega⟩
theorem z527 {Y : qz_Z} {t : Int} (hV : zV Y) : 0 ≤ zf_527 Y t ∧ zf_527 Y t ≤ 31 ∧ (zf_527 Y t = 0 ↔ zf_518 Y t 0 ≤ 0) := zl527 hV 61 0 0 0 (by omega) (by omega) (by omega) (by omega) (by omega) (by omega) ⟨fun _ => by omega, fun _ => rfl⟩
