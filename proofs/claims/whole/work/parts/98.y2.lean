/-! DETERMINISM of the reference: trips, hours, pass. -/
theorem dlet_iv {α β : Type} {G : α → α → Prop} {v v' : β} {k k' : β → α} (e : v = v') (hk : ∀ x, v = x → G (k x) (k' x)) : G (zlet v k) (zlet v' k') := by
  subst e
  exact hk v rfl
/-- ways as they can be -/
def ymw (Y : qz_Z) : Prop := ∀ i j : Int, 0 ≤ i → i < 6 → 0 ≤ j → j < 6 → i ≠ j → 0 ≤ Y 2 0 0 (3210 + 6 * i + j) ∧ Y 2 0 0 (3210 + 6 * i + j) ≤ 12
theorem ymw_D {b : Int} {Z Y : qz_Z} (h : zDv b Z Y) : ymw Y := fun i j i0 i1 j0 j1 n => by
  obtain ⟨a, c⟩ := h i j i0 i1 j0 j1 n
  rw [← a]
  exact c
/-- rows alike, and the best trip that was found -/
def ymG (Z Z' : qz_Z) : Prop := ym Z Z' ∧ Z 1 0 0 24 = Z' 1 0 0 24 ∧ Z 1 0 0 25 = Z' 1 0 0 25 ∧ ∀ k : Int, 0 ≤ k → k < Z 1 0 0 24 → Z 96 0 0 k = Z' 96 0 0 k
theorem ymG_u {Z Z' : qz_Z} {a a' v v' : Int} (h : ymG Z Z') (e1 : a = a') (e2 : v = v') : ymG (zu Z 2 0 0 a v) (zu Z' 2 0 0 a' v') := by
  have n1 : ∀ (X : qz_Z) (a v j : Int), zu X 2 0 0 a v 1 0 0 j = X 1 0 0 j := fun X a v j => zu_ne rfl (fun q => absurd q.1 (by decide))
  have n9 : ∀ (X : qz_Z) (a v j : Int), zu X 2 0 0 a v 96 0 0 j = X 96 0 0 j := fun X a v j => zu_ne rfl (fun q => absurd q.1 (by decide))
  refine ⟨ym_u h.1 e1 e2, ?_, ?_, fun k k0 k1 => ?_⟩
  · rw [n1, n1]
    exact h.2.1
  · rw [n1, n1]
    exact h.2.2.1
  · rw [n1] at k1
    rw [n9, n9]
    exact h.2.2.2 k k0 k1
theorem dq_511 {Y Y' : qz_Z} {a : Int} (h : ym Y Y') (hw : ymw Y) (a0 : 1 ≤ a) (a1 : a ≤ 31) : ymG (zf_511 Y a) (zf_511 Y' a) := by
  obtain ⟨G, hG⟩ : ∃ G : qz_Z, ∀ i j, G 40 0 i j = Y 2 0 0 (3210 + 6 * i + j) := ⟨fun _ _ i j => Y 2 0 0 (3210 + 6 * i + j), fun _ _ => rfl⟩
  have hD : zDv 0 G Y := fun i j i0 i1 j0 j1 n => by
    rw [hG]
    exact ⟨rfl, hw i j i0 i1 j0 j1 n⟩
  have hD' : zDv 0 G Y' := fun i j i0 i1 j0 j1 n => by
    rw [hG, ← h.1]
    exact ⟨rfl, hw i j i0 i1 j0 j1 n⟩
  obtain ⟨N, x, f1, f2, f3, f4, f5, f6, f7, f8, f9, f10, f11, f12, f13, f14⟩ := rr_1056 (b := 0) (n := 0) (b2 := 1) (a := a) (by decide) hD a0 a1
  obtain ⟨N', x', g1, g2, g3, g4, g5, g6, g7, g8, g9, g10, g11, g12, g13, g14⟩ := rr_1056 (b := 0) (n := 0) (b2 := 1) (a := a) (by decide) hD' a0 a1
  generalize zf_1056 G 0 0 a 1 = F at *
  generalize zf_511 Y a = A at *
  generalize zf_511 Y' a = B at *
  have ex : x = x' := f6.symm.trans g6
  have eN : N = N' := by
    by_cases c : N < N'
    · have q1 := f11 N (by omega) (by omega)
      have q2 := g9 N (by omega) c
      have q3 := (g10 N (by omega) c).1
      have q4 : 0 ≤ B 96 0 0 N := q3
      omega
    · by_cases c2 : N' < N
      · have q1 := g11 N' (by omega) (by omega)
        have q2 := f9 N' (by omega) c2
        have q3 := (f10 N' (by omega) c2).1
        have q4 : 0 ≤ A 96 0 0 N' := q3
        omega
      · omega
  refine ⟨⟨fun j => ?_, ?_⟩, ?_, ?_, fun k k0 k1 => ?_⟩
  · rw [f13 2 0 0 j (by decide) (by decide) (fun q => absurd q.1 (by decide)), g13 2 0 0 j (by decide) (by decide) (fun q => absurd q.1 (by decide))]
    exact h.1 j
  · rw [f13 1 0 0 2 (by decide) (by decide) (fun q => by omega), g13 1 0 0 2 (by decide) (by decide) (fun q => by omega)]
    exact h.2
  · rw [f7, g7, eN]
  · rw [f8, g8, ex]
  · rw [f7] at k1
    rw [← f9 k k0 k1, ← g9 k k0 (by omega)]
theorem dl_513_1 {x1 : Int} : ∀ (m : Nat) (Z Z' : qz_Z) (x2 x3 x4 : Int), 0 ≤ x4 → ymG Z Z' → dMe ymG (zl_513_1 x1 m Z x2 x3 x4) (zl_513_1 x1 m Z' x2 x3 x4)
  | 0, _, _, _, _, _, _, h => ⟨h, rfl⟩
  | m + 1, Z, Z', x2, x3, x4, h0, h => by
    unfold zl_513_1
    refine dite (by rw [h.2.1]) (fun _ => ⟨h, rfl⟩) (fun c => ?_)
    have e96 := h.2.2.2 x4 h0 (by omega)
    have e2 := h.1.1
    rw [e96, e2]
    refine dlet_Z (P := ymG) (ymG_u h rfl rfl) (fun Z4 Z4' h4 => ?_)
    refine dlet_Z (P := ymG) (ymG_u h4 rfl rfl) (fun Z6 Z6' h6 => ?_)
    exact dl_513_1 m _ _ _ _ _ (by omega) h6
theorem dq_513 {Y Y' : qz_Z} {t : Int} (h : ym Y Y') (hV : zV Y) (hw : ymw Y) (hc : ¬ zf_518 Y t 0 ≤ 0) : ym (zf_513 Y t) (zf_513 Y' t) := by
  obtain ⟨m0, m1, m2⟩ := z527 (t := t) hV
  have m3 : zf_527 Y t ≠ 0 := fun q => hc (m2.mp q)
  unfold zf_513
  refine dlet_iv (dq_527 h.1 rfl) (fun v1 e1 => ?_)
  refine dlet_Z (P := ymG) (dq_511 h hw (by omega) (by omega)) (fun Z2 Z2' h2 => ?_)
  refine dlet_Z (P := ymG) (ymG_u h2 rfl rfl) (fun Z3 Z3' h3 => ?_)
  refine dlet_Z (P := ymG) (ymG_u h3 rfl (h3.1.1 0)) (fun Z5 Z5' h5 => ?_)
  refine dlet_Z (P := ymG) (ymG_u h5 rfl h5.2.2.1) (fun Z7 Z7' h7 => ?_)
  refine dlet_Z (P := ymG) (ymG_u h7 rfl (by rw [h7.1.1])) (fun Z10 Z10' h10 => ?_)
  refine dlet_Z (P := ymG) (ymG_u h10 rfl h10.2.1) (fun Z12 Z12' h12 => ?_)
  rw [h12.1.1 0]
  refine dlet4 (dl_513_1 6 _ _ _ _ _ (by decide) h12) (fun Z18 Z18' y15 y16 y17 h18 => ?_)
  exact dlet_Z (P := ym) (ym_u h18.1 rfl (by rw [h18.1.1])) (fun Z21 Z21' h21 => h21)
theorem dq_g512 {Y Y' : qz_Z} {t : Int} (h : ym Y Y') (hV : zV Y) (hw : ymw Y) (t0 : 0 ≤ t) (t1 : t < 4) : ym (zg512 Y t) (zg512 Y' t) := by
  have e2 := h.1
  unfold zg512
  refine dite (by rw [e2]) (fun _ => ?_) (fun _ => h)
  refine dite (by rw [e2, e2]) (fun _ => h) (fun _ => ?_)
  refine dlet_Z (P := fun z z' => ym z z' ∧ zV z ∧ ymw z) ⟨ym_u h rfl rfl, zV_n hV rfl (zvn_50_3 t0 t1 rfl), fun i j i0 i1 j0 j1 n => by
    rw [zun (by omega)]
    exact hw i j i0 i1 j0 j1 n⟩ (fun Z8 Z8' h8 => ?_)
  refine dlet_iv (dq_518 h8.1.1 rfl rfl) (fun v9 e9 => ?_)
  refine dite rfl (fun _ => h8.1) (fun c => ?_)
  exact dq_513 h8.1 h8.2.1 h8.2.2 (by rw [e9]; exact c)
theorem zS_45d {b t n : Int} {Z Y : qz_Z} (h : zAl b Z Y) (hDv : zDv b Z Y) (t0 : 0 ≤ t) (t1 : t < 4) (t2 : t < Y 2 0 0 3200) : zAl b (zf_45 Z n b t).1 (zg512 Y t) ∧ zDv b (zf_45 Z n b t).1 (zg512 Y t) := by
  obtain ⟨r1, r2, f, g, dt⟩ := rr_45 (b := b) (t := t) (n := n) (zS_R h) (zS_V h) (zS_N4 h) (zS_Dt h) hDv t0 t1
  have h1 : zAl b (zf_45 Z n b t).1 (zg512 Y t) := ⟨r1, r2, zD1_f (zS_D1 h) f.1 g.1 ⟨rfl, rfl, rfl⟩, zD4_f (zS_D4 h) f.1 g.1 ⟨⟨rfl, rfl⟩, rfl, rfl, rfl⟩, zN1_f (zS_N1 h) g.1 ⟨rfl, rfl, rfl, rfl⟩, zN4_f (zS_N4 h) g.1 ⟨rfl, rfl, rfl⟩, zN8_f (zS_N8 h) g.1 ⟨rfl, rfl, rfl⟩, zN9_f (zS_N9 h) g.1 ⟨rfl, rfl, rfl⟩, zNL_f (zS_NL h) (zS_V h) g.1 ⟨rfl, rfl, rfl, rfl, rfl⟩, zDl_f (zS_Dl h) f.1 g.1 ⟨rfl, rfl, rfl, rfl, rfl⟩, zDs_f (zS_Ds h) f.1 g.1 ⟨rfl, rfl⟩, zDw_f (zS_Dw h) f.1 g.1 ⟨rfl, rfl⟩, (zFc_at 4000 f.1 rfl rfl rfl).trans (zS_Dg h), dt, zFn_f (zS_Fn h) f.1 g.1 ⟨rfl, rfl, rfl, rfl⟩, zNp_f (zS_Np h) (zS_V h) g.1 ⟨rfl, rfl⟩, zNr_f (zS_Nr h) (zS_V h) g.1 ⟨rfl, rfl, rfl⟩, zNi_f (zS_Ni h) (zS_V h) g.1 ⟨rfl, rfl⟩, zNq_f (zS_Nq h) (zS_V h) g.1 ⟨rfl, rfl⟩, zNk_f (zS_Nk h) g.1 rfl, zNt_z (zS_Nt h) (zS_R h) (zS_V h) r1 g.1 rfl (fun r hr => z50_45 (by rw [zRl_11_8 (a := 3200) (zS_R h) rfl] at hr; omega)), zDb_f (zS_Db h) f.1 (by decide), zPb_f (zS_Pb h) f.1 (by decide), zKb_f (zS_Kb h) f.1 (by decide)⟩
  refine ⟨h1, fun i j i0 i1 j0 j1 ne => ?_⟩
  have e := zS_Dw h1 i j i0 i1 j0 j1 ne
  have r := hDv i j i0 i1 j0 j1 ne
  have f4 := zFc_at (C := (zf_45 Z n b t).1) (k := 40) (i := i) (j := j) 4000 f.1 rfl rfl rfl
  exact ⟨e, by rw [f4]; exact r.2⟩
theorem dl_512g {b : Int} : ∀ (m : Nat) (Z Y Y' : qz_Z) (x : Int), zAl b Z Y → zDv b Z Y → ym Y Y' → 0 ≤ x → dMe ym (zl_512_1 m Y x) (zl_512_1 m Y' x)
  | 0, _, _, _, _, _, _, hy, _ => ⟨hy, rfl⟩
  | m + 1, Z, Y, Y', x, h, hDv, hy, x0 => by
    have v8 := zVr_11_8 (a := 3200) (zS_V h) rfl
    rw [zl512e, zl512e]
    refine dite (by rw [hy.1]) (fun _ => ⟨hy, rfl⟩) (fun c => ?_)
    obtain ⟨h1, d1⟩ := zS_45d (n := 0) h hDv x0 (by omega) (by omega)
    exact dl_512g m _ _ _ _ h1 d1 (dq_g512 hy (zS_V h) (ymw_D hDv) x0 (by omega)) (by omega)
theorem dq_512 {s : zSM} {Y Y' : qz_Z} (hJ : zJS Y) (hM : zM s Y) (hy : ym Y Y') : ym (zf_512 Y) (zf_512 Y') := by
  obtain ⟨b, Z, h⟩ := hJ
  unfold zf_512
  exact dlet2 (dl_512g 5 Z Y Y' 0 h (zS_Dv h hM) hy (by decide)) (fun z z' _ hz => hz)
theorem zJ_553 {s : zSM} {Y : qz_Z} (ν : qz_N) (hJ : zJS Y) (hM : zM s Y) (ht : Y 2 0 0 0 ≤ 670) (hc : s.2 + 20008 ≤ 1000000000) : zJS (zf_553 Y) := by
  obtain ⟨b, Z, h⟩ := hJ
  exact ⟨b, _, zS_hour (x1 := 0) (x2 := 0) (n8 := 0) ν h hM ht hc⟩
theorem dq_553 {s : zSM} {Y Y' : qz_Z} (ν : qz_N) (hJ : zJS Y) (hM : zM s Y) (hy : ym Y Y') (ht : Y 2 0 0 0 ≤ 670) (hc : s.2 + 20008 ≤ 1000000000) : ym (zf_553 Y) (zf_553 Y') := by
  have c5 : s.2 + 5 ≤ 1000000000 := by omega
  have c0 : (zb s 5).2 + 0 ≤ 1000000000 := zbh (c := 5) (k := 0) hc (Nat.le_of_ble_eq_true rfl)
  have c18 : (zb s 5).2 + 18228 ≤ 1000000000 := zbh (c := 5) (k := 18228) hc (Nat.le_of_ble_eq_true rfl)
  have c6 : (zb s 5).2 + 20003 ≤ 1000000000 := zbh (c := 5) (k := 20003) hc (Nat.le_of_ble_eq_true rfl)
  have c17 : (zb (zb s 5) 18228).2 + 1722 ≤ 1000000000 := zbh (c := 18228) (k := 1722) c6 (Nat.le_of_ble_eq_true rfl)
  have c11 : (zb (zb s 5) 18228).2 + 1148 ≤ 1000000000 := zbh (c := 18228) (k := 1148) c6 (Nat.le_of_ble_eq_true rfl)
  have j1 : ∀ Y, zJS Y → zJS (zf_505 Y) := fun Y hj => by
    obtain ⟨b, Z, h⟩ := hj
    exact ⟨b, _, zS_39 h⟩
  have j2 : ∀ Y, zJS Y → zJS (zf_471 Y) := fun Y hj => by
    obtain ⟨b, Z, h⟩ := hj
    exact ⟨b, _, zS_171 h⟩
  have j3 : ∀ Y, zJS Y → zM (zb s 5) Y → zJS (zf_358 Y) := fun Y hj hm => by
    obtain ⟨b, Z, h⟩ := hj
    exact ⟨b, _, zS_358 (x1 := 0) (x2 := 0) ν h hm c18⟩
  have j4 : ∀ Y, zJS Y → zM (zb (zb s 5) 18228) Y → zJS (zf_301 Y) := fun Y hj hm => by
    obtain ⟨b, Z, h⟩ := hj
    exact ⟨b, _, zS_301 (x1 := 0) (x2 := 0) ν h hm c11⟩
  have j0 : zJS (zu Y 2 0 0 0 (Y 2 0 0 0 + 1)) := by
    obtain ⟨b, Z, h⟩ := hJ
    exact ⟨b, _, zS_t h ht⟩
  unfold zf_553
  refine dlet_Z (P := fun z z' => ym z z' ∧ zJS z ∧ zM s z) ⟨ym_u hy rfl (by rw [hy.1]), j0, (zT_now hM ht).1⟩ (fun Z2 Z2' h2 => ?_)
  refine dlet_Z (P := fun z z' => ym z z' ∧ zJS z ∧ zM (zb s 5) z) ⟨dq_505 h2.1, j1 _ h2.2.1, (zT_505 ν h2.2.2 c5).1⟩ (fun Z3 Z3' h3 => ?_)
  refine dlet_Z (P := fun z z' => ym z z' ∧ zJS z ∧ zM (zb s 5) z) ⟨dq_471 h3.1, j2 _ h3.2.1, (zT_471 ν h3.2.2 c0).1⟩ (fun Z4 Z4' h4 => ?_)
  refine dlet_Z (P := fun z z' => ym z z' ∧ zJS z ∧ zM (zb (zb s 5) 18228) z) ⟨dq_358 h4.1, j3 _ h4.2.1 h4.2.2, (zT_358 ν h4.2.2 c18).1⟩ (fun Z5 Z5' h5 => ?_)
  refine dlet_Z (P := fun z z' => ym z z' ∧ zJS z ∧ zM (zb (zb (zb s 5) 18228) 1722) z) ⟨dq_301 h5.1, j4 _ h5.2.1 h5.2.2, (zT_301 ν h5.2.2 h5.2.1 c17).1⟩ (fun Z6 Z6' h6 => ?_)
  refine dlet_Z (P := ym) (dq_512 h6.2.1 h6.2.2 h6.1) (fun Z7 Z7' h7 => ?_)
  refine dite (by rw [h7.1]) (fun _ => h7) (fun _ => ?_)
  refine dlet_Z (P := ym) (dq_265 h7 (by rw [h7.1])) (fun Z11 Z11' h11 => ?_)
  exact dlet_Z (P := ym) (dq_402 h11 (by rw [h11.1])) (fun Z14 Z14' h14 => h14)
theorem dl_450 {x1 : Int} (ν : qz_N) : ∀ (m : Nat) (Y Y' : qz_Z) (x : Int) (s : zSM), zJS Y → zM s Y → ym Y Y' → s.2 + 20008 * (x1 - x).toNat ≤ 1000000000 → 0 ≤ x → x ≤ x1 → Y 2 0 0 0 + (x1 - x) ≤ 671 → dMe ym (zl_450_1 x1 m Y x) (zl_450_1 x1 m Y' x)
  | 0, _, _, _, _, _, _, hy, _, _, _, _ => ⟨hy, rfl⟩
  | m + 1, Y, Y', x, s, hJ, hM, hy, hc, x0, x2, ht => by
    unfold zl_450_1
    by_cases c : x1 ≤ x
    · rw [if_pos c, if_pos c]
      exact ⟨hy, rfl⟩
    rw [if_neg c, if_neg c, zlet_b, zlet_b]
    have c1 : s.2 + 20008 ≤ 1000000000 := by omega
    have c2 : (zb s 20008).2 + 20008 * (x1 - (x + 1)).toNat ≤ 1000000000 := by
      show s.2 + 20008 + 20008 * (x1 - (x + 1)).toNat ≤ 1000000000
      omega
    have k1 := dq_553 ν hJ hM hy (by omega) c1
    have k2 := zJ_553 ν hJ hM (by omega) c1
    obtain ⟨m1, t1⟩ := zT_553 ν hM (by omega) hJ c1
    generalize zf_553 Y = A at k1 k2 m1 t1 ⊢
    generalize zf_553 Y' = B at k1 ⊢
    exact dl_450 ν m A B (x + 1) (zb s 20008) k2 m1 k1 c2 (by omega) (by omega) (by omega)
