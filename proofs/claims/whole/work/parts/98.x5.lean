/-! an hour, side by side -/
/-- inspectors look -/
theorem zS_358l {b x1 x2 : Int} (ν : qz_N) : ∀ (m k : Nat) (Z Y : qz_Z) (x : Int) (s : zSM), zAl b Z Y → zM s Y → s.2 + (6076 * (2 - x).toNat) ≤ 1000000000 → 0 ≤ x → x ≤ 2 → 2 - x < (m : Int) → 2 - x < (k : Int) → zAl b (zl_118_1 b x1 x2 m Z x).1 (zl_358_1 k Y x).1
  | 0, _, _, _, _, _, _, _, _, _, _, _, _ => by omega
  | m + 1, 0, _, _, _, _, _, _, _, _, _, _, _ => by omega
  | m + 1, k + 1, Z, Y, x, s, h, hM, hc, x0, x1', hm, hk => by
    have v9 := zVr_11_9 (a := 3500) (zS_V h) rfl
    have v0 := zVr_11_13 (a := 0) (zS_V h) rfl
    unfold zl_118_1 zl_358_1
    rw [zRl_11_9 (a := 3500) (zS_R h) rfl]
    by_cases c : Y 2 0 0 3500 ≤ x
    · rw [if_pos c, if_pos c]
      exact h
    rw [if_neg c, if_neg c, zRl_11_13 (a := 0) (zS_R h) rfl]
    simp only [zlet, zlet2]
    rcases rr_139 (b := b) (k := x) (t := Y 2 0 0 0) (zS_R h) (zS_V h) (zS_Nk h) x0 (by omega) v0.1 with ⟨g1, g2⟩ | ⟨g1, g2, g3⟩
    · rw [if_pos g1, if_pos (show zf_355 Y x (Y 2 0 0 0) ≤ 0 by omega)]
      exact zS_358l ν m k Z Y (x + 1) s h hM (by omega) (by omega) (by omega) (by omega) (by omega)
    · rw [if_neg (show ¬ zf_139 Z b x (Y 2 0 0 0) = -1 by omega), if_neg (show ¬ zf_355 Y x (Y 2 0 0 0) ≤ 0 by omega), g1]
      obtain ⟨Y1, P, e, _, hM1, _⟩ := sp_365 (ν := ν) hM (a1 := x) ⟨x0, by omega⟩ (a2 := zf_355 Y x (Y 2 0 0 0)) (by omega) (by omega)
      have e1 : (zf_365 Y x (zf_355 Y x (Y 2 0 0 0))).1 = Y1 := by rw [← e]
      have h1 := (zS_136 (k := x) (fig := zf_355 Y x (Y 2 0 0 0)) h hM x0 (by omega) g2 g3).1
      rw [e1] at h1 ⊢
      exact zS_358l ν m k _ Y1 (x + 1) (zb s 6076) h1 hM1 (by show s.2 + 6076 + 6076 * (2 - (x + 1)).toNat ≤ 1000000000; omega) (by omega) (by omega) (by omega) (by omega)
theorem zS_358 {b x1 x2 : Int} {s : zSM} {Z Y : qz_Z} (ν : qz_N) (h : zAl b Z Y) (hM : zM s Y) (hc : s.2 + 18228 ≤ 1000000000) : zAl b (zl_118_1 b x1 x2 3 Z 0).1 (zf_358 Y) := by
  unfold zf_358
  simp only [zlet2]
  exact zS_358l ν 3 3 Z Y 0 s h hM (by omega) (by omega) (by omega) (by omega) (by omega)
/-- a clock sells: one lot less -/
theorem zf_9032_48 {Z : qz_Z} {b c p o h n : Int} {c' j : Int} (hj : j < 9) : zf_9032 Z b c p o h n 48 b c' j = Z 48 b c' j := by
  unfold zf_9032
  simp only [zlet]
  rw [zu_ne rfl (fun q => by have := q.2.2.2; omega), zu_ne rfl (fun q => by have := q.2.2.2; omega), zu_ne rfl (fun q => by have := q.2.2.2; omega), zf_6_k ⟨by decide, by decide, by decide, fun e => absurd e (by decide)⟩]
  simp [zuq]
theorem z48_73 {b c : Int} {Z : qz_Z} : zf_73 Z b c 48 b c 5 = Z 48 b c 5 - 1 := by
  have e3 : ∀ {α : Type} (q : qz_Z × Int × Int) (kk : qz_Z → Int → Int → α), zlet3 q kk = kk q.1 q.2.1 q.2.2 := fun _ _ => rfl
  have lp : ∀ (m : Nat) (C : qz_Z) (p start res st x9 x10 : Int), (zl_73_1 b c p c p start res st m C x9 x10).1 48 b c 5 = C 48 b c 5 := fun m => by
    induction m with
    | zero => exact fun _ _ _ _ _ _ _ => rfl
    | succ m ih =>
      intro C p start res st x9 x10
      rw [zl_73s]
      split
      · rfl
      split
      · rfl
      generalize (if x10 ≤ 0 then x9 else min (x9 + C 48 b c 4 * st) start) = h0
      unfold zg_73
      split
      · split
        · rw [ih, zf_9032_48 (by decide)]
        · rfl
      · rfl
  have l69 : ∀ (C : qz_Z) (t : Int), zf_69 C b c t 48 b c 5 = C 48 b c 5 - 1 := fun C t => by
    unfold zf_69
    simp only [zlet, zlet2]
    rw [zu_at rfl]
  unfold zf_73
  simp only [zlet, e3]
  rw [l69, zu_ne rfl (fun q => absurd q.1 (by decide)), zu_ne rfl (fun q => absurd q.2.2.2 (by decide)), zu_ne rfl (fun q => absurd q.2.2.2 (by decide)), zu_ne rfl (fun q => absurd q.2.2.2 (by decide)), lp]
theorem zS_301l {b c x1 x2 : Int} (ν : qz_N) : ∀ (m k : Nat) (Z Y : qz_Z) (x4 x : Int) (s : zSM), zAl b Z Y → zM s Y → s.2 + (82 * (6 - x).toNat + 82) ≤ 1000000000 → 0 ≤ c → c < Y 2 0 0 3000 → 0 ≤ x → x ≤ 6 → 6 - x < (m : Int) → 6 - x < (k : Int) → ((Y 2 0 0 0 % 24 < Y 2 0 0 (3010 + 60 * c) ∨ Y 2 0 0 (3010 + 60 * c) + Y 2 0 0 (3011 + 60 * c) - 1 < Y 2 0 0 0 % 24) ∧ x4 ≤ x ∨ ¬ (Y 2 0 0 0 % 24 < Y 2 0 0 (3010 + 60 * c)) ∧ ¬ (Y 2 0 0 (3010 + 60 * c) + Y 2 0 0 (3011 + 60 * c) - 1 < Y 2 0 0 0 % 24) ∧ x4 = x + min (Y 2 0 0 (3015 + 60 * c)) (Y 2 0 0 (3012 + 60 * c) - x)) → zAl b (zl_118_2 b x1 x2 c x4 m Z x).1 (zl_301_1 c k Y x).1 ∧ yFr [1106, 1112, 1400, 4202, 4203, 4204, 4404, 4405, 4410, 4606, 4700, 4701, 4702, 4703, 4704, 4705, 4706, 4707, 4708, 4709, 4710, 4714, 4715, 4716, 4717, 4719, 4720, 4805, 4806, 4807, 4808, 4809, 4810, 4811, 5300, 5301, 5302, 5303, 5304, 10050, 10051, 10052] Y (zl_301_1 c k Y x).1 ∧ ∃ s2 : zSM, zM s2 (zl_301_1 c k Y x).1 ∧ s2.1 = s.1 ∧ s2.2 ≤ s.2 + (82 * (6 - x).toNat + 82)
  | 0, _, _, _, _, _, _, _, _, _, _, _, _, _, _, _, _ => by omega
  | m + 1, 0, _, _, _, _, _, _, _, _, _, _, _, _, _, _, _ => by omega
  | m + 1, k + 1, Z, Y, x4, x, s, h, hM, hc, c0, c1, x0, x6, hm, hk, hx => by
    have v7 := zVr_11_7 (a := 3000) (zS_V h) rfl
    have c2 : c < 2 := by omega
    have sp := zM_k hM 2 0 0 (3012 + 60 * c) (lo := 0) (hi := 6) (by decide) (zs_3010_2 (x := c) (by omega) c0 c2)
    have v5 := zVr_48_5 (x := c) (a := 3015 + 60 * c) (zS_V h) c0 c2 rfl
    unfold zl_118_2 zl_301_1
    by_cases q : x4 ≤ x
    · rw [if_pos q]
      have stop : x4 ≤ x → zAl b Z Y ∧ yFr [1106, 1112, 1400, 4202, 4203, 4204, 4404, 4405, 4410, 4606, 4700, 4701, 4702, 4703, 4704, 4705, 4706, 4707, 4708, 4709, 4710, 4714, 4715, 4716, 4717, 4719, 4720, 4805, 4806, 4807, 4808, 4809, 4810, 4811, 5300, 5301, 5302, 5303, 5304, 10050, 10051, 10052] Y Y ∧ ∃ s2 : zSM, zM s2 Y ∧ s2.1 = s.1 ∧ s2.2 ≤ s.2 + (82 * (6 - x).toNat + 82) := fun _ => ⟨h, yFr_r, s, hM, rfl, by omega⟩
      by_cases g1 : Y 2 0 0 (3012 + 60 * c) ≤ x
      · rw [if_pos g1]
        exact stop q
      rw [if_neg g1]
      by_cases g2 : Y 2 0 0 0 % 24 < Y 2 0 0 (3010 + 60 * c)
      · rw [if_pos g2]
        exact stop q
      rw [if_neg g2]
      by_cases g3 : Y 2 0 0 (3010 + 60 * c) + Y 2 0 0 (3011 + 60 * c) - 1 < Y 2 0 0 0 % 24
      · rw [if_pos g3]
        exact stop q
      rw [if_neg g3, if_pos (show Y 2 0 0 (3015 + 60 * c) ≤ 0 by clear stop; omega)]
      exact stop q
    · rw [if_neg q, if_neg (show ¬ Y 2 0 0 (3012 + 60 * c) ≤ x by omega), if_neg (show ¬ Y 2 0 0 0 % 24 < Y 2 0 0 (3010 + 60 * c) by omega), if_neg (show ¬ Y 2 0 0 (3010 + 60 * c) + Y 2 0 0 (3011 + 60 * c) - 1 < Y 2 0 0 0 % 24 by omega), if_neg (show ¬ Y 2 0 0 (3015 + 60 * c) ≤ 0 by omega)]
      simp only [zlet]
      have l1 : 1 ≤ Y 2 0 0 (3015 + 60 * c) := by omega
      obtain ⟨h1, g⟩ := zS_73f h hM c0 c1 l1
      have hM1 := zM_309 (c := c) ν h hM (by omega) c0 c1 l1
      have lots : zf_309 Y c 2 0 0 (3015 + 60 * c) = Y 2 0 0 (3015 + 60 * c) - 1 := by
        rw [← zRl_48_5 (x := c) (a := 3015 + 60 * c) (zS_R h1) c0 c2 rfl, z48_73, zRl_48_5 (x := c) (a := 3015 + 60 * c) (zS_R h) c0 c2 rfl]
      have f0 : zf_309 Y c 2 0 0 0 = Y 2 0 0 0 := yFr_at 1113 g.1 rfl (zcm_s (ac_11_13 rfl))
      have f1 : zf_309 Y c 2 0 0 (3010 + 60 * c) = Y 2 0 0 (3010 + 60 * c) := yFr_at 4800 g.1 rfl (zcm_s (ac_48_0 c0 c2 rfl))
      have f2 : zf_309 Y c 2 0 0 (3011 + 60 * c) = Y 2 0 0 (3011 + 60 * c) := yFr_at 4801 g.1 rfl (zcm_s (ac_48_1 c0 c2 rfl))
      have f3 : zf_309 Y c 2 0 0 (3012 + 60 * c) = Y 2 0 0 (3012 + 60 * c) := yFr_at 4802 g.1 rfl (zcm_s (ac_48_2 c0 c2 rfl))
      have f4 : zf_309 Y c 2 0 0 3000 = Y 2 0 0 3000 := yFr_at 1107 g.1 rfl (zcm_s (ac_11_7 rfl))
      generalize zf_309 Y c = M at h1 g hM1 lots f0 f1 f2 f3 f4 ⊢
      obtain ⟨h2, g2, s2, m1, m2, m3⟩ := zS_301l (c := c) (x1 := x1) (x2 := x2) ν m k _ _ x4 (x + 1) (zb s 82) h1 hM1 (by show s.2 + 82 + (82 * (6 - (x + 1)).toNat + 82) ≤ 1000000000; omega) c0 (by rw [f4]; exact c1) (by omega) (by omega) (by omega) (by omega) (by rw [f0, f1, f2, f3, lots]; omega)
      exact ⟨h2, yFr_t g g2 (by decide), s2, m1, m2, by
        have e : (zb s 82).2 = s.2 + 82 := rfl
        rw [e] at m3
        omega⟩
theorem zS_301o {b x1 x2 : Int} (ν : qz_N) : ∀ (m k : Nat) (Z Y : qz_Z) (x : Int) (s : zSM), zAl b Z Y → zM s Y → s.2 + (574 * (2 - x).toNat) ≤ 1000000000 → 0 ≤ x → x ≤ 2 → 2 - x < (m : Int) → 2 - x < (k : Int) → zAl b (zl_118_4 b x1 x2 m Z x).1 (zl_301_3 k Y x).1
  | 0, _, _, _, _, _, _, _, _, _, _, _, _ => by omega
  | m + 1, 0, _, _, _, _, _, _, _, _, _, _, _ => by omega
  | m + 1, k + 1, Z, Y, x, s, h, hM, hc, x0, x2', hm, hk => by
    have v7 := zVr_11_7 (a := 3000) (zS_V h) rfl
    unfold zl_118_4 zl_301_3
    rw [zRl_11_7 (a := 3000) (zS_R h) rfl]
    by_cases c : Y 2 0 0 3000 ≤ x
    · rw [if_pos c, if_pos c]
      exact h
    have x2_ : x < 2 := by omega
    rw [if_neg c, if_neg c, zRl_11_13 (a := 0) (zS_R h) rfl, zRl_48_0 (x := x) (a := 3010 + 60 * x) (zS_R h) x0 x2_ rfl, zRl_48_1 (x := x) (a := 3011 + 60 * x) (zS_R h) x0 x2_ rfl, zRl_48_2 (x := x) (a := 3012 + 60 * x) (zS_R h) x0 x2_ rfl, zRl_48_5 (x := x) (a := 3015 + 60 * x) (zS_R h) x0 x2_ rfl]
    simp only [zlet2]
    have go : ∀ x4 : Int, ((Y 2 0 0 0 % 24 < Y 2 0 0 (3010 + 60 * x) ∨ Y 2 0 0 (3010 + 60 * x) + Y 2 0 0 (3011 + 60 * x) - 1 < Y 2 0 0 0 % 24) ∧ x4 ≤ 0 ∨ ¬ (Y 2 0 0 0 % 24 < Y 2 0 0 (3010 + 60 * x)) ∧ ¬ (Y 2 0 0 (3010 + 60 * x) + Y 2 0 0 (3011 + 60 * x) - 1 < Y 2 0 0 0 % 24) ∧ x4 = 0 + min (Y 2 0 0 (3015 + 60 * x)) (Y 2 0 0 (3012 + 60 * x) - 0)) → zAl b (zl_118_4 b x1 x2 m (zl_118_2 b x1 x2 x x4 7 Z 0).1 (x + 1)).1 (zl_301_3 k (zl_301_1 x 7 Y 0).1 (x + 1)).1 := fun x4 hx => by
      obtain ⟨h1, _, s2, m1, m2, m3⟩ := zS_301l (c := x) (x1 := x1) (x2 := x2) ν 7 7 Z Y x4 0 s h hM (by omega) x0 (by omega) (by omega) (by omega) (by omega) (by omega) hx
      exact zS_301o ν m k _ _ (x + 1) s2 h1 m1 (by omega) (by omega) (by omega) (by omega) (by omega)
    by_cases g1 : Y 2 0 0 0 % 24 - Y 2 0 0 (3010 + 60 * x) < 0
    · rw [if_pos g1]
      exact go 0 (by omega)
    rw [if_neg g1]
    by_cases g2 : Y 2 0 0 (3011 + 60 * x) ≤ Y 2 0 0 0 % 24 - Y 2 0 0 (3010 + 60 * x)
    · rw [if_pos g2]
      exact go 0 (by omega)
    · rw [if_neg g2]
      exact go _ (by omega)
theorem zS_301 {b x1 x2 : Int} {s : zSM} {Z Y : qz_Z} (ν : qz_N) (h : zAl b Z Y) (hM : zM s Y) (hc : s.2 + 1148 ≤ 1000000000) : zAl b (zl_118_4 b x1 x2 3 Z 0).1 (zf_301 Y) := by
  unfold zf_301
  simp only [zlet2]
  exact zS_301o ν 3 3 Z Y 0 s h hM (by omega) (by omega) (by omega) (by omega) (by omega)
/-- trucks go -/
theorem zS_512l {b x1 x2 : Int} : ∀ (m k : Nat) (Z Y : qz_Z) (n8 x : Int), zAl b Z Y → zDv b Z Y → 0 ≤ x → x ≤ 4 → 4 - x < (m : Int) → 4 - x < (k : Int) → zAl b (zl_118_5 b x1 x2 m Z n8 x).1 (zl_512_1 k Y x).1
  | 0, _, _, _, _, _, _, _, _, _, _, _ => by omega
  | m + 1, 0, _, _, _, _, _, _, _, _, _, _ => by omega
  | m + 1, k + 1, Z, Y, n8, x, h, hDv, x0, x4, hm, hk => by
    have v8 := zVr_11_8 (a := 3200) (zS_V h) rfl
    rw [zl512e]
    unfold zl_118_5
    rw [zRl_11_8 (a := 3200) (zS_R h) rfl]
    by_cases c : Y 2 0 0 3200 ≤ x
    · rw [if_pos c, if_pos c]
      exact h
    rw [if_neg c, if_neg c]
    simp only [zlet2]
    obtain ⟨r1, r2, f, g, dt⟩ := rr_45 (b := b) (t := x) (n := n8) (zS_R h) (zS_V h) (zS_N4 h) (zS_Dt h) hDv x0 (by omega)
    have h1 : zAl b (zf_45 Z n8 b x).1 (zg512 Y x) := ⟨r1, r2, zD1_f (zS_D1 h) f.1 g.1 ⟨rfl, rfl, rfl⟩, zD4_f (zS_D4 h) f.1 g.1 ⟨⟨rfl, rfl⟩, rfl, rfl, rfl⟩, zN1_f (zS_N1 h) g.1 ⟨rfl, rfl, rfl, rfl⟩, zN4_f (zS_N4 h) g.1 ⟨rfl, rfl, rfl⟩, zN8_f (zS_N8 h) g.1 ⟨rfl, rfl, rfl⟩, zN9_f (zS_N9 h) g.1 ⟨rfl, rfl, rfl⟩, zNL_f (zS_NL h) (zS_V h) g.1 ⟨rfl, rfl, rfl, rfl, rfl⟩, zDl_f (zS_Dl h) f.1 g.1 ⟨rfl, rfl, rfl, rfl, rfl⟩, zDs_f (zS_Ds h) f.1 g.1 ⟨rfl, rfl⟩, zDw_f (zS_Dw h) f.1 g.1 ⟨rfl, rfl⟩, (zFc_at 4000 f.1 rfl rfl rfl).trans (zS_Dg h), dt, zFn_f (zS_Fn h) f.1 g.1 ⟨rfl, rfl, rfl, rfl⟩, zNp_f (zS_Np h) (zS_V h) g.1 ⟨rfl, rfl⟩, zNr_f (zS_Nr h) (zS_V h) g.1 ⟨rfl, rfl, rfl⟩, zNi_f (zS_Ni h) (zS_V h) g.1 ⟨rfl, rfl⟩, zNq_f (zS_Nq h) (zS_V h) g.1 ⟨rfl, rfl⟩, zNk_f (zS_Nk h) g.1 rfl, zNt_z (zS_Nt h) (zS_R h) (zS_V h) r1 g.1 rfl (fun r hr => z50_45 (by rw [zRl_11_8 (a := 3200) (zS_R h) rfl] at hr; omega)), zDb_f (zS_Db h) f.1 (by decide), zPb_f (zS_Pb h) f.1 (by decide), zKb_f (zS_Kb h) f.1 (by decide)⟩
    have d1 : zDv b (zf_45 Z n8 b x).1 (zg512 Y x) := fun i j i0 i1 j0 j1 ne => by
      have e := zS_Dw h1 i j i0 i1 j0 j1 ne
      have r := hDv i j i0 i1 j0 j1 ne
      have f4 := zFc_at (C := (zf_45 Z n8 b x).1) (k := 40) (i := i) (j := j) 4000 f.1 rfl rfl rfl
      exact ⟨e, by rw [f4]; exact r.2⟩
    exact zS_512l m k _ _ (zf_45 Z n8 b x).2 (x + 1) h1 d1 (by omega) (by omega) (by omega) (by omega)
theorem zS_512 {b x1 x2 n8 : Int} {s : zSM} {Z Y : qz_Z} (h : zAl b Z Y) (hM : zM s Y) : zAl b (zl_118_5 b x1 x2 5 Z n8 0).1 (zf_512 Y) := by
  unfold zf_512
  simp only [zlet2]
  exact zS_512l 5 5 Z Y n8 0 h (zS_Dv h hM) (by omega) (by omega) (by omega) (by omega)
/-- what binds the row to some hall: it is kept by all that an hour does -/
def zJS (Y : qz_Z) : Prop := ∃ (b : Int) (Z : qz_Z), zAl b Z Y
theorem zJS_h (ν : qz_N) : zJh zJS := by
  refine ⟨?_, ?_, ?_, ?_, ?_, ?_, ?_, ?_, ?_, ?_, ?_⟩
  · rintro s Y c hM hc ⟨b, Z, h⟩ c0 c1 c3
    have cn : c < Y 2 0 0 3000 := by
      by_cases q : c < Y 2 0 0 3000
      · exact q
      · have := zM_nl hM c c0 c1 (by omega)
        omega
    exact ⟨.inr (zS_g9 h c0 cn c3), b, _, zS_73 h hM c0 cn c3⟩
  · rintro s Y i hM hc ⟨b, Z, h⟩ i0 i1 i2 hs
    exact ⟨zS_w6 h i0 i2, b, _, (zS_7 (n := 0) h hM i0 i2 hs).1⟩
  · rintro Y ⟨b, Z, h⟩ ht
    exact ⟨b, _, zS_t h ht⟩
  · rintro Y ⟨b, Z, h⟩
    exact ⟨b, _, zS_39 h⟩
  · rintro Y ⟨b, Z, h⟩
    exact ⟨b, _, zS_171 h⟩
  · rintro s Y hM hc ⟨b, Z, h⟩
    exact ⟨b, _, zS_358 (x1 := 0) (x2 := 0) ν h hM hc⟩
  · rintro s Y hM ⟨b, Z, h⟩
    exact ⟨b, _, zS_512 (x1 := 0) (x2 := 0) (n8 := 0) h hM⟩
  · rintro s Y hM ⟨b, Z, h⟩ _
    exact ⟨b, _, (zS_17 h hM).1⟩
  · rintro s Y hM hc ⟨b, Z, h⟩ _ h24
    exact ⟨b, _, zS_4 (n := 0) ν h hM hc h24⟩
  · rintro Y ⟨b, Z, h⟩
    exact ⟨b, _, (zS_4a h).1⟩
  · rintro Y Y' ⟨b, Z, h⟩ e
    exact ⟨b, _, zS_row h e⟩
/-- an hour of the class -/
def zh118 (b x1 x2 : Int) (Z : qz_Z) (n8 : Int) : qz_Z × Int := (zlet (zu Z 11 b 0 13 ((Z 11 b 0 13) + 1)) (fun Z3 => (zlet (zf_39 Z3 b) (fun Z5 => (zlet (zf_171 Z5 b) (fun Z6 => (zlet2 (zl_118_1 b x1 x2 3 Z6 0) (fun Z9 y8 => (zlet2 (zl_118_4 b x1 x2 3 Z9 0) (fun Z13 y12 => (zlet3 (zl_118_5 b x1 x2 5 Z13 n8 0) (fun Z17 n20 y16 => (if ((Z17 11 b 0 13) % 24) ≠ 0 then (Z17, n20) else (zlet (zf_17 Z17 b) (fun Z24 => (zf_4 Z24 n20 b))))))))))))))))
theorem zl118_9 {b x1 : Int} {m : Nat} {Z : qz_Z} {n8 x2 : Int} : zl_118_9 b x1 (m + 1) Z n8 x2 = if x1 ≤ x2 then (Z, n8, x2) else zl_118_9 b x1 m (zh118 b x1 x2 Z n8).1 (zh118 b x1 x2 Z n8).2 (x2 + 1) := by
  have e3 : ∀ {α : Type} (q : qz_Z × Int × Int) (kk : qz_Z → Int → Int → α), zlet3 q kk = kk q.1 q.2.1 q.2.2 := fun _ _ => rfl
  have e2 : ∀ {α : Type} (q : qz_Z × Int) (kk : qz_Z → Int → α), zlet2 q kk = kk q.1 q.2 := fun _ _ => rfl
  rw [zl_118_9]
  split
  · rfl
  unfold zh118
  simp only [zlet, e2, e3]
  split
  · rfl
  · rfl
theorem zR_1 {b : Int} {v w : qz_Z} {k : qz_Z → qz_Z × Int} {k' : qz_Z → qz_Z} {R : qz_Z → qz_Z → Prop} (hv : R v w) (hk : ∀ z y, R z y → zAl b (k z).1 (k' y)) : zAl b (zlet v k).1 (zlet w k') := hk v w hv
theorem zR_2 {b : Int} {q : qz_Z × Int} {w : qz_Z} {k : qz_Z → Int → qz_Z × Int} {k' : qz_Z → qz_Z} {R : qz_Z → qz_Z → Prop} (hv : R q.1 w) (hk : ∀ z i y, R z y → zAl b (k z i).1 (k' y)) : zAl b (zlet2 q k).1 (zlet w k') := hk _ _ w hv
theorem zR_3 {b : Int} {q : qz_Z × Int × Int} {w : qz_Z} {k : qz_Z → Int → Int → qz_Z × Int} {k' : qz_Z → qz_Z} {R : qz_Z → qz_Z → Prop} (hv : R q.1 w) (hk : ∀ z i j y, R z y → zAl b (k z i j).1 (k' y)) : zAl b (zlet3 q k).1 (zlet w k') := hk _ _ _ w hv
/-- the reference's ranges, and the time, behind each piece -/
theorem zT_now {s : zSM} {Y : qz_Z} (hM : zM s Y) (ht : Y 2 0 0 0 ≤ 670) : zM s (zu Y 2 0 0 0 (Y 2 0 0 0 + 1)) ∧ zu Y 2 0 0 0 (Y 2 0 0 0 + 1) 2 0 0 0 = Y 2 0 0 0 + 1 := by
  have r0 := zM_k hM 2 0 0 0 (lo := 0) (hi := 671) (by decide) rfl
  exact ⟨zM_u2 hM rfl (lo := 0) (hi := 671) rfl (by omega) ⟨by decide, by decide⟩ (by simp only [zsp]; omega), zua⟩
theorem zT_505 {s : zSM} {Y : qz_Z} (ν : qz_N) (hM : zM s Y) (hc : s.2 + 5 ≤ 1000000000) : zM (zb s 5) (zf_505 Y) ∧ zf_505 Y 2 0 0 0 = Y 2 0 0 0 := by
  obtain ⟨Y3, e, _, m3, k3, _⟩ := sp_505 (ν := ν) hM hc
  rw [← e]
  exact ⟨m3, k3 2 0 0 0 (by decide)⟩
theorem zT_471 {s : zSM} {Y : qz_Z} (ν : qz_N) (hM : zM s Y) (hc : s.2 + 0 ≤ 1000000000) : zM s (zf_471 Y) ∧ zf_471 Y 2 0 0 0 = Y 2 0 0 0 := by
  obtain ⟨Y3, e, _, m3, k3, _⟩ := sp_471 (ν := ν) hM hc
  rw [← e]
  exact ⟨m3, k3 2 0 0 0 (by decide)⟩
theorem zT_358 {s : zSM} {Y : qz_Z} (ν : qz_N) (hM : zM s Y) (hc : s.2 + 18228 ≤ 1000000000) : zM (zb s 18228) (zf_358 Y) ∧ zf_358 Y 2 0 0 0 = Y 2 0 0 0 := by
  obtain ⟨Y3, e, _, m3, k3, _⟩ := sp_358 (ν := ν) hM hc
  rw [← e]
  exact ⟨m3, k3 2 0 0 0 (by decide)⟩
theorem zT_301 {s : zSM} {Y : qz_Z} (ν : qz_N) (hM : zM s Y) (hJ : zJS Y) (hc : s.2 + 1722 ≤ 1000000000) : zM (zb s 1722) (zf_301 Y) ∧ zf_301 Y 2 0 0 0 = Y 2 0 0 0 := by
  obtain ⟨Y3, e, _, m3, k3, _⟩ := sp_301 (ν := ν) hM (zJS_h ν) hJ hc
  rw [← e]
  exact ⟨m3, k3 2 0 0 0 (by decide)⟩
theorem zT_512 {s : zSM} {Y : qz_Z} (ν : qz_N) (hM : zM s Y) (hc : s.2 + 0 ≤ 1000000000) : zM s (zf_512 Y) ∧ zf_512 Y 2 0 0 0 = Y 2 0 0 0 := by
  obtain ⟨Y3, e, _, m3, k3, _⟩ := sp_512 (ν := ν) hM hc
  rw [← e]
  exact ⟨m3, k3 2 0 0 0 (by decide)⟩
theorem zT_265 {s : zSM} {Y : qz_Z} {a : Int} (ν : qz_N) (hM : zM s Y) (ha : 0 ≤ a ∧ a ≤ 27) (hc : s.2 + 0 ≤ 1000000000) : zM s (zf_265 Y a) ∧ zf_265 Y a 2 0 0 0 = Y 2 0 0 0 := by
  obtain ⟨Y3, e, _, m3, k3, _⟩ := sp_265 (ν := ν) hM ha hc
  rw [← e]
  exact ⟨m3, k3 2 0 0 0 (by decide)⟩
theorem zH_a {b n7 : Int} {s : zSM} {Z7 Y7 : qz_Z} (ν : qz_N) (g7 : zAl b Z7 Y7) (m7 : zM s Y7) (t7 : 1 ≤ Y7 2 0 0 0) (c19 : s.2 + 0 ≤ 1000000000) (c20 : s.2 + 53 ≤ 1000000000) : zAl b (if ((Z7 11 b 0 13) % 24) ≠ 0 then (Z7, n7) else (zlet (zf_17 Z7 b) (fun Z24 => (zf_4 Z24 n7 b)))).1 (if ((Y7 2 0 0 0) % 24) ≠ 0 then Y7 else (zlet (zf_265 Y7 (((Y7 2 0 0 0) / 24) - 1)) (fun Z11 => (zlet (zf_402 Z11 (((Z11 2 0 0 0) / 24) - 1)) (fun Z14 => Z14))))) := by
  have r0 := zM_k m7 2 0 0 0 (lo := 0) (hi := 671) (by decide) rfl
  rw [zRl_11_13 (a := 0) (zS_R g7) rfl]
  by_cases c : Y7 2 0 0 0 % 24 ≠ 0
  · rw [if_pos c, if_pos c]
    exact g7
  · rw [if_neg c, if_neg c]
    have a27 : 0 ≤ Y7 2 0 0 0 / 24 - 1 ∧ Y7 2 0 0 0 / 24 - 1 ≤ 27 := by omega
    refine zR_1 (R := fun z y => zAl b z y ∧ zM s y ∧ y 2 0 0 0 = Y7 2 0 0 0) ⟨(zS_17 g7 m7).1, zT_265 ν m7 a27 c19⟩ (fun Z8 Y8 h8 => ?_)
    rw [zlet_b]
    exact zS_4 ν h8.1 h8.2.1 c20 (by rw [h8.2.2]; omega)
theorem zH_b {b x1 x2 n8 : Int} {s : zSM} {Z6 Y6 : qz_Z} (ν : qz_N) (h6 : zAl b Z6 Y6) (m6 : zM s Y6) (t6 : 1 ≤ Y6 2 0 0 0) (c19 : s.2 + 0 ≤ 1000000000) (c20 : s.2 + 53 ≤ 1000000000) : zAl b (zlet3 (zl_118_5 b x1 x2 5 Z6 n8 0) (fun Z17 n20 y16 => (if ((Z17 11 b 0 13) % 24) ≠ 0 then (Z17, n20) else (zlet (zf_17 Z17 b) (fun Z24 => (zf_4 Z24 n20 b)))))).1 (zlet (zf_512 Y6) (fun Z7 => (if ((Z7 2 0 0 0) % 24) ≠ 0 then Z7 else (zlet (zf_265 Z7 (((Z7 2 0 0 0) / 24) - 1)) (fun Z11 => (zlet (zf_402 Z11 (((Z11 2 0 0 0) / 24) - 1)) (fun Z14 => Z14))))))) := by
  refine zR_3 (R := fun z y => zAl b z y ∧ zM s y ∧ y 2 0 0 0 = Y6 2 0 0 0) ⟨zS_512 h6 m6, zT_512 ν m6 c19⟩ (fun Z7 n7 _ Y7 h7 => ?_)
  exact zH_a ν h7.1 h7.2.1 (by rw [h7.2.2]; exact t6) c19 c20
theorem zH_c {b x1 x2 n8 : Int} {s : zSM} {Z4 Y4 : qz_Z} (ν : qz_N) (h4 : zAl b Z4 Y4) (m4 : zM s Y4) (t4 : 1 ≤ Y4 2 0 0 0) (c18 : s.2 + 18228 ≤ 1000000000) (c17 : (zb s 18228).2 + 1722 ≤ 1000000000) (c11 : (zb s 18228).2 + 1148 ≤ 1000000000) (c19 : (zb (zb s 18228) 1722).2 + 0 ≤ 1000000000) (c20 : (zb (zb s 18228) 1722).2 + 53 ≤ 1000000000) : zAl b (zlet2 (zl_118_1 b x1 x2 3 Z4 0) (fun Z9 y8 => (zlet2 (zl_118_4 b x1 x2 3 Z9 0) (fun Z13 y12 => (zlet3 (zl_118_5 b x1 x2 5 Z13 n8 0) (fun Z17 n20 y16 => (if ((Z17 11 b 0 13) % 24) ≠ 0 then (Z17, n20) else (zlet (zf_17 Z17 b) (fun Z24 => (zf_4 Z24 n20 b)))))))))).1 (zlet (zf_358 Y4) (fun Z5 => (zlet (zf_301 Z5) (fun Z6 => (zlet (zf_512 Z6) (fun Z7 => (if ((Z7 2 0 0 0) % 24) ≠ 0 then Z7 else (zlet (zf_265 Z7 (((Z7 2 0 0 0) / 24) - 1)) (fun Z11 => (zlet (zf_402 Z11 (((Z11 2 0 0 0) / 24) - 1)) (fun Z14 => Z14))))))))))) := by
  refine zR_2 (R := fun z y => zAl b z y ∧ zM (zb s 18228) y ∧ y 2 0 0 0 = Y4 2 0 0 0) ⟨zS_358 ν h4 m4 c18, zT_358 ν m4 c18⟩ (fun Z5 _ Y5 h5 => ?_)
  refine zR_2 (R := fun z y => zAl b z y ∧ zM (zb (zb s 18228) 1722) y ∧ y 2 0 0 0 = Y4 2 0 0 0) ⟨zS_301 ν h5.1 h5.2.1 c11, (zT_301 ν h5.2.1 ⟨b, _, h5.1⟩ c17).1, (zT_301 ν h5.2.1 ⟨b, _, h5.1⟩ c17).2.trans h5.2.2⟩ (fun Z6 _ Y6 h6 => ?_)
  exact zH_b ν h6.1 h6.2.1 (by rw [h6.2.2]; exact t4) c19 c20
theorem zS_hour {b x1 x2 n8 : Int} {s : zSM} {Z Y : qz_Z} (ν : qz_N) (h : zAl b Z Y) (hM : zM s Y) (ht : Y 2 0 0 0 ≤ 670) (hc : s.2 + 20008 ≤ 1000000000) : zAl b (zh118 b x1 x2 Z n8).1 (zf_553 Y) := by
  have c5 : s.2 + 5 ≤ 1000000000 := by omega
  have c0 : (zb s 5).2 + 0 ≤ 1000000000 := zbh (c := 5) (k := 0) hc (Nat.le_of_ble_eq_true rfl)
  have c18 : (zb s 5).2 + 18228 ≤ 1000000000 := zbh (c := 5) (k := 18228) hc (Nat.le_of_ble_eq_true rfl)
  have c6 : (zb s 5).2 + 20003 ≤ 1000000000 := zbh (c := 5) (k := 20003) hc (Nat.le_of_ble_eq_true rfl)
  have c17 : (zb (zb s 5) 18228).2 + 1722 ≤ 1000000000 := zbh (c := 18228) (k := 1722) c6 (Nat.le_of_ble_eq_true rfl)
  have c11 : (zb (zb s 5) 18228).2 + 1148 ≤ 1000000000 := zbh (c := 18228) (k := 1148) c6 (Nat.le_of_ble_eq_true rfl)
  have c7 : (zb (zb s 5) 18228).2 + 1775 ≤ 1000000000 := zbh (c := 18228) (k := 1775) c6 (Nat.le_of_ble_eq_true rfl)
  have c19 : (zb (zb (zb s 5) 18228) 1722).2 + 0 ≤ 1000000000 := zbh (c := 1722) (k := 0) c7 (Nat.le_of_ble_eq_true rfl)
  have c20 : (zb (zb (zb s 5) 18228) 1722).2 + 53 ≤ 1000000000 := zbh (c := 1722) (k := 53) c7 (Nat.le_of_ble_eq_true rfl)
  have r0 := zM_k hM 2 0 0 0 (lo := 0) (hi := 671) (by decide) rfl
  have r1 : 1 ≤ Y 2 0 0 0 + 1 := by omega
  unfold zh118 zf_553
  refine zR_1 (R := fun z y => zAl b z y ∧ zM s y ∧ y 2 0 0 0 = Y 2 0 0 0 + 1) ⟨zS_t h ht, zT_now hM ht⟩ (fun Z2 Y2 h2 => ?_)
  refine zR_1 (R := fun z y => zAl b z y ∧ zM (zb s 5) y ∧ y 2 0 0 0 = Y 2 0 0 0 + 1) ⟨zS_39 h2.1, (zT_505 ν h2.2.1 c5).1, (zT_505 ν h2.2.1 c5).2.trans h2.2.2⟩ (fun Z3 Y3 h3 => ?_)
  refine zR_1 (R := fun z y => zAl b z y ∧ zM (zb s 5) y ∧ y 2 0 0 0 = Y 2 0 0 0 + 1) ⟨zS_171 h3.1, (zT_471 ν h3.2.1 c0).1, (zT_471 ν h3.2.1 c0).2.trans h3.2.2⟩ (fun Z4 Y4 h4 => ?_)
  exact zH_c ν h4.1 h4.2.1 (by rw [h4.2.2]; exact r1) c18 c17 c11 c19 c20
/-- hours go by -/
theorem zT_553 {s : zSM} {Y : qz_Z} (ν : qz_N) (hM : zM s Y) (ht : Y 2 0 0 0 ≤ 670) (hJ : zJS Y) (hc : s.2 + 20008 ≤ 1000000000) : zM (zb s 20008) (zf_553 Y) ∧ zf_553 Y 2 0 0 0 = Y 2 0 0 0 + 1 := by
  obtain ⟨Y1, e, _, m1, _, _, _, t1⟩ := sp_553 (ν := ν) hM ht (zJS_h ν) hJ hc
  rw [← e]
  exact ⟨m1, t1⟩
theorem zS_pass {b x1 : Int} (ν : qz_N) : ∀ (m : Nat) (Z Y : qz_Z) (n8 x : Int) (s : zSM), zAl b Z Y → zM s Y → s.2 + 20008 * (x1 - x).toNat ≤ 1000000000 → 0 ≤ x → x ≤ x1 → Y 2 0 0 0 + (x1 - x) ≤ 671 → x1 - x < (m : Int) → zAl b (zl_118_9 b x1 m Z n8 x).1 (zl_450_1 x1 m Y x).1 ∧ (zl_450_1 x1 m Y x).1 2 0 0 0 = Y 2 0 0 0 + (x1 - x) ∧ ∃ s2 : zSM, zM s2 (zl_450_1 x1 m Y x).1 ∧ s2.1 = s.1 ∧ s2.2 ≤ s.2 + 20008 * (x1 - x).toNat
  | 0, _, _, _, _, _, _, _, _, _, _, _, _ => by omega
  | m + 1, Z, Y, n8, x, s, h, hM, hc, x0, x1', ht, hm => by
    rw [zl118_9]
    unfold zl_450_1
    by_cases c : x1 ≤ x
    · rw [if_pos c, if_pos c]
      exact ⟨h, by show Y 2 0 0 0 = _; omega, s, hM, rfl, by omega⟩
    rw [if_neg c, if_neg c, zlet_b]
    have c1 : s.2 + 20008 ≤ 1000000000 := by omega
    have c2 : (zb s 20008).2 + 20008 * (x1 - (x + 1)).toNat ≤ 1000000000 := by
      show s.2 + 20008 + 20008 * (x1 - (x + 1)).toNat ≤ 1000000000
      omega
    have c3 : s.2 + 20008 + 20008 * (x1 - (x + 1)).toNat = s.2 + 20008 * (x1 - x).toNat := by omega
    have h1 := zS_hour (x1 := x1) (x2 := x) (n8 := n8) ν h hM (by omega) c1
    obtain ⟨m1, t1⟩ := zT_553 ν hM (by omega) ⟨b, _, h⟩ c1
    generalize zf_553 Y = Y1 at h1 m1 t1 ⊢
    obtain ⟨h2, t2, s2, a1, a2, a3⟩ := zS_pass ν m (zh118 b x1 x Z n8).1 Y1 (zh118 b x1 x Z n8).2 (x + 1) (zb s 20008) h1 m1 c2 (by omega) (by omega) (by omega) (by omega)
    have a4 : s2.2 ≤ s.2 + 20008 + 20008 * (x1 - (x + 1)).toNat := a3
    refine ⟨h2, ?_, s2, a1, a2, by rw [← c3]; exact a4⟩
    rw [t2]
    omega
