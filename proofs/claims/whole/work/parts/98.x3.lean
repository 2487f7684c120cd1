/-! A hall of the class and the row of the reference: all that binds them. -/
/-- trucks that aren't there are not out -/
def zNt (Y : qz_Z) : Prop := ∀ t : Int, Y 2 0 0 3200 ≤ t → t < 4 → Y 2 0 0 (3252 + 24 * t) = 0
theorem zNt_f {K : List Nat} {Y M : qz_Z} (h : zNt Y) (hV : zV Y) (g : yFa K Y M) (e : K.contains 5002 = false ∧ K.contains 1108 = false) : zNt M := fun t h0 h1 => by
  have v := zVr_11_8 (a := 3200) hV rfl
  rw [yFr_at 1108 g e.2 (zcm_s (ac_11_8 rfl))] at h0
  rw [yFr_at 5002 g e.1 (zcm_s (ac_50_2 (by omega) h1 rfl))]
  exact h t h0 h1
theorem zNt_z {b : Int} {Z Y C M : qz_Z} {K : List Nat} (h : zNt Y) (hRa : zR b Z Y) (hV : zV Y) (hRc : zR b C M) (g : yFa K Y M) (e : K.contains 1108 = false) (hz : ∀ t, Z 11 b 0 8 ≤ t → C 50 b t 2 = Z 50 b t 2) : zNt M := fun t h0 h1 => by
  have v := zVr_11_8 (a := 3200) hV rfl
  rw [yFr_at 1108 g e (zcm_s (ac_11_8 rfl))] at h0
  have hp : Z 11 b 0 8 ≤ t := by rw [zRl_11_8 (a := 3200) hRa rfl]; exact h0
  rw [← zRl_50_2 (x := t) (a := 3252 + 24 * t) hRc (by omega) h1 rfl, hz t hp, zRl_50_2 (x := t) (a := 3252 + 24 * t) hRa (by omega) h1 rfl]
  exact h t h0 h1
/-- other trucks aren't touched -/
theorem z1070_k {b n : Int} {Z : qz_Z} {k : Nat} {c i j : Int} (hk : k ≠ 200) : (zf_1070 Z b n).1 k c i j = Z k c i j := by
  have e3 : ∀ {α : Type} (q : qz_Z × Int × Int) (kk : qz_Z → Int → Int → α), zlet3 q kk = kk q.1 q.2.1 q.2.2 := fun _ _ => rfl
  have l3 : ∀ (m : Nat) (C : qz_Z) (x4 x5 : Int), (zl_1070_3 b m C x4 x5).1 k c i j = C k c i j := fun m => by
    induction m with
    | zero => exact fun _ _ _ => rfl
    | succ m ih =>
      intro C x4 x5
      unfold zl_1070_3
      split
      · rfl
      · simp only [zlet]
        rw [ih, zu_ne rfl (fun q => hk q.1), zu_ne rfl (fun q => hk q.1)]
  unfold zf_1070
  simp only [zlet, e3]
  split
  · rw [l3, zu_ne rfl (fun q => hk q.1), zu_ne rfl (fun q => hk q.1)]
  · rfl
theorem z1056_k {n b a b2 : Int} {Z : qz_Z} {k : Nat} {c i j : Int} (hk : k ≠ 200) : (zf_1056 Z n b a b2).1 k c i j = Z k c i j := by
  have e3 : ∀ {α : Type} (q : qz_Z × Int × Int) (kk : qz_Z → Int → Int → α), zlet3 q kk = kk q.1 q.2.1 q.2.2 := fun _ _ => rfl
  have e4 : ∀ {α : Type} (q : qz_Z × Int × Int × Int) (kk : qz_Z → Int → Int → Int → α), zlet4 q kk = kk q.1 q.2.1 q.2.2.1 q.2.2.2 := fun _ _ => rfl
  have l1 : ∀ (m : Nat) (C : qz_Z) (x1 x4 x5 : Int), (zl_1056_1 b b2 n x1 m C x4 x5).1 k c i j = C k c i j := fun m => by
    induction m with
    | zero => exact fun _ _ _ _ => rfl
    | succ m ih =>
      intro C x1 x4 x5
      unfold zl_1056_1
      split
      · rfl
      simp only [zlet]
      split
      · rw [ih, zu_ne rfl (fun q => hk q.1)]
      · rw [ih, zu_ne rfl (fun q => hk q.1), zu_ne rfl (fun q => hk q.1)]
  have py : ∀ (C : qz_Z) (x4 : Int), zpy C 200 n 0 200 b2 0 0 x4 k c i j = C k c i j := fun C x4 => if_neg (fun q => hk q.1)
  have l2 : ∀ (m : Nat) (C : qz_Z) (x4 x5 x6 x7 : Int), (zl_1056_2 b b2 n x4 m C x5 x6 x7).1 k c i j = C k c i j := fun m => by
    induction m with
    | zero => exact fun _ _ _ _ _ => rfl
    | succ m ih =>
      intro C x4 x5 x6 x7
      unfold zl_1056_2
      split
      · rfl
      split
      · rfl
      simp only [zlet, zlet2]
      split
      · rw [ih, z1070_k hk, py]
      split
      · rw [ih, z1070_k hk]
      · rw [ih, z1070_k hk, py]
  unfold zf_1056
  simp only [zlet, e3, e4]
  rw [l2, l1]
  exact if_neg (fun q => hk q.1)
theorem zlet_pP {α : Type} {P : qz_Z → Prop} {v : qz_Z} {k : qz_Z → qz_Z × α} (hv : P v) (hk : ∀ z, P z → P (k z).1) : P (zlet v k).1 := hk v hv
theorem zlet_iP {α : Type} {P : qz_Z → Prop} {v : Int} {k : Int → qz_Z × α} (hk : ∀ z, P (k z).1) : P (zlet v k).1 := hk v
theorem zlet2_P {α β : Type} {P : qz_Z → Prop} {q : qz_Z × β} {k : qz_Z → β → qz_Z × α} (hq : P q.1) (hk : ∀ z x, P z → P (k z x).1) : P (zlet2 q k).1 := hk _ _ hq
theorem zlet3_P {α β γ : Type} {P : qz_Z → Prop} {q : qz_Z × β × γ} {k : qz_Z → β → γ → qz_Z × α} (hq : P q.1) (hk : ∀ z x y, P z → P (k z x y).1) : P (zlet3 q k).1 := hk _ _ _ hq
theorem zlet4_P {α β γ δ : Type} {P : qz_Z → Prop} {q : qz_Z × β × γ × δ} {k : qz_Z → β → γ → δ → qz_Z × α} (hq : P q.1) (hk : ∀ z x y w, P z → P (k z x y w).1) : P (zlet4 q k).1 := hk _ _ _ _ hq
theorem z50_45 {n b t r j : Int} {Z : qz_Z} (hr : r ≠ t) : (zf_45 Z n b t).1 50 b r j = Z 50 b r j := by
  have l1 : ∀ (m : Nat) (C : qz_Z) (x4 x5 x6 x7 : Int), (zl_45_1 b t x4 m C x5 x6 x7).1 50 b r j = C 50 b r j := fun m => by
    induction m with
    | zero => exact fun _ _ _ _ _ => rfl
    | succ m ih =>
      intro C x4 x5 x6 x7
      unfold zl_45_1
      split
      · rfl
      split
      · simp only [zlet]
        rw [ih, zu_ne rfl (fun q => hr q.2.2.1), zu_ne rfl (fun q => hr q.2.2.1)]
      · simp only [zlet]
        rw [ih, zu_ne rfl (fun q => hr q.2.2.1), zu_ne rfl (fun q => hr q.2.2.1)]
  have u1 : ∀ (C : qz_Z) (j' v : Int), zu C 50 b t j' v 50 b r j = C 50 b r j := fun C j' v => zu_ne rfl (fun q => hr q.2.2.1)
  unfold zf_45
  by_cases c1 : Z 50 b t 2 = 1
  · rw [if_pos c1]
  rw [if_neg c1]
  by_cases c2 : Z 50 b t 3 = Z 11 b 0 13
  · rw [if_pos c2]
    refine zlet_pP (P := fun C => C 50 b r j = Z 50 b r j) (u1 _ _ _) (fun Z6 h6 => ?_)
    refine zlet_iP (P := fun C => C 50 b r j = Z 50 b r j) (fun v8 => ?_)
    by_cases c3 : v8 ≠ 0
    · rw [if_pos c3]
      refine zlet_pP (P := fun C => C 50 b r j = Z 50 b r j) ((if_neg (fun q => absurd q.1 (by decide))).trans h6) (fun Z10 h10 => ?_)
      refine zlet_iP (P := fun C => C 50 b r j = Z 50 b r j) (fun n12 => ?_)
      refine zlet3_P (P := fun C => C 50 b r j = Z 50 b r j) ((z1056_k (by decide)).trans h10) (fun Z14 _ _ h14 => ?_)
      refine zlet_pP (P := fun C => C 50 b r j = Z 50 b r j) ((u1 _ _ _).trans h14) (fun Z19 h19 => ?_)
      refine zlet_pP (P := fun C => C 50 b r j = Z 50 b r j) ((u1 _ _ _).trans h19) (fun Z21 h21 => ?_)
      refine zlet_pP (P := fun C => C 50 b r j = Z 50 b r j) ((u1 _ _ _).trans h21) (fun Z25 h25 => ?_)
      refine zlet_pP (P := fun C => C 50 b r j = Z 50 b r j) ((u1 _ _ _).trans h25) (fun Z31 h31 => ?_)
      refine zlet_pP (P := fun C => C 50 b r j = Z 50 b r j) ((u1 _ _ _).trans h31) (fun Z35 h35 => ?_)
      exact zlet4_P (P := fun C => C 50 b r j = Z 50 b r j) ((l1 _ _ _ _ _ _).trans h35) (fun _ _ _ _ h => h)
    · rw [if_neg c3]
      exact h6
  · rw [if_neg c2]
theorem z50_39 {b r : Int} {Z : qz_Z} (hr : Z 11 b 0 8 ≤ r) : zf_39 Z b 50 b r 2 = Z 50 b r 2 := by
  have l41 : ∀ (m : Nat) (C : qz_Z) (t w x : Int), (zl_41_1 b t w m C x).1 50 b r 2 = C 50 b r 2 ∧ (zl_41_1 b t w m C x).1 11 b 0 8 = C 11 b 0 8 := fun m => by
    induction m with
    | zero => exact fun _ _ _ _ => ⟨rfl, rfl⟩
    | succ m ih =>
      intro C t w x
      unfold zl_41_1
      split
      · exact ⟨rfl, rfl⟩
      split
      · exact ih _ _ _ _
      split
      · exact ih _ _ _ _
      simp only [zlet]
      rw [(ih _ _ _ _).1, (ih _ _ _ _).2]
      simp [zuq]
  have l1 : ∀ (m : Nat) (C : qz_Z) (t x : Int), (zl_39_1 b t t m C x).1 50 b r 2 = C 50 b r 2 ∧ (zl_39_1 b t t m C x).1 11 b 0 8 = C 11 b 0 8 := fun m => by
    induction m with
    | zero => exact fun _ _ _ => ⟨rfl, rfl⟩
    | succ m ih =>
      intro C t x
      unfold zl_39_1
      split
      · exact ⟨rfl, rfl⟩
      split
      · exact ih _ _ _
      simp only [zlet]
      rw [(ih _ _ _).1, (ih _ _ _).2]
      exact l41 61 C t _ 0
  have l4 : ∀ (m : Nat) (C : qz_Z) (x : Int), C 11 b 0 8 = Z 11 b 0 8 → C 50 b r 2 = Z 50 b r 2 → (zl_39_4 b m C x).1 50 b r 2 = Z 50 b r 2 := fun m => by
    induction m with
    | zero => exact fun _ _ _ h => h
    | succ m ih =>
      intro C x h8 h
      unfold zl_39_4
      split
      · exact h
      rename_i g1
      have n : r ≠ x := by omega
      split
      · exact ih _ _ h8 h
      simp only [zlet, zlet2]
      obtain ⟨a1, a2⟩ := l1 6 C x 0
      split
      · exact ih _ _ (a2.trans h8) (a1.trans h)
      split
      · refine ih _ _ ?_ ?_
        · simp [zuq]
          exact a2.trans h8
        · simp [zuq, n]
          exact a1.trans h
      · refine ih _ _ ?_ ?_
        · simp [zuq]
          exact a2.trans h8
        · simp [zuq, n]
          exact a1.trans h
  unfold zf_39
  simp only [zlet2]
  exact l4 _ _ _ rfl rfl
def zAl (b : Int) (Z Y : qz_Z) : Prop := zR b Z Y ∧ zV Y ∧ zD1 b Z Y ∧ zD4 b Z Y ∧ zN1 Y ∧ zN4 Y ∧ zN8 Y ∧ zN9 Y ∧ zNL Y ∧ zDl b Z Y ∧ zDs b Z Y ∧ zDw b Z Y ∧ Z 40 b 5 5 = 0 ∧ zDt b Z Y ∧ zFn b Z Y ∧ zNp Y ∧ zNr Y ∧ zNi Y ∧ zNq Y ∧ zNk Y ∧ zNt Y ∧ zDb b Z ∧ zPb b Z ∧ zKb (-1) b Z
section SS
variable {b : Int} {Z Y : qz_Z}
theorem zS_R (h : zAl b Z Y) : zR b Z Y := h.1
theorem zS_V (h : zAl b Z Y) : zV Y := h.2.1
theorem zS_D1 (h : zAl b Z Y) : zD1 b Z Y := h.2.2.1
theorem zS_D4 (h : zAl b Z Y) : zD4 b Z Y := h.2.2.2.1
theorem zS_N1 (h : zAl b Z Y) : zN1 Y := h.2.2.2.2.1
theorem zS_N4 (h : zAl b Z Y) : zN4 Y := h.2.2.2.2.2.1
theorem zS_N8 (h : zAl b Z Y) : zN8 Y := h.2.2.2.2.2.2.1
theorem zS_N9 (h : zAl b Z Y) : zN9 Y := h.2.2.2.2.2.2.2.1
theorem zS_NL (h : zAl b Z Y) : zNL Y := h.2.2.2.2.2.2.2.2.1
theorem zS_Dl (h : zAl b Z Y) : zDl b Z Y := h.2.2.2.2.2.2.2.2.2.1
theorem zS_Ds (h : zAl b Z Y) : zDs b Z Y := h.2.2.2.2.2.2.2.2.2.2.1
theorem zS_Dw (h : zAl b Z Y) : zDw b Z Y := h.2.2.2.2.2.2.2.2.2.2.2.1
theorem zS_Dg (h : zAl b Z Y) : Z 40 b 5 5 = 0 := h.2.2.2.2.2.2.2.2.2.2.2.2.1
theorem zS_Dt (h : zAl b Z Y) : zDt b Z Y := h.2.2.2.2.2.2.2.2.2.2.2.2.2.1
theorem zS_Fn (h : zAl b Z Y) : zFn b Z Y := h.2.2.2.2.2.2.2.2.2.2.2.2.2.2.1
theorem zS_Np (h : zAl b Z Y) : zNp Y := h.2.2.2.2.2.2.2.2.2.2.2.2.2.2.2.1
theorem zS_Nr (h : zAl b Z Y) : zNr Y := h.2.2.2.2.2.2.2.2.2.2.2.2.2.2.2.2.1
theorem zS_Ni (h : zAl b Z Y) : zNi Y := h.2.2.2.2.2.2.2.2.2.2.2.2.2.2.2.2.2.1
theorem zS_Nq (h : zAl b Z Y) : zNq Y := h.2.2.2.2.2.2.2.2.2.2.2.2.2.2.2.2.2.2.1
theorem zS_Nk (h : zAl b Z Y) : zNk Y := h.2.2.2.2.2.2.2.2.2.2.2.2.2.2.2.2.2.2.2.1
theorem zS_Nt (h : zAl b Z Y) : zNt Y := h.2.2.2.2.2.2.2.2.2.2.2.2.2.2.2.2.2.2.2.2.1
theorem zS_Db (h : zAl b Z Y) : zDb b Z := h.2.2.2.2.2.2.2.2.2.2.2.2.2.2.2.2.2.2.2.2.2.1
theorem zS_Pb (h : zAl b Z Y) : zPb b Z := h.2.2.2.2.2.2.2.2.2.2.2.2.2.2.2.2.2.2.2.2.2.2.1
theorem zS_Kb (h : zAl b Z Y) : zKb (-1) b Z := h.2.2.2.2.2.2.2.2.2.2.2.2.2.2.2.2.2.2.2.2.2.2.2
theorem zS_K4 (h : zAl b Z Y) : zK4 b Z := ⟨zS_Db h, zS_Pb h, zS_Kb h⟩
end SS
/-- rows that aren't there yet, by the class's -/
theorem zNp_u : (List.range 48).all (fun p => (List.range 6).all (fun j => Nat.beq (zcm (214 + 20 * (p : Int) + (j : Int))) 0)) = true := by decide +kernel
theorem zNp_v {p j : Int} (p0 : 0 ≤ p) (p1 : p < 48) (j0 : 0 ≤ j) (j1 : j < 6) : zcm (214 + 20 * p + j) = 0 := by
  have h := List.all_eq_true.mp (List.all_eq_true.mp zNp_u p.toNat (List.mem_range.mpr (by omega))) j.toNat (List.mem_range.mpr (by omega))
  rw [show ((p.toNat : Nat) : Int) = p by omega, show ((j.toNat : Nat) : Int) = j by omega] at h
  exact Nat.eq_of_beq_eq_true h
theorem zNp_z {b : Int} {Z Y C M : qz_Z} {K : List Nat} (h : zNp Y) (hRa : zR b Z Y) (hV : zV Y) (hRc : zR b C M) (g : yFa K Y M) (e : K.contains 0 = false ∧ K.contains 1103 = false) (hz : ∀ p j, Z 11 b 0 3 ≤ p → C 44 b p j = Z 44 b p j) : zNp M := fun a h0 h1 => by
  have c3 : M 2 0 0 102 = Y 2 0 0 102 := yFr_at 1103 g e.2 (zcm_s (ac_11_3 rfl))
  have v3 := zVr_11_3 (a := 102) hV rfl
  rw [c3] at h0
  obtain ⟨p, j, ea, j0, j1⟩ : ∃ p j : Int, a = 200 + 20 * p + j ∧ 0 ≤ j ∧ j < 20 := ⟨(a - 200) / 20, (a - 200) % 20, by omega, by omega, by omega⟩
  have p0 : Y 2 0 0 102 ≤ p := by omega
  have p1 : p < 48 := by omega
  have q0 : 0 ≤ p := by omega
  have hp : Z 11 b 0 3 ≤ p := by rw [zRl_11_3 (a := 102) hRa rfl]; exact p0
  have y0 := h a h0 h1
  by_cases j14 : 14 ≤ j
  · obtain ⟨i, ei⟩ : ∃ i : Int, j = 14 + i := ⟨j - 14, by omega⟩
    have ez : zcm a = 0 := by rw [ea, ei, show 200 + 20 * p + (14 + i) = 214 + 20 * p + i by omega]; exact zNp_v q0 p1 (by omega) (by omega)
    rw [yFr_at 0 g e.1 ez]
    exact y0
  · have c : j = 0 ∨ j = 1 ∨ j = 2 ∨ j = 3 ∨ j = 4 ∨ j = 5 ∨ j = 6 ∨ j = 7 ∨ j = 8 ∨ j = 9 ∨ j = 10 ∨ j = 11 ∨ j = 12 ∨ j = 13 := by omega
    rcases c with rfl | rfl | rfl | rfl | rfl | rfl | rfl | rfl | rfl | rfl | rfl | rfl | rfl | rfl
    · rw [← zRl_44_0 (x := p) (a := a) hRc q0 p1 (by omega), hz p 0 hp, zRl_44_0 (x := p) (a := a) hRa q0 p1 (by omega)]
      exact y0
    · rw [← zRl_44_1 (x := p) (a := a) hRc q0 p1 (by omega), hz p 1 hp, zRl_44_1 (x := p) (a := a) hRa q0 p1 (by omega)]
      exact y0
    · rw [← zRl_44_2 (x := p) (a := a) hRc q0 p1 (by omega), hz p 2 hp, zRl_44_2 (x := p) (a := a) hRa q0 p1 (by omega)]
      exact y0
    · rw [← zRl_44_3 (x := p) (a := a) hRc q0 p1 (by omega), hz p 3 hp, zRl_44_3 (x := p) (a := a) hRa q0 p1 (by omega)]
      exact y0
    · rw [← zRl_44_4 (x := p) (a := a) hRc q0 p1 (by omega), hz p 4 hp, zRl_44_4 (x := p) (a := a) hRa q0 p1 (by omega)]
      exact y0
    · rw [← zRl_44_5 (x := p) (a := a) hRc q0 p1 (by omega), hz p 5 hp, zRl_44_5 (x := p) (a := a) hRa q0 p1 (by omega)]
      exact y0
    · rw [← zRl_44_6 (x := p) (a := a) hRc q0 p1 (by omega), hz p 6 hp, zRl_44_6 (x := p) (a := a) hRa q0 p1 (by omega)]
      exact y0
    · rw [← zRl_44_7 (x := p) (a := a) hRc q0 p1 (by omega), hz p 7 hp, zRl_44_7 (x := p) (a := a) hRa q0 p1 (by omega)]
      exact y0
    · rw [← zRl_44_8 (x := p) (a := a) hRc q0 p1 (by omega), hz p 8 hp, zRl_44_8 (x := p) (a := a) hRa q0 p1 (by omega)]
      exact y0
    · rw [← zRl_44_9 (x := p) (a := a) hRc q0 p1 (by omega), hz p 9 hp, zRl_44_9 (x := p) (a := a) hRa q0 p1 (by omega)]
      exact y0
    · rw [← zRl_44_10 (x := p) (a := a) hRc q0 p1 (by omega), hz p 10 hp, zRl_44_10 (x := p) (a := a) hRa q0 p1 (by omega)]
      exact y0
    · rw [← zRl_44_12 (x := p) (a := a) hRc q0 p1 (by omega), hz p 12 hp, zRl_44_12 (x := p) (a := a) hRa q0 p1 (by omega)]
      exact y0
    · rw [← zRl_44_14 (x := p) (a := a) hRc q0 p1 (by omega), hz p 14 hp, zRl_44_14 (x := p) (a := a) hRa q0 p1 (by omega)]
      exact y0
    · rw [← zRl_44_15 (x := p) (a := a) hRc q0 p1 (by omega), hz p 15 hp, zRl_44_15 (x := p) (a := a) hRa q0 p1 (by omega)]
      exact y0
theorem zNr_u : (List.range 6).all (fun p => (List.range 3).all (fun j => Nat.beq (zcm (1219 + 12 * (p : Int) + (j : Int))) 0)) = true := by decide +kernel
theorem zNr_v {p j : Int} (p0 : 0 ≤ p) (p1 : p < 6) (j0 : 0 ≤ j) (j1 : j < 3) : zcm (1219 + 12 * p + j) = 0 := by
  have h := List.all_eq_true.mp (List.all_eq_true.mp zNr_u p.toNat (List.mem_range.mpr (by omega))) j.toNat (List.mem_range.mpr (by omega))
  rw [show ((p.toNat : Nat) : Int) = p by omega, show ((j.toNat : Nat) : Int) = j by omega] at h
  exact Nat.eq_of_beq_eq_true h
theorem zNr_z {b : Int} {Z Y C M : qz_Z} {K : List Nat} (h : zNr Y) (hRa : zR b Z Y) (hV : zV Y) (hRc : zR b C M) (g : yFa K Y M) (e : K.contains 0 = false ∧ K.contains 1102 = false ∧ K.contains 10016 = false) (hz : ∀ p j, Z 11 b 0 2 ≤ p → C 43 b p j = Z 43 b p j) : zNr M := by
  have c3 : M 2 0 0 1200 = Y 2 0 0 1200 := yFr_at 1102 g e.2.1 (zcm_s (ac_11_2 rfl))
  have v3 := zVr_11_2 (a := 1200) hV rfl
  refine ⟨fun a h0 h1 => ?_, fun r r0 r1 => ?_⟩
  · rw [c3] at h0
    obtain ⟨p, j, ea, j0, j1⟩ : ∃ p j : Int, a = 1210 + 12 * p + j ∧ 0 ≤ j ∧ j < 12 := ⟨(a - 1210) / 12, (a - 1210) % 12, by omega, by omega, by omega⟩
    have p0 : Y 2 0 0 1200 ≤ p := by omega
    have p1 : p < 6 := by omega
    have q0 : 0 ≤ p := by omega
    have hp : Z 11 b 0 2 ≤ p := by rw [zRl_11_2 (a := 1200) hRa rfl]; exact p0
    have y0 := h.1 a h0 h1
    by_cases j9 : 9 ≤ j
    · obtain ⟨i, ei⟩ : ∃ i : Int, j = 9 + i := ⟨j - 9, by omega⟩
      have ez : zcm a = 0 := by rw [ea, ei, show 1210 + 12 * p + (9 + i) = 1219 + 12 * p + i by omega]; exact zNr_v q0 p1 (by omega) (by omega)
      rw [yFr_at 0 g e.1 ez]
      exact y0
    · have c : j = 0 ∨ j = 1 ∨ j = 2 ∨ j = 3 ∨ j = 4 ∨ j = 5 ∨ j = 6 ∨ j = 7 ∨ j = 8 := by omega
      rcases c with rfl | rfl | rfl | rfl | rfl | rfl | rfl | rfl | rfl
      · rw [← zRl_43_0 (x := p) (a := a) hRc q0 p1 (by omega), hz p 0 hp, zRl_43_0 (x := p) (a := a) hRa q0 p1 (by omega)]
        exact y0
      · rw [← zRl_43_1 (x := p) (a := a) hRc q0 p1 (by omega), hz p 1 hp, zRl_43_1 (x := p) (a := a) hRa q0 p1 (by omega)]
        exact y0
      · rw [← zRl_43_2 (x := p) (a := a) hRc q0 p1 (by omega), hz p 2 hp, zRl_43_2 (x := p) (a := a) hRa q0 p1 (by omega)]
        exact y0
      · rw [← zRl_43_3 (x := p) (a := a) hRc q0 p1 (by omega), hz p 3 hp, zRl_43_3 (x := p) (a := a) hRa q0 p1 (by omega)]
        exact y0
      · rw [← zRl_43_4 (x := p) (a := a) hRc q0 p1 (by omega), hz p 4 hp, zRl_43_4 (x := p) (a := a) hRa q0 p1 (by omega)]
        exact y0
      · rw [← zRl_43_5 (x := p) (a := a) hRc q0 p1 (by omega), hz p 5 hp, zRl_43_5 (x := p) (a := a) hRa q0 p1 (by omega)]
        exact y0
      · rw [← zRl_43_7 (x := p) (a := a) hRc q0 p1 (by omega), hz p 7 hp, zRl_43_7 (x := p) (a := a) hRa q0 p1 (by omega)]
        exact y0
      · rw [← zRl_43_8 (x := p) (a := a) hRc q0 p1 (by omega), hz p 8 hp, zRl_43_8 (x := p) (a := a) hRa q0 p1 (by omega)]
        exact y0
      · rw [← zRl_43_9 (x := p) (a := a) hRc q0 p1 (by omega), hz p 9 hp, zRl_43_9 (x := p) (a := a) hRa q0 p1 (by omega)]
        exact y0
  · rw [c3] at r0
    rw [yFr_at 10016 g e.2.2 (zcm_shut (x := r) (by omega) r1 rfl)]
    exact h.2 r r0 r1
theorem zNi_u : (List.range 2).all (fun p => (List.range 2).all (fun j => Nat.beq (zcm (3528 + 10 * (p : Int) + (j : Int))) 0)) = true := by decide +kernel
theorem zNi_v {p j : Int} (p0 : 0 ≤ p) (p1 : p < 2) (j0 : 0 ≤ j) (j1 : j < 2) : zcm (3528 + 10 * p + j) = 0 := by
  have h := List.all_eq_true.mp (List.all_eq_true.mp zNi_u p.toNat (List.mem_range.mpr (by omega))) j.toNat (List.mem_range.mpr (by omega))
  rw [show ((p.toNat : Nat) : Int) = p by omega, show ((j.toNat : Nat) : Int) = j by omega] at h
  exact Nat.eq_of_beq_eq_true h
theorem zNi_z {b : Int} {Z Y C M : qz_Z} {K : List Nat} (h : zNi Y) (hRa : zR b Z Y) (hV : zV Y) (hRc : zR b C M) (g : yFa K Y M) (e : K.contains 0 = false ∧ K.contains 1109 = false) (hz : ∀ p j, Z 11 b 0 9 ≤ p → C 51 b p j = Z 51 b p j) : zNi M := fun a h0 h1 => by
  have c3 : M 2 0 0 3500 = Y 2 0 0 3500 := yFr_at 1109 g e.2 (zcm_s (ac_11_9 rfl))
  have v3 := zVr_11_9 (a := 3500) hV rfl
  rw [c3] at h0
  obtain ⟨p, j, ea, j0, j1⟩ : ∃ p j : Int, a = 3520 + 10 * p + j ∧ 0 ≤ j ∧ j < 10 := ⟨(a - 3520) / 10, (a - 3520) % 10, by omega, by omega, by omega⟩
  have p0 : Y 2 0 0 3500 ≤ p := by omega
  have p1 : p < 2 := by omega
  have q0 : 0 ≤ p := by omega
  have hp : Z 11 b 0 9 ≤ p := by rw [zRl_11_9 (a := 3500) hRa rfl]; exact p0
  have y0 := h a h0 h1
  by_cases j8 : 8 ≤ j
  · obtain ⟨i, ei⟩ : ∃ i : Int, j = 8 + i := ⟨j - 8, by omega⟩
    have ez : zcm a = 0 := by rw [ea, ei, show 3520 + 10 * p + (8 + i) = 3528 + 10 * p + i by omega]; exact zNi_v q0 p1 (by omega) (by omega)
    rw [yFr_at 0 g e.1 ez]
    exact y0
  · have c : j = 0 ∨ j = 1 ∨ j = 2 ∨ j = 3 ∨ j = 4 ∨ j = 5 ∨ j = 6 ∨ j = 7 := by omega
    rcases c with rfl | rfl | rfl | rfl | rfl | rfl | rfl | rfl
    · rw [← zRl_51_0 (x := p) (a := a) hRc q0 p1 (by omega), hz p 0 hp, zRl_51_0 (x := p) (a := a) hRa q0 p1 (by omega)]
      exact y0
    · rw [← zRl_51_1 (x := p) (a := a) hRc q0 p1 (by omega), hz p 1 hp, zRl_51_1 (x := p) (a := a) hRa q0 p1 (by omega)]
      exact y0
    · rw [← zRl_51_2 (x := p) (a := a) hRc q0 p1 (by omega), hz p 2 hp, zRl_51_2 (x := p) (a := a) hRa q0 p1 (by omega)]
      exact y0
    · rw [← zRl_51_3 (x := p) (a := a) hRc q0 p1 (by omega), hz p 3 hp, zRl_51_3 (x := p) (a := a) hRa q0 p1 (by omega)]
      exact y0
    · rw [← zRl_51_4 (x := p) (a := a) hRc q0 p1 (by omega), hz p 4 hp, zRl_51_4 (x := p) (a := a) hRa q0 p1 (by omega)]
      exact y0
    · rw [← zRl_51_5 (x := p) (a := a) hRc q0 p1 (by omega), hz p 5 hp, zRl_51_5 (x := p) (a := a) hRa q0 p1 (by omega)]
      exact y0
    · rw [← zRl_51_6 (x := p) (a := a) hRc q0 p1 (by omega), hz p 6 hp, zRl_51_6 (x := p) (a := a) hRa q0 p1 (by omega)]
      exact y0
    · rw [← zRl_51_7 (x := p) (a := a) hRc q0 p1 (by omega), hz p 7 hp, zRl_51_7 (x := p) (a := a) hRa q0 p1 (by omega)]
      exact y0
theorem zNq_z {b : Int} {Z Y C M : qz_Z} {K : List Nat} (h : zNq Y) (hRa : zR b Z Y) (hV : zV Y) (hRc : zR b C M) (g : yFa K Y M) (e : K.contains 1110 = false) (hz : ∀ p, Z 11 b 0 10 ≤ p → C 54 b p 2 = Z 54 b p 2) : zNq M := fun i h0 h1 => by
  have c3 : M 2 0 0 3815 = Y 2 0 0 3815 := yFr_at 1110 g e (zcm_s (ac_11_10 rfl))
  have v3 := zVr_11_10 (a := 3815) hV rfl
  rw [c3] at h0
  have hp : Z 11 b 0 10 ≤ i := by rw [zRl_11_10 (a := 3815) hRa rfl]; exact h0
  rw [← zRl_54_2 (x := i) (a := 3852 + 8 * i) hRc (by omega) h1 rfl, hz i hp, zRl_54_2 (x := i) (a := 3852 + 8 * i) hRa (by omega) h1 rfl]
  exact h i h0 h1
/-- a quarrel's parcel, as the books want it -/
theorem zS_W {b q : Int} {Z Y : qz_Z} (h : zAl b Z Y) (q0 : 0 ≤ q) (q1 : q < Y 2 0 0 2000) (s2 : Y 2 0 0 (2019 + 16 * q) = 2) : zWq Y q := by
  have hRa := zS_R h
  have v6 := zVr_11_6 (a := 2000) (zS_V h) rfl
  have v13 := zVr_11_13 (a := 0) (zS_V h) rfl
  have q60 : q < 60 := by omega
  obtain ⟨d1, d2⟩ := zS_D4 h q q0 q60 (by omega)
  have e9 := zRl_47_9 (x := q) (a := 2019 + 16 * q) hRa q0 q60 rfl
  obtain ⟨⟨_, ⟨a3, a4⟩, ⟨a5, a6⟩, ⟨a7, a8⟩, ⟨a9, b1⟩, b2, b3, _⟩, _, _, gc⟩ := (zS_Kb h).1 q q0 (by rw [zRl_11_6 (a := 2000) hRa rfl]; exact q1) (by omega)
  obtain ⟨⟨l1, l2, l3⟩, ⟨l4, l5, l6⟩, l7, l8, l9⟩ := gc (e9.trans s2)
  rw [zRl_47_3 (x := q) (a := 2013 + 16 * q) hRa q0 q60 rfl] at a3 a4
  rw [zRl_47_4 (x := q) (a := 2014 + 16 * q) hRa q0 q60 rfl] at a5 a6
  rw [zRl_47_5 (x := q) (a := 2015 + 16 * q) hRa q0 q60 rfl] at a7 a8
  rw [zRl_47_7 (x := q) (a := 2017 + 16 * q) hRa q0 q60 rfl] at a9 b1
  rw [zRl_47_8 (x := q) (a := 2018 + 16 * q) hRa q0 q60 rfl] at b2 l1
  rw [zRl_47_6 (x := q) (a := 2016 + 16 * q) hRa q0 q60 rfl] at b3 l7
  rw [zRl_47_15 (x := q) (a := 2024 + 16 * q) hRa q0 q60 rfl] at l1 l2
  rw [zRl_47_16 (x := q) (a := 2025 + 16 * q) hRa q0 q60 rfl] at l4 l5
  rw [zRl_47_14 (x := q) (a := 2023 + 16 * q) hRa q0 q60 rfl] at l7 l8
  rw [zRl_47_17 (x := q) (a := 40 + q) hRa q0 q60 rfl] at l8 l9
  rw [zRl_11_13 (a := 0) hRa rfl] at l9
  rw [d1] at l2 l3
  rw [d2] at l5 l6
  exact ⟨⟨⟨a3, a4⟩, ⟨a5, a6⟩, ⟨a7, a8⟩, a9, b1⟩, ⟨b2, l1, l2, l3⟩, ⟨l4, l5, l6⟩, b3, l7, l8, by omega⟩
/-- what the reference's ranges tell -/
theorem zLw_M {s : zSM} {Y : qz_Z} (hZ : zM s Y) : zLw Y := fun c t c0 c1 t0 t1 _ h2 => by
  have g : zlw (fun j => Y 2 0 0 j) c t := (zY_2 hZ.2).2.2.2.2.2.1 c t c0 (by omega) t0 (by omega) h2
  unfold zlw at g
  have r := zM_k hZ 2 0 0 (3014 + 60 * c) (lo := 0) (hi := 9) (by decide) (zs_3010_4 (x := c) (by omega) c0 (by omega))
  exact ⟨g.1, g.2.1, g.2.2.1, g.2.2.2, r.1⟩
/-! the steps of an hour -/
theorem zS_t {b : Int} {Z Y : qz_Z} (h : zAl b Z Y) (ht : Y 2 0 0 0 ≤ 670) : zAl b (zu Z 11 b 0 13 (Z 11 b 0 13 + 1)) (zu Y 2 0 0 0 (Y 2 0 0 0 + 1)) := by
  have v := zVr_11_13 (a := 0) (zS_V h) rfl
  have e := zRl_11_13 (a := 0) (zS_R h) rfl
  have w : zW [] [1113] [1113] b Z Y _ _ := zW_i (v' := Z 11 b 0 13 + 1) (v := Y 2 0 0 0 + 1) (zW_0 (zRx_0 (zS_R h)) (zS_V h)) (ac_11_13 rfl) (zvi_11_13 rfl) (by omega) (by rw [e]) rfl rfl rfl
  obtain ⟨r1, r2, f, g⟩ := zW_1 w
  exact ⟨r1, r2, zD1_f (zS_D1 h) f.1 g.1 ⟨rfl, rfl, rfl⟩, zD4_f (zS_D4 h) f.1 g.1 ⟨⟨rfl, rfl⟩, rfl, rfl, rfl⟩, zN1_f (zS_N1 h) g.1 ⟨rfl, rfl, rfl, rfl⟩, zN4_f (zS_N4 h) g.1 ⟨rfl, rfl, rfl⟩, zN8_f (zS_N8 h) g.1 ⟨rfl, rfl, rfl⟩, zN9_f (zS_N9 h) g.1 ⟨rfl, rfl, rfl⟩, zNL_f (zS_NL h) (zS_V h) g.1 ⟨rfl, rfl, rfl, rfl, rfl⟩, zDl_f (zS_Dl h) f.1 g.1 ⟨rfl, rfl, rfl, rfl, rfl⟩, zDs_f (zS_Ds h) f.1 g.1 ⟨rfl, rfl⟩, zDw_f (zS_Dw h) f.1 g.1 ⟨rfl, rfl⟩, (zFc_at 4000 f.1 rfl rfl rfl).trans (zS_Dg h), zDt_f (zS_Dt h) f.1 g.1 rfl rfl, zFn_f (zS_Fn h) f.1 g.1 ⟨rfl, rfl, rfl, rfl⟩, zNp_f (zS_Np h) (zS_V h) g.1 ⟨rfl, rfl⟩, zNr_f (zS_Nr h) (zS_V h) g.1 ⟨rfl, rfl, rfl⟩, zNi_f (zS_Ni h) (zS_V h) g.1 ⟨rfl, rfl⟩, zNq_f (zS_Nq h) (zS_V h) g.1 ⟨rfl, rfl⟩, zNk_f (zS_Nk h) g.1 rfl, zNt_f (zS_Nt h) (zS_V h) g.1 ⟨rfl, rfl⟩, zDb_f (zS_Db h) f.1 (by decide), zPb_f (zS_Pb h) f.1 (by decide), zKb_t (zS_Kb h)⟩
/-- what waited has waited -/
theorem z39_s {b : Int} {Z : qz_Z} (h : zKb (-1) b Z) {q : Int} (hq : (zf_39 Z b) 47 b q 9 ≠ 0) : Z 47 b q 9 ≠ 0 := fun e => by
  refine hq ?_
  refine (z39_P (P := fun C => zKb (-1) b C ∧ C 47 b q 9 = 0) (fun C kk ii jj v ez g => ⟨zKb_u g.1 (zbn_K ez).1, (zu_ne rfl (fun x => by rw [← x.1] at ez; cases ez)).trans g.2⟩) (fun C t w t0 g => ?_) ⟨h, e⟩).2
  unfold zf_41
  simp only [zlet2]
  have lp : ∀ (m : Nat) (C : qz_Z) (x : Int), 0 ≤ x → zKb (-1) b C → C 47 b q 9 = 0 → (zl_41_1 b t w m C x).1 47 b q 9 = 0 := fun m => by
    induction m with
    | zero => exact fun _ _ _ _ g => g
    | succ m ih =>
      intro C x x0 k g
      have k' := zKb_41 (b := b) (w := w) t0 1 C x x0 k
      unfold zl_41_1 at k' ⊢
      split
      · exact g
      rename_i g1
      rw [if_neg g1] at k'
      split
      · exact ih _ _ (by omega) k g
      rename_i g2
      rw [if_neg g2] at k'
      split
      · exact ih _ _ (by omega) k g
      rename_i g3
      rw [if_neg g3] at k'
      simp only [zlet] at k' ⊢
      refine ih _ _ (by omega) k' ?_
      have n : q ≠ x := fun y => by
        have a := (k.1 x x0 (by omega) (by omega)).1.2.2.2.2.2.2.2 (by rw [← y, g]; decide)
        omega
      simp [zuq, n, g]
  exact ⟨(zKb_41 t0 61 C 0 (Int.le_refl 0) g.1), lp 61 C 0 (Int.le_refl 0) g.1 g.2⟩
theorem zS_39 {b : Int} {Z Y : qz_Z} (h : zAl b Z Y) : zAl b (zf_39 Z b) (zf_505 Y) := by
  obtain ⟨r1, r2, f, g, n4, dt⟩ := rr_39 (C := zf_39 Z b) (M := zf_505 Y) (zS_R h) (zS_V h) (zS_N4 h) (zS_Dt h) rfl rfl
  obtain ⟨k1, k2, k3⟩ := zK4_39 (zS_K4 h)
  have d4 : zD4 b (zf_39 Z b) (zf_505 Y) := fun q q0 q1 s => by
    have z := z39_s (zS_Kb h) (q := q) (by rw [zRl_47_9 (x := q) (a := 2019 + 16 * q) r1 q0 q1 rfl]; exact s)
    rw [zRl_47_9 (x := q) (a := 2019 + 16 * q) (zS_R h) q0 q1 rfl] at z
    rw [zFc_at 4711 f.1 rfl rfl rfl, zFc_at 4712 f.1 rfl rfl rfl, yFr_at 10001 g.1 rfl (zcm_ripe q0 q1 rfl), yFr_at 10002 g.1 rfl (zcm_harm q0 q1 rfl)]
    exact zS_D4 h q q0 q1 z
  exact ⟨r1, r2, zD1_f (zS_D1 h) f.1 g.1 ⟨rfl, rfl, rfl⟩, d4, zN1_f (zS_N1 h) g.1 ⟨rfl, rfl, rfl, rfl⟩, n4, zN8_f (zS_N8 h) g.1 ⟨rfl, rfl, rfl⟩, zN9_f (zS_N9 h) g.1 ⟨rfl, rfl, rfl⟩, zNL_f (zS_NL h) (zS_V h) g.1 ⟨rfl, rfl, rfl, rfl, rfl⟩, zDl_f (zS_Dl h) f.1 g.1 ⟨rfl, rfl, rfl, rfl, rfl⟩, zDs_f (zS_Ds h) f.1 g.1 ⟨rfl, rfl⟩, zDw_f (zS_Dw h) f.1 g.1 ⟨rfl, rfl⟩, (zFc_at 4000 f.1 rfl rfl rfl).trans (zS_Dg h), dt, zFn_f (zS_Fn h) f.1 g.1 ⟨rfl, rfl, rfl, rfl⟩, zNp_f (zS_Np h) (zS_V h) g.1 ⟨rfl, rfl⟩, zNr_f (zS_Nr h) (zS_V h) g.1 ⟨rfl, rfl, rfl⟩, zNi_f (zS_Ni h) (zS_V h) g.1 ⟨rfl, rfl⟩, zNq_f (zS_Nq h) (zS_V h) g.1 ⟨rfl, rfl⟩, zNk_f (zS_Nk h) g.1 rfl, zNt_z (zS_Nt h) (zS_R h) (zS_V h) r1 g.1 rfl (fun t ht => z50_39 ht), k1, k2, k3⟩
theorem zS_171 {b : Int} {Z Y : qz_Z} (h : zAl b Z Y) : zAl b (zf_171 Z b) (zf_471 Y) := by
  obtain ⟨r1, r2, f, g, d4⟩ := rr_171 (C := zf_171 Z b) (M := zf_471 Y) (zS_R h) (zS_V h) (zS_D4 h) (zS_N1 h) (zS_N4 h) rfl rfl
  exact ⟨r1, r2, zD1_f (zS_D1 h) f.1 g.1 ⟨rfl, rfl, rfl⟩, d4, zN1_f (zS_N1 h) g.1 ⟨rfl, rfl, rfl, rfl⟩, zN4_f (zS_N4 h) g.1 ⟨rfl, rfl, rfl⟩, zN8_f (zS_N8 h) g.1 ⟨rfl, rfl, rfl⟩, zN9_f (zS_N9 h) g.1 ⟨rfl, rfl, rfl⟩, zNL_f (zS_NL h) (zS_V h) g.1 ⟨rfl, rfl, rfl, rfl, rfl⟩, zDl_f (zS_Dl h) f.1 g.1 ⟨rfl, rfl, rfl, rfl, rfl⟩, zDs_f (zS_Ds h) f.1 g.1 ⟨rfl, rfl⟩, zDw_f (zS_Dw h) f.1 g.1 ⟨rfl, rfl⟩, (zFc_at 4000 f.1 rfl rfl rfl).trans (zS_Dg h), zDt_f (zS_Dt h) f.1 g.1 rfl rfl, zFn_f (zS_Fn h) f.1 g.1 ⟨rfl, rfl, rfl, rfl⟩, zNp_z (zS_Np h) (zS_R h) (zS_V h) r1 g.1 ⟨rfl, rfl⟩ (fun p j hp => z44_171 hp), zNr_z (zS_Nr h) (zS_R h) (zS_V h) r1 g.1 ⟨rfl, rfl, rfl⟩ (fun p j hp => z43_171 hp), zNi_f (zS_Ni h) (zS_V h) g.1 ⟨rfl, rfl⟩, zNq_f (zS_Nq h) (zS_V h) g.1 ⟨rfl, rfl⟩, zNk_f (zS_Nk h) g.1 rfl, zNt_f (zS_Nt h) (zS_V h) g.1 ⟨rfl, rfl⟩, zDb_f (zS_Db h) f.1 (by decide), zPb_f (zS_Pb h) f.1 (by decide), zKb_171 (zS_Kb h)⟩
theorem zS_136 {b k fig : Int} {s : zSM} {Z Y : qz_Z} (h : zAl b Z Y) (hM : zM s Y) (k0 : 0 ≤ k) (k1 : k < Y 2 0 0 3500) (g0 : 1 ≤ fig) (g1 : fig ≤ 7) : zAl b (zf_136 Z b k fig).1 (zf_365 Y k fig).1 ∧ (zf_136 Z b k fig).2 = (zf_365 Y k fig).2 := by
  have v9 := zVr_11_9 (a := 3500) (zS_V h) rfl
  have k2 : k < 2 := by omega
  have st := zM_k hM 2 0 0 (3521 + 10 * k) (lo := 0) (hi := 3) (by decide) (zs_3520_1 (x := k) (by omega) k0 k2)
  have e5 := zRl_51_5 (x := k) (a := 3525 + 10 * k) (zS_R h) k0 k2 rfl
  have i5 := zM_f hM 2 0 0 (3525 + 10 * k)
  obtain ⟨⟨r1, r2, d1, d4, n4, n1, n8, nl, dl, nr, fn⟩, ds, f, g, ea⟩ := rr_136 (b := b) (k := k) (fig := fig) ⟨zS_R h, zS_V h, zS_D1 h, zS_D4 h, zS_N4 h, zS_N1 h, zS_N8 h, zS_NL h, zS_Dl h, zS_Nr h, zS_Fn h⟩ (zS_Ds h) k0 k2 g0 g1 st.2 (by rw [e5]; exact i5)
  obtain ⟨k4, k5, k6⟩ := zK4_136 (k := k) (fig := fig) (zS_K4 h)
  refine ⟨?_, ea⟩
  exact ⟨r1, r2, d1, d4, n1, n4, n8, zN9_f (zS_N9 h) g.1 ⟨rfl, rfl, rfl⟩, nl, dl, ds, zDw_f (zS_Dw h) f.1 g.1 ⟨rfl, rfl⟩, (zFc_at 4000 f.1 rfl rfl rfl).trans (zS_Dg h), zDt_f (zS_Dt h) f.1 g.1 rfl rfl, fn, zNp_z (zS_Np h) (zS_R h) (zS_V h) r1 g.1 ⟨rfl, rfl⟩ (fun p j hp => z44_136 hp), nr, zNi_z (zS_Ni h) (zS_R h) (zS_V h) r1 g.1 ⟨rfl, rfl⟩ (fun p j hp => z51_136 (by rw [zRl_11_9 (a := 3500) (zS_R h) rfl] at hp; omega)), zNq_f (zS_Nq h) (zS_V h) g.1 ⟨rfl, rfl⟩, zNk_f (zS_Nk h) g.1 rfl, zNt_f (zS_Nt h) (zS_V h) g.1 ⟨rfl, rfl⟩, k4, k5, k6⟩
theorem zS_73f {b c : Int} {s : zSM} {Z Y : qz_Z} (h : zAl b Z Y) (hM : zM s Y) (c0 : 0 ≤ c) (c1 : c < Y 2 0 0 3000) (c3 : 1 ≤ Y 2 0 0 (3015 + 60 * c)) : zAl b (zf_73 Z b c) (zf_309 Y c) ∧ yFr [1106, 1112, 1400, 4202, 4203, 4204, 4404, 4405, 4410, 4606, 4700, 4701, 4702, 4703, 4704, 4705, 4706, 4707, 4708, 4709, 4710, 4714, 4715, 4716, 4717, 4719, 4720, 4805, 4806, 4807, 4808, 4809, 4810, 4811, 5300, 5301, 5302, 5303, 5304, 10050, 10051, 10052] Y (zf_309 Y c) := by
  have v7 := zVr_11_7 (a := 3000) (zS_V h) rfl
  have c2 : c < 2 := by omega
  have v5 := zVr_48_5 (x := c) (a := 3015 + 60 * c) (zS_V h) c0 c2 rfl
  have kr := (zS_Kb h).2.1
  have hcr : ∀ p : Int, 0 ≤ p → p < 48 → Y 2 0 0 (204 + 20 * p) ≤ 40 := fun p p0 p1 => by
    have := (kr.1 p p0 p1).2.1.2
    rw [zRl_44_4 (x := p) (a := 204 + 20 * p) (zS_R h) p0 p1 rfl] at this
    exact this
  have lw := zLw_M hM
  obtain ⟨r1, r2, f, g, d1, d4, n4, n1, n9, nl, dl, db, _⟩ := rr_73 (b := b) (c := c) (C := zf_73 Z b c) (M := zf_309 Y c) (zS_R h) (zS_V h) (zS_D1 h) (zS_D4 h) (zS_N4 h) (zS_N1 h) (zS_N9 h) (zS_NL h) (zS_Dl h) (zS_Np h) (zS_Db h) lw hcr c0 c2 c1 c3 rfl rfl
  obtain ⟨e0, e1, e2⟩ := zS_Dl h c 0 c0 c2 (by omega) (by omega) (by omega)
  rw [show 12 * c + 0 = 12 * c by omega, show 3022 + 60 * c + 3 * 0 = 3022 + 60 * c by omega] at e0
  rw [show 12 * c + 0 = 12 * c by omega, show 3023 + 60 * c + 3 * 0 = 3023 + 60 * c by omega] at e1
  rw [show 12 * c + 0 = 12 * c by omega, show 3024 + 60 * c + 3 * 0 = 3024 + 60 * c by omega] at e2
  have vl := zVr_lot (c := c) (p := 0) (a := 3022 + 60 * c) (zS_V h) c0 c2 (by omega) (by omega) (by omega)
  obtain ⟨n6a, n6b⟩ := (zS_NL h).2.1 c 0 c0 c2 (by omega) (by omega) c1 (by omega)
  rw [show 3022 + 60 * c + 3 * 0 = 3022 + 60 * c by omega] at n6a n6b
  obtain ⟨w1, w2, w3_, w4, w5⟩ := lw c 0 c0 c2 (by omega) (by omega) c1 (by omega)
  rw [show 3024 + 60 * c + 3 * 0 = 3024 + 60 * c by omega] at w1 w2
  rw [show 3023 + 60 * c + 3 * 0 = 3023 + 60 * c by omega] at w2
  have r9 := zM_k hM 2 0 0 (3023 + 60 * c) (lo := 0) (hi := 9999) (by decide) (zs_3010_13 (x := c) (by omega) c0 c2)
  have p3 : Y 2 0 0 (3022 + 60 * c) < Y 2 0 0 102 := by
    by_cases q : Y 2 0 0 (3022 + 60 * c) < Y 2 0 0 102
    · exact q
    · have z := zS_Np h (210 + 20 * Y 2 0 0 (3022 + 60 * c)) (by omega) (by omega)
      omega
  have p3' : Z 49 b (12 * c) 0 < Z 11 b 0 3 := by rw [e0, zRl_11_3 (a := 102) (zS_R h) rfl]; exact p3
  obtain ⟨k4, k5, k6⟩ := zK4_73 (c := c) (zS_K4 h) (by rw [e0]; exact vl.1) p3' (by rw [zRl_48_4 (x := c) (a := 3014 + 60 * c) (zS_R h) c0 c2 rfl]; exact w5) (by rw [e2]; exact w1) (by rw [e1, e2]; exact w2) (by rw [e1]; exact r9.2)
  exact ⟨⟨r1, r2, d1, d4, n1, n4, zN8_f (zS_N8 h) g.1 ⟨rfl, rfl, rfl⟩, n9, nl, dl, zDs_f (zS_Ds h) f.1 g.1 ⟨rfl, rfl⟩, zDw_f (zS_Dw h) f.1 g.1 ⟨rfl, rfl⟩, (zFc_at 4000 f.1 rfl rfl rfl).trans (zS_Dg h), zDt_f (zS_Dt h) f.1 g.1 rfl rfl, zFn_f (zS_Fn h) f.1 g.1 ⟨rfl, rfl, rfl, rfl⟩, zNp_z (zS_Np h) (zS_R h) (zS_V h) r1 g.1 ⟨rfl, rfl⟩ (fun p j hp => z44_73 (by omega)), zNr_f (zS_Nr h) (zS_V h) g.1 ⟨rfl, rfl, rfl⟩, zNi_f (zS_Ni h) (zS_V h) g.1 ⟨rfl, rfl⟩, zNq_f (zS_Nq h) (zS_V h) g.1 ⟨rfl, rfl⟩, zNk_f (zS_Nk h) g.1 rfl, zNt_f (zS_Nt h) (zS_V h) g.1 ⟨rfl, rfl⟩, k4, k5, k6⟩, g⟩
theorem zS_73 {b c : Int} {s : zSM} {Z Y : qz_Z} (h : zAl b Z Y) (hM : zM s Y) (c0 : 0 ≤ c) (c1 : c < Y 2 0 0 3000) (c3 : 1 ≤ Y 2 0 0 (3015 + 60 * c)) : zAl b (zf_73 Z b c) (zf_309 Y c) := (zS_73f h hM c0 c1 c3).1
theorem zS_Dv {b : Int} {s : zSM} {Z Y : qz_Z} (h : zAl b Z Y) (hM : zM s Y) : zDv b Z Y := fun i j i0 i1 j0 j1 n => by
  have e := zS_Dw h i j i0 i1 j0 j1 n
  have r := zM_k hM 2 0 0 (3210 + 6 * i + j) (lo := 0) (hi := 12) (by decide) (zs_3210 (by omega) (by omega))
  rw [e]
  exact ⟨rfl, r⟩
theorem zS_45 {b t n : Int} {s : zSM} {Z Y : qz_Z} (h : zAl b Z Y) (hM : zM s Y) (t0 : 0 ≤ t) (t2 : t < Y 2 0 0 3200) : zAl b (zf_45 Z n b t).1 (zg512 Y t) := by
  have v8 := zVr_11_8 (a := 3200) (zS_V h) rfl
  have t1 : t < 4 := by omega
  obtain ⟨r1, r2, f, g, dt⟩ := rr_45 (b := b) (t := t) (n := n) (zS_R h) (zS_V h) (zS_N4 h) (zS_Dt h) (zS_Dv h hM) t0 t1
  exact ⟨r1, r2, zD1_f (zS_D1 h) f.1 g.1 ⟨rfl, rfl, rfl⟩, zD4_f (zS_D4 h) f.1 g.1 ⟨⟨rfl, rfl⟩, rfl, rfl, rfl⟩, zN1_f (zS_N1 h) g.1 ⟨rfl, rfl, rfl, rfl⟩, zN4_f (zS_N4 h) g.1 ⟨rfl, rfl, rfl⟩, zN8_f (zS_N8 h) g.1 ⟨rfl, rfl, rfl⟩, zN9_f (zS_N9 h) g.1 ⟨rfl, rfl, rfl⟩, zNL_f (zS_NL h) (zS_V h) g.1 ⟨rfl, rfl, rfl, rfl, rfl⟩, zDl_f (zS_Dl h) f.1 g.1 ⟨rfl, rfl, rfl, rfl, rfl⟩, zDs_f (zS_Ds h) f.1 g.1 ⟨rfl, rfl⟩, zDw_f (zS_Dw h) f.1 g.1 ⟨rfl, rfl⟩, (zFc_at 4000 f.1 rfl rfl rfl).trans (zS_Dg h), dt, zFn_f (zS_Fn h) f.1 g.1 ⟨rfl, rfl, rfl, rfl⟩, zNp_f (zS_Np h) (zS_V h) g.1 ⟨rfl, rfl⟩, zNr_f (zS_Nr h) (zS_V h) g.1 ⟨rfl, rfl, rfl⟩, zNi_f (zS_Ni h) (zS_V h) g.1 ⟨rfl, rfl⟩, zNq_f (zS_Nq h) (zS_V h) g.1 ⟨rfl, rfl⟩, zNk_f (zS_Nk h) g.1 rfl, zNt_z (zS_Nt h) (zS_R h) (zS_V h) r1 g.1 rfl (fun r hr => z50_45 (by rw [zRl_11_8 (a := 3200) (zS_R h) rfl] at hr; omega)), zDb_f (zS_Db h) f.1 (by decide), zPb_f (zS_Pb h) f.1 (by decide), zKb_f (zS_Kb h) f.1 (by decide)⟩
