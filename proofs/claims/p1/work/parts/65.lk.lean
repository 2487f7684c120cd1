/-! from the constructors' time to the loop's: finite checks -/
/-- the Model's fields that change, at the start -/
def lk_0 (j : Nat) : Option qz_R := match j with | 36 => some (102, 0, 0) | 38 => some (103, 0, 0) | 41 => some (105, 0, 0) | 42 => some (106, 0, 0) | 43 => some (107, 0, 0) | 44 => some (108, 0, 0) | _ => none
def lk_rf (k b j : Nat) : Option qz_R := bif qz_dy (k, b, 0) j then lk_0 j else qz_st k b j
def lk_ok (r : qz_R) : Bool := !Nat.beq r.1 200 && (Nat.blt r.2.1 (qz_nbs.getD r.1 0) && Nat.blt r.2.2 (qz_cts.getD r.1 0))
def lk_1 (k b : Nat) : Bool := Nat.ble 3 (qz_fm k b) && (Nat.blt (qz_fm k b) 578 && decide (mh_S 0 (qz_fm k b - 2) = (qz_tgs.getD k 255, qz_cts.getD k 0, qz_lns.getD k 0)))
def lk_2 (k b j : Nat) : Bool := match nu mh_R mo_l (qz_fm k b - 2) j, lk_rf k b j with
  | none, none => true
  | some x, some y => (decide (qz_cr false x = qz_cr true y)) && lk_ok y
  | _, _ => false
theorem lk_c1 : ((List.range 114).all (fun k => (List.range (qz_nbs.getD k 0)).all (fun b => lk_1 k b))) = true := by decide +kernel
theorem lk_c2 : ((List.range 114).all (fun k => (List.range (qz_nbs.getD k 0)).all (fun b => (List.range (qz_nrs.getD k 0)).all (fun j => lk_2 k b j)))) = true := by decide +kernel
theorem lk_3 : ((List.range 114).all (fun k => (Nat.beq (qz_nrs.getD k 0) 0 || Nat.beq (qz_cts.getD k 0) 1))) = true := by decide +kernel
/-- the memory of the loop's time -/
def lk_m (μ : qz_M) : qz_M := ((fun k b i j => if k = 200 then qz_im μ 200 0 i j else qz_im μ 200 (qz_fm k b - 2) i j), (fun k b i j => if k = 200 then qz_lm μ 200 0 i j else qz_lm μ 200 (qz_fm k b - 2) i j), (fun k _ _ j => if k = 200 then none else lk_0 j), qz_dn μ, 1, qz_kc μ, qz_ks μ)
theorem lk_S {L m : Nat} (h : m ≠ 0) : mh_S L m = mh_S 0 m := by
  unfold mh_S
  split
  · rfl
  · unfold mh_s
    split <;> first | rfl | exact absurd rfl h
theorem lk_a1 {k b : Nat} (h : b < qz_nbs.getD k 0) : k < 114 ∧ lk_1 k b = true := by
  have hk : k < 114 := by
    rcases Nat.lt_or_ge k 114 with q | q
    · exact q
    · rw [List.getD_eq_getElem?_getD, List.getElem?_eq_none (by exact q)] at h
      exact absurd h (Nat.not_lt_zero _)
  exact ⟨hk, List.all_eq_true.mp (List.all_eq_true.mp lk_c1 k (List.mem_range.mpr hk)) b (List.mem_range.mpr h)⟩
theorem lk_a2 {k b j : Nat} (h : b < qz_nbs.getD k 0) (hj : j < qz_nrs.getD k 0) : lk_2 k b j = true :=
  List.all_eq_true.mp (List.all_eq_true.mp (List.all_eq_true.mp lk_c2 k (List.mem_range.mpr (lk_a1 h).1)) b (List.mem_range.mpr h)) j (List.mem_range.mpr hj)
theorem lk_cr {k b i : Nat} (hk : k ≠ 200) (h : 3 ≤ qz_fm k b) : qz_cr true (k, b, i) = qz_cr false (200, qz_fm k b - 2, i) := by
  unfold qz_cr
  rw [if_neg hk, if_pos rfl]
  show (qz_fm k b, i) = ((if qz_fm k b - 2 = 0 then 0 else 3 + (qz_fm k b - 2) - 1), i)
  rw [if_neg (by omega), show 3 + (qz_fm k b - 2) - 1 = qz_fm k b by omega]
theorem lk_rel {L : Nat} {f : Nat → Int32} {μ : qz_M} {σ : pz_S} {c s : Nat} (R : qz_Rel false μ σ) (h : ge L f mo_s μ 576 mo_l c s) : qz_Rel true (lk_m μ) σ := by
  obtain ⟨⟨r1, r2⟩, r3, r4, r5, r6⟩ := R
  have hn : qz_na μ = 576 := h.1
  have r1 : σ.1 + 1 = 3 + qz_na μ := r1
  have P : ∀ {k b : Nat}, b < qz_nbs.getD k 0 → 3 ≤ qz_fm k b ∧ qz_fm k b < 578 ∧ mh_S 0 (qz_fm k b - 2) = (qz_tgs.getD k 255, qz_cts.getD k 0, qz_lns.getD k 0) := fun {k b} hb => by
    have a2 := (lk_a1 hb).2
    unfold lk_1 at a2
    rw [Bool.and_eq_true, Bool.and_eq_true] at a2
    exact ⟨Nat.le_of_ble_eq_true a2.1, Nat.le_of_ble_eq_true a2.2.1, of_decide_eq_true a2.2.2⟩
  refine ⟨⟨by show σ.1 + 1 = 578 + 1; rw [r1, hn], Nat.le_refl 1⟩, r3, ?_, ?_, ?_⟩
  · rintro ⟨k, b, i⟩ (⟨q1, q2⟩ | ⟨q1, _, q2, q3⟩)
    · have q1 : k = 200 := q1
      have p2 : b = 0 := by
        have : b < 1 := q2
        omega
      clear q2
      subst p2
      subst q1
      exact r4 (200, 0, i) (.inl ⟨rfl, by show 0 < qz_na μ; rw [hn]; decide⟩)
    · have q1 : k ≠ 200 := q1
      obtain ⟨g1, g2, g3⟩ := P q2
      have g1 : 3 ≤ qz_fm k b := g1
      rw [lk_cr q1 g1, r4 (200, qz_fm k b - 2, i) (.inl ⟨rfl, by show qz_fm k b - 2 < qz_na μ; rw [hn]; have g2 : qz_fm k b < 578 := g2; omega⟩)]
      show qz_dn μ (qz_fm k b - 2) = qz_shp (lk_m μ) (k, b, i)
      rw [(h.2.1 (qz_fm k b - 2) (by have g2 : qz_fm k b < 578 := g2; omega)).1, lk_S (by omega), g3]
      exact (if_neg q1).symm
  · rintro ⟨k, b, i⟩ (⟨q1, q2⟩ | ⟨q1, _, q2, q3⟩) j
    · have q1 : k = 200 := q1
      have p2 : b = 0 := by
        have : b < 1 := q2
        omega
      clear q2
      subst p2
      subst q1
      exact r5 (200, 0, i) (.inl ⟨rfl, by show 0 < qz_na μ; rw [hn]; decide⟩) j
    · have q1 : k ≠ 200 := q1
      obtain ⟨g1, g2, g3⟩ := P q2
      have g1 : 3 ≤ qz_fm k b := g1
      rw [lk_cr q1 g1]
      have e := r5 (200, qz_fm k b - 2, i) (.inl ⟨rfl, by show qz_fm k b - 2 < qz_na μ; rw [hn]; have g2 : qz_fm k b < 578 := g2; omega⟩) j
      refine ⟨e.1.trans ?_, e.2.trans ?_⟩
      · exact (if_neg q1 : (if k = 200 then qz_im μ 200 0 i j else qz_im μ 200 (qz_fm k b - 2) i j) = _).symm
      · exact (if_neg q1 : (if k = 200 then qz_lm μ 200 0 i j else qz_lm μ 200 (qz_fm k b - 2) i j) = _).symm
  · rintro ⟨k, b, i⟩ (⟨q1, q2⟩ | ⟨q1, _, q2, q3⟩) j hj
    · have q1 : k = 200 := q1
      have p2 : b = 0 := by
        have : b < 1 := q2
        omega
      clear q2
      subst p2
      subst q1
      have e := (r6 (200, 0, i) (.inl ⟨rfl, by show 0 < qz_na μ; rw [hn]; decide⟩) j (.inl rfl)).1
      have z : qz_rf μ (200, 0, i) j = none := (h.2.1 0 (by decide)).2.2.2.2 rfl i j
      rw [z] at e
      exact ⟨e, fun r' e' => by cases e'⟩
    · have q1 : k ≠ 200 := q1
      have hj2 : j < qz_nrs.getD k 0 := hj.resolve_left q1
      obtain ⟨g1, g2, g3⟩ := P q2
      have g1 : 3 ≤ qz_fm k b := g1
      have hi : i = 0 := by
        have z := List.all_eq_true.mp lk_3 k (List.mem_range.mpr (lk_a1 q2).1)
        rw [Bool.or_eq_true] at z
        have q3 : i < qz_cts.getD k 0 := q3
        rcases z with z | z
        · have := Nat.eq_of_beq_eq_true z
          omega
        · have := Nat.eq_of_beq_eq_true z
          omega
      subst hi
      rw [lk_cr q1 g1]
      have e := (r6 (200, qz_fm k b - 2, 0) (.inl ⟨rfl, by show qz_fm k b - 2 < qz_na μ; rw [hn]; have g2 : qz_fm k b < 578 := g2; omega⟩) j (.inl rfl)).1
      have z : qz_rf μ (200, qz_fm k b - 2, 0) j = nu mh_R mo_l (qz_fm k b - 2) j := (h.2.1 (qz_fm k b - 2) (by have g2 : qz_fm k b < 578 := g2; omega)).2.1 j
      have y : qz_rf (lk_m μ) (k, b, 0) j = lk_rf k b j := by
        unfold qz_rf lk_rf
        cases qz_dy (k, b, 0) j
        · rfl
        · exact if_neg q1
      rw [z] at e
      rw [e, y]
      have w := lk_a2 q2 hj2
      unfold lk_2 at w
      revert w
      cases nu mh_R mo_l (qz_fm k b - 2) j <;> cases lk_rf k b j <;> intro w
      · exact ⟨rfl, fun r' e' => by cases e'⟩
      · cases w
      · cases w
      · rename_i x y'
        have w : (decide (qz_cr false x = qz_cr true y') && lk_ok y') = true := w
        rw [Bool.and_eq_true] at w
        refine ⟨congrArg some (of_decide_eq_true w.1), fun r' e' => ?_⟩
        cases e'
        have w2 := w.2
        unfold lk_ok at w2
        rw [Bool.and_eq_true, Bool.and_eq_true] at w2
        refine .inr ⟨fun q => ?_, rfl, Nat.le_of_ble_eq_true w2.2.1, Nat.le_of_ble_eq_true w2.2.2⟩
        rw [q] at w2
        cases w2.1
/-! the start -/
def lk_s0 (L : Nat) (xs : Nat → Int32) : pz_S := (3, fun f => if f = 0 then (60, 1, L) else (0, 0, 0), fun _ _ _ => none, fun f i => if f = 0 ∧ i = 0 then xs else fun _ => 0, fun _ _ _ => 0, 0, 0)
def lk_u (L : Nat) (xs : Nat → Int32) : qz_M := (fun k b i j => if k = 200 ∧ b = 0 ∧ i = 0 then xs j else 0, fun _ _ _ _ => 0, fun _ _ _ _ => none, fun n => if n = 0 then (60, 1, L) else (0, 0, 0), 1, 0, 0)
theorem lk_e (xs : Nat → Int32) (i j : Nat) : (if 0 = 0 ∧ i = 0 then xs else fun _ => 0) j = if 200 = 200 ∧ 0 = 0 ∧ i = 0 then xs j else 0 := by
  by_cases q : i = 0
  · rw [if_pos (c := 0 = 0 ∧ i = 0) ⟨rfl, q⟩, if_pos ⟨rfl, rfl, q⟩]
  · rw [if_neg (c := 0 = 0 ∧ i = 0) (fun z => q z.2), if_neg (fun z => q z.2.2)]
theorem lk_r0 (L : Nat) (xs : Nat → Int32) : qz_Rel false (lk_u L xs) (lk_s0 L xs) := by
  have hb : ∀ {k b i : Nat}, qz_ok false (qz_na (lk_u L xs)) (k, b, i) → k = 200 ∧ b = 0 := by
    rintro k b i (⟨q1, q2⟩ | ⟨_, q2, _⟩)
    · have q1 : k = 200 := q1
      have q2 : b < 1 := q2
      exact ⟨q1, by omega⟩
    · cases q2
  refine ⟨⟨rfl, Nat.le_refl 1⟩, ⟨rfl, rfl⟩, ?_, ?_, ?_⟩
  · rintro ⟨k, b, i⟩ h
    obtain ⟨rfl, rfl⟩ := hb h
    rfl
  · rintro ⟨k, b, i⟩ h j
    obtain ⟨rfl, rfl⟩ := hb h
    exact ⟨lk_e xs i j, rfl⟩
  · rintro ⟨k, b, i⟩ h j _
    obtain ⟨rfl, rfl⟩ := hb h
    exact ⟨rfl, fun r' e => by cases e⟩
theorem lk_g0 (L : Nat) (xs : Nat → Int32) : gd L xs (lk_u L xs) 1 [] 0 0 := by
  refine ⟨rfl, fun o ho => ?_, rfl, rfl⟩
  obtain rfl : o = 0 := by omega
  refine ⟨rfl, fun j => rfl, fun i j => ?_, fun i j => rfl, fun _ i j => rfl⟩
  show (if 200 = 200 ∧ 0 = 0 ∧ i = 0 then xs j else 0) = if 0 = 0 ∧ i = 0 then xs j else 0
  by_cases q : i = 0
  · rw [if_pos (c := 0 = 0 ∧ i = 0) ⟨rfl, q⟩, if_pos (c := 200 = 200 ∧ 0 = 0 ∧ i = 0) ⟨rfl, rfl, q⟩]
  · rw [if_neg (c := 0 = 0 ∧ i = 0) (fun z => q z.2), if_neg (c := 200 = 200 ∧ 0 = 0 ∧ i = 0) (fun z => q z.2.2)]
/-- what the law's locals are at its loop -/
def lk_L (i : Int32) : qz_L := [some (.inr (.inr (some (200, 0, 0)))), some (.inr (.inr (some (0, 0, 0)))), some (.inr (.inr (some (1, 0, 0)))), some (.inr (.inr (some (71, 0, 0)))), some (.inl i), none, none, none]
theorem lk_start (L : Nat) (xs : Nat → Int32) : ∃ μ' σ' Lc', qz_Rch pz_Tt pz_I 632 0 (pz_ent [.inr (.inr (some (0, 0)))] 8) [] (lk_s0 L xs) 23 Lc' [] σ' ∧ qz_LR true (lk_L 0) Lc' ∧ qz_Rel true (lk_m μ') σ' ∧ ge L xs mo_s μ' 576 mo_l (0 + 5234) (0 + 127732) := by
  obtain ⟨μ', e, hg⟩ := sp_law0 (lk_g0 L xs)
  have h := qs_law0 false _ _ _ _ (lk_s0 L xs) (pz_ent [.inr (.inr (some (0, 0)))] 8) e (lk_r0 L xs) ?_ ?_ ?_ rfl
  · obtain ⟨σ', Lc', h1, h2, h3, h4, h5, h6, h7⟩ := h
    refine ⟨μ', σ', Lc', h1, ⟨h2.1, ?_⟩, lk_rel h3 hg, hg⟩
    intro i v hv
    match i, hv with
    | 0, hv => cases hv; exact h2.2 0 _ rfl
    | 1, hv => cases hv; exact h2.2 1 _ rfl
    | 2, hv => cases hv; exact h2.2 2 _ rfl
    | 3, hv => cases hv; exact h2.2 3 _ rfl
    | 4, hv => cases hv; exact h2.2 4 _ rfl
    | 5, hv => cases hv
    | 6, hv => cases hv
    | 7, hv => cases hv
    | i + 8, hv => cases hv
  · refine ⟨rfl, fun i v hv => ?_⟩
    match i, hv with
    | 0, hv => cases hv; rfl
    | 1, hv => cases hv
    | 2, hv => cases hv
    | 3, hv => cases hv
    | 4, hv => cases hv
    | 5, hv => cases hv
    | 6, hv => cases hv
    | 7, hv => cases hv
    | i + 8, hv => cases hv
  · intro v hv
    have hv : v = .inr (.inr (some (200, 0, 0))) := by simpa using hv
    subst hv
    intro r' e'
    cases e'
    exact .inl ⟨rfl, Nat.one_pos⟩
  · intro v hv
    cases hv
