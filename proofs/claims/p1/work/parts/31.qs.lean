/-! THE ABSTRACT MACHINE'S STEPS ARE THE PURE MACHINE'S. -/
def qz_dk : List (Nat × Nat) := [(0, 0), (0, 0), (0, 0), (0, 0), (10, 0), (11, 0), (12, 0), (13, 0), (14, 0), (40, 0), (20, 0), (41, 0), (21, 0), (42, 0), (22, 0), (43, 0), (23, 0), (44, 0), (24, 0), (45, 0), (25, 0), (46, 0), (26, 0), (47, 0), (27, 0), (48, 0), (28, 0), (49, 0), (29, 0), (50, 0), (30, 0), (51, 0), (31, 0), (52, 0), (32, 0), (53, 0), (33, 0), (54, 0), (34, 0), (3, 0), (61, 0), (60, 0), (62, 0), (10, 1), (11, 1), (12, 1), (13, 1), (14, 1), (40, 1), (20, 1), (41, 1), (21, 1), (42, 1), (22, 1), (43, 1), (23, 1), (44, 1), (24, 1), (45, 1), (25, 1), (46, 1), (26, 1), (47, 1), (27, 1), (48, 1), (28, 1), (49, 1), (29, 1), (50, 1), (30, 1), (51, 1), (31, 1), (52, 1), (32, 1), (53, 1), (33, 1), (54, 1), (34, 1), (63, 0), (10, 2), (11, 2), (12, 2), (13, 2), (14, 2), (40, 2), (20, 2), (41, 2), (21, 2), (42, 2), (22, 2), (43, 2), (23, 2), (44, 2), (24, 2), (45, 2), (25, 2), (46, 2), (26, 2), (47, 2), (27, 2), (48, 2), (28, 2), (49, 2), (29, 2), (50, 2), (30, 2), (51, 2), (31, 2), (52, 2), (32, 2), (53, 2), (33, 2), (54, 2), (34, 2), (10, 3), (11, 3), (12, 3), (13, 3), (14, 3), (40, 3), (20, 3), (41, 3), (21, 3), (42, 3), (22, 3), (43, 3), (23, 3), (44, 3), (24, 3), (45, 3), (25, 3), (46, 3), (26, 3), (47, 3), (27, 3), (48, 3), (28, 3), (49, 3), (29, 3), (50, 3), (30, 3), (51, 3), (31, 3), (52, 3), (32, 3), (53, 3), (33, 3), (54, 3), (34, 3), (10, 4), (11, 4), (12, 4), (13, 4), (14, 4), (40, 4), (20, 4), (41, 4), (21, 4), (42, 4), (22, 4), (43, 4), (23, 4), (44, 4), (24, 4), (45, 4), (25, 4), (46, 4), (26, 4), (47, 4), (27, 4), (48, 4), (28, 4), (49, 4), (29, 4), (50, 4), (30, 4), (51, 4), (31, 4), (52, 4), (32, 4), (53, 4), (33, 4), (54, 4), (34, 4), (10, 5), (11, 5), (12, 5), (13, 5), (14, 5), (40, 5), (20, 5), (41, 5), (21, 5), (42, 5), (22, 5), (43, 5), (23, 5), (44, 5), (24, 5), (45, 5), (25, 5), (46, 5), (26, 5), (47, 5), (27, 5), (48, 5), (28, 5), (49, 5), (29, 5), (50, 5), (30, 5), (51, 5), (31, 5), (52, 5), (32, 5), (53, 5), (33, 5), (54, 5), (34, 5), (10, 6), (11, 6), (12, 6), (13, 6), (14, 6), (40, 6), (20, 6), (41, 6), (21, 6), (42, 6), (22, 6), (43, 6), (23, 6), (44, 6), (24, 6), (45, 6), (25, 6), (46, 6), (26, 6), (47, 6), (27, 6), (48, 6), (28, 6), (49, 6), (29, 6), (50, 6), (30, 6), (51, 6), (31, 6), (52, 6), (32, 6), (53, 6), (33, 6), (54, 6), (34, 6), (10, 7), (11, 7), (12, 7), (13, 7), (14, 7), (40, 7), (20, 7), (41, 7), (21, 7), (42, 7), (22, 7), (43, 7), (23, 7), (44, 7), (24, 7), (45, 7), (25, 7), (46, 7), (26, 7), (47, 7), (27, 7), (48, 7), (28, 7), (49, 7), (29, 7), (50, 7), (30, 7), (51, 7), (31, 7), (52, 7), (32, 7), (53, 7), (33, 7), (54, 7), (34, 7), (10, 8), (11, 8), (12, 8), (13, 8), (14, 8), (40, 8), (20, 8), (41, 8), (21, 8), (42, 8), (22, 8), (43, 8), (23, 8), (44, 8), (24, 8), (45, 8), (25, 8), (46, 8), (26, 8), (47, 8), (27, 8), (48, 8), (28, 8), (49, 8), (29, 8), (50, 8), (30, 8), (51, 8), (31, 8), (52, 8), (32, 8), (53, 8), (33, 8), (54, 8), (34, 8), (10, 9), (11, 9), (12, 9), (13, 9), (14, 9), (40, 9), (20, 9), (41, 9), (21, 9), (42, 9), (22, 9), (43, 9), (23, 9), (44, 9), (24, 9), (45, 9), (25, 9), (46, 9), (26, 9), (47, 9), (27, 9), (48, 9), (28, 9), (49, 9), (29, 9), (50, 9), (30, 9), (51, 9), (31, 9), (52, 9), (32, 9), (53, 9), (33, 9), (54, 9), (34, 9), (64, 0), (10, 10), (11, 10), (12, 10), (13, 10), (14, 10), (40, 10), (20, 10), (41, 10), (21, 10), (42, 10), (22, 10), (43, 10), (23, 10), (44, 10), (24, 10), (45, 10), (25, 10), (46, 10), (26, 10), (47, 10), (27, 10), (48, 10), (28, 10), (49, 10), (29, 10), (50, 10), (30, 10), (51, 10), (31, 10), (52, 10), (32, 10), (53, 10), (33, 10), (54, 10), (34, 10), (10, 11), (11, 11), (12, 11), (13, 11), (14, 11), (40, 11), (20, 11), (41, 11), (21, 11), (42, 11), (22, 11), (43, 11), (23, 11), (44, 11), (24, 11), (45, 11), (25, 11), (46, 11), (26, 11), (47, 11), (27, 11), (48, 11), (28, 11), (49, 11), (29, 11), (50, 11), (30, 11), (51, 11), (31, 11), (52, 11), (32, 11), (53, 11), (33, 11), (54, 11), (34, 11), (65, 0), (4, 0), (66, 0), (67, 0), (10, 12), (11, 12), (12, 12), (13, 12), (14, 12), (40, 12), (20, 12), (41, 12), (21, 12), (42, 12), (22, 12), (43, 12), (23, 12), (44, 12), (24, 12), (45, 12), (25, 12), (46, 12), (26, 12), (47, 12), (27, 12), (48, 12), (28, 12), (49, 12), (29, 12), (50, 12), (30, 12), (51, 12), (31, 12), (52, 12), (32, 12), (53, 12), (33, 12), (54, 12), (34, 12), (10, 13), (11, 13), (12, 13), (13, 13), (14, 13), (40, 13), (20, 13), (41, 13), (21, 13), (42, 13), (22, 13), (43, 13), (23, 13), (44, 13), (24, 13), (45, 13), (25, 13), (46, 13), (26, 13), (47, 13), (27, 13), (48, 13), (28, 13), (49, 13), (29, 13), (50, 13), (30, 13), (51, 13), (31, 13), (52, 13), (32, 13), (53, 13), (33, 13), (54, 13), (34, 13), (10, 14), (11, 14), (12, 14), (13, 14), (14, 14), (40, 14), (20, 14), (41, 14), (21, 14), (42, 14), (22, 14), (43, 14), (23, 14), (44, 14), (24, 14), (45, 14), (25, 14), (46, 14), (26, 14), (47, 14), (27, 14), (48, 14), (28, 14), (49, 14), (29, 14), (50, 14), (30, 14), (51, 14), (31, 14), (52, 14), (32, 14), (53, 14), (33, 14), (54, 14), (34, 14), (68, 0), (69, 0), (70, 0), (1, 0), (2, 0), (81, 0), (82, 0), (83, 0), (84, 0), (85, 0), (86, 0), (87, 0), (88, 0), (89, 0), (90, 0), (91, 0), (92, 0), (93, 0), (94, 0), (95, 0), (96, 0), (97, 0), (98, 0), (99, 0), (100, 0), (101, 0), (102, 0), (103, 0), (104, 0), (105, 0), (106, 0), (107, 0), (108, 0), (109, 0), (110, 0), (111, 0), (112, 0), (113, 0), (71, 0)]
/-- behind the constructors (ph): 578 families stand; ahead of them: 3 -/
def qz_F9 (ph : Bool) : Nat := bif ph then qz_F0 else 3
def qz_fm (k b : Nat) : Nat := if 10000 ≤ qz_fms.getD k 1 then qz_hb.getD b 1 + (qz_fms.getD k 1 - 10000) else qz_fms.getD k 1
def qz_cr (ph : Bool) (r : qz_R) : pz_R := if r.1 = 200 then ((if r.2.1 = 0 then 0 else qz_F9 ph + r.2.1 - 1), r.2.2) else (qz_fm r.1 r.2.1, r.2.2)
def qz_cv (ph : Bool) (v : qz_V) : pz_V := match v with | .inl x => .inl x | .inr (.inl x) => .inr (.inl x) | .inr (.inr r) => .inr (.inr (r.map (qz_cr ph)))
abbrev qz_cL (ph : Bool) (L : qz_L) : pz_L := L.map (Option.map (qz_cv ph))
abbrev qz_cS (ph : Bool) (st : List qz_V) : List pz_V := st.map (qz_cv ph)
def qz_ok (ph : Bool) (n : Nat) (r : qz_R) : Prop := (r.1 = 200 ∧ r.2.1 < n) ∨ (r.1 ≠ 200 ∧ ph = true ∧ r.2.1 < qz_nbs.getD r.1 0 ∧ r.2.2 < qz_cts.getD r.1 0)
def qz_shp (μ : qz_M) (r : qz_R) : Nat × Nat × Nat := if r.1 = 200 then qz_dn μ r.2.1 else (qz_tgs.getD r.1 255, qz_cts.getD r.1 0, qz_lns.getD r.1 0)
def qz_okV (ph : Bool) (n : Nat) (v : qz_V) : Prop := ∀ r, v = .inr (.inr (some r)) → qz_ok ph n r
def qz_okL (ph : Bool) (n : Nat) (L : qz_L) : Prop := ∀ v, some v ∈ L → qz_okV ph n v
def qz_okS (ph : Bool) (n : Nat) (st : List qz_V) : Prop := ∀ v ∈ st, qz_okV ph n v
def qz_Rel (ph : Bool) (μ : qz_M) (σ : pz_S) : Prop :=
  (σ.1 + 1 = qz_F9 ph + qz_na μ ∧ 1 ≤ qz_na μ) ∧ (pz_kc σ = qz_kc μ ∧ pz_ks σ = qz_ks μ) ∧
  (∀ r, qz_ok ph (qz_na μ) r → pz_sh σ (qz_cr ph r).1 = qz_shp μ r) ∧
  (∀ r, qz_ok ph (qz_na μ) r → ∀ j, pz_mm σ (qz_cr ph r).1 (qz_cr ph r).2 j = qz_im μ r.1 r.2.1 r.2.2 j ∧ pz_ml σ (qz_cr ph r).1 (qz_cr ph r).2 j = qz_lm μ r.1 r.2.1 r.2.2 j) ∧
  (∀ r, qz_ok ph (qz_na μ) r → ∀ j, (r.1 = 200 ∨ j < qz_nrs.getD r.1 0) → pz_rr σ (qz_cr ph r).1 (qz_cr ph r).2 j = (qz_rf μ r j).map (qz_cr ph) ∧ ∀ r', qz_rf μ r j = some r' → qz_ok ph (qz_na μ) r')
section PH
variable {ph : Bool}
theorem qz_okn {n m : Nat} {r : qz_R} (h : qz_ok ph n r) (hm : n ≤ m) : qz_ok ph m r := h.elim (fun q => .inl ⟨q.1, Nat.lt_of_lt_of_le q.2 hm⟩) .inr
theorem qz_okVn {n m : Nat} {v : qz_V} (h : qz_okV ph n v) (hm : n ≤ m) : qz_okV ph m v := fun r e => qz_okn (h r e) hm
theorem qz_okLn {n m : Nat} {L : qz_L} (h : qz_okL ph n L) (hm : n ≤ m) : qz_okL ph m L := fun v e => qz_okVn (h v e) hm
theorem qz_okSn {n m : Nat} {L : List qz_V} (h : qz_okS ph n L) (hm : n ≤ m) : qz_okS ph m L := fun v e => qz_okVn (h v e) hm
theorem qz_okI {n : Nat} {x : Int32} : qz_okV ph n (.inl x) := fun r e => by cases e
theorem qz_okJ {n : Nat} {x : Int64} : qz_okV ph n (.inr (.inl x)) := fun r e => by cases e
theorem qz_okR {n : Nat} {r : qz_R} (h : qz_ok ph n r) : qz_okV ph n (.inr (.inr (some r))) := fun r' e => by cases e; exact h
theorem qz_okS_c {n : Nat} {v : qz_V} {r : List qz_V} (h : qz_okV ph n v) (g : qz_okS ph n r) : qz_okS ph n (v :: r) := fun w hw => by
  rcases List.mem_cons.mp hw with rfl | hw
  · exact h
  · exact g w hw
theorem qz_okS_t {n : Nat} {v : qz_V} {r : List qz_V} (h : qz_okS ph n (v :: r)) : qz_okS ph n r := fun w hw => h w (List.mem_cons_of_mem _ hw)
theorem qz_okS_h {n : Nat} {v : qz_V} {r : List qz_V} (h : qz_okS ph n (v :: r)) : qz_okV ph n v := h v List.mem_cons_self
theorem qz_okS_n {n : Nat} : qz_okS ph n [] := fun v h => by cases h
theorem qz_nb_lt {k b : Nat} (h : b < qz_nbs.getD k 0) : k < 114 := by
  rcases Nat.lt_or_ge k 114 with q | q
  · exact q
  · rw [List.getD_eq_getElem?_getD, List.getElem?_eq_none (show qz_nbs.length ≤ k from q)] at h
    exact absurd h (Nat.not_lt_zero _)
theorem qz_lay : ∀ k, k < 114 → ∀ b, b < qz_nbs.getD k 0 → qz_dk.getD (qz_fm k b) (0, 0) = (k, b) ∧ 3 ≤ qz_fm k b ∧ qz_fm k b < qz_F0 := by decide +kernel
theorem qz_lay2 : ∀ k, k < 114 → (qz_tgs.getD k 255 < 6 → qz_nrs.getD k 0 = pz_n (qz_tgs.getD k 255)) ∧ (qz_tgs.getD k 255 = 53 ∨ qz_tgs.getD k 255 = 54 → qz_nrs.getD k 0 = qz_lns.getD k 0) := by decide +kernel
theorem qz_cr2 (r : qz_R) : (qz_cr ph r).2 = r.2.2 := by unfold qz_cr; split <;> rfl
theorem qz_cr_d {r : qz_R} (h : r.1 = 200) : (qz_cr ph r).1 = if r.2.1 = 0 then 0 else qz_F9 ph + r.2.1 - 1 := by unfold qz_cr; rw [if_pos h]
theorem qz_cr_s {r : qz_R} (h : r.1 ≠ 200) : (qz_cr ph r).1 = qz_fm r.1 r.2.1 := by unfold qz_cr; rw [if_neg h]
theorem qz_F9_3 : 3 ≤ qz_F9 ph := by cases ph <;> decide
theorem qz_cr_inj {n : Nat} {r r' : qz_R} (h : qz_ok ph n r) (h' : qz_ok ph n r') (e1 : (qz_cr ph r).1 = (qz_cr ph r').1) (e2 : (qz_cr ph r).2 = (qz_cr ph r').2) : r = r' := by
  rw [qz_cr2, qz_cr2] at e2
  have hF := qz_F9_3 (ph := ph)
  obtain ⟨k, b, i⟩ := r
  obtain ⟨k', b', i'⟩ := r'
  rcases h with ⟨h1, h2⟩ | ⟨h1, h0, h2, h3⟩ <;> rcases h' with ⟨g1, g2⟩ | ⟨g1, g0, g2, g3⟩
  · rw [qz_cr_d h1, qz_cr_d g1] at e1
    dsimp only at e1 e2 h1 g1
    have : b = b' := by
      split at e1 <;> split at e1 <;> omega
    rw [this, h1, g1, e2]
  · exfalso
    obtain ⟨-, q1, q2⟩ := qz_lay _ (qz_nb_lt g2) _ g2
    have hG : qz_F9 ph = qz_F0 := by rw [g0]; rfl
    rw [qz_cr_d h1, qz_cr_s g1] at e1
    dsimp only at e1 q1 q2
    split at e1 <;> omega
  · exfalso
    obtain ⟨-, q1, q2⟩ := qz_lay _ (qz_nb_lt h2) _ h2
    have hG : qz_F9 ph = qz_F0 := by rw [h0]; rfl
    rw [qz_cr_d g1, qz_cr_s h1] at e1
    dsimp only at e1 q1 q2
    split at e1 <;> omega
  · obtain ⟨q, -⟩ := qz_lay _ (qz_nb_lt h2) _ h2
    obtain ⟨q', -⟩ := qz_lay _ (qz_nb_lt g2) _ g2
    rw [qz_cr_s h1, qz_cr_s g1] at e1
    rw [e1] at q
    have := q.symm.trans q'
    dsimp only at this e2
    rw [Prod.mk.injEq] at this
    rw [this.1, this.2, e2]
theorem qz_b200 {k : Nat} (h : k ≠ 200) : Nat.beq k 200 = false := by
  cases hq : Nat.beq k 200
  · rfl
  · exact absurd (Nat.eq_of_beq_eq_true hq) h
theorem qz_is_ok {μ : qz_M} {σ : pz_S} {r : qz_R} {t : Nat} (R : qz_Rel ph μ σ) (h : qz_ok ph (qz_na μ) r) (ht : Nat.beq (qz_tag μ r) t = true) (h9 : t ≠ 255) : pz_is σ (qz_cr ph r).1 (qz_cr ph r).2 t = true := by
  unfold pz_is
  rw [R.2.2.1 r h, qz_cr2]
  unfold qz_shp
  unfold qz_tag at ht
  rcases h with ⟨h1, -⟩ | ⟨h1, -, -, h3⟩
  · rw [if_pos h1]
    rw [show Nat.beq r.1 200 = true by rw [h1]; rfl] at ht
    dsimp only [cond_true] at ht
    cases hc : Nat.blt r.2.2 (qz_dn μ r.2.1).2.1
    · rw [hc] at ht
      exact absurd (Nat.eq_of_beq_eq_true ht).symm h9
    · rw [hc] at ht
      dsimp only [cond_true] at ht
      rw [ht]
      rfl
  · rw [if_neg h1]
    rw [qz_b200 h1] at ht
    dsimp only [cond_false] at ht ⊢
    rw [ht, Bool.true_and]
    exact Nat.ble_eq_true_of_le h3
theorem qz_sh_ok {μ : qz_M} {σ : pz_S} {r : qz_R} (R : qz_Rel ph μ σ) (h : qz_ok ph (qz_na μ) r) : (qz_tag μ r ≠ 255 → (pz_sh σ (qz_cr ph r).1).1 = qz_tag μ r) ∧ (pz_sh σ (qz_cr ph r).1).2.2 = qz_len μ r := by
  rw [R.2.2.1 r h]
  unfold qz_shp qz_tag qz_len
  rcases h with ⟨h1, -⟩ | ⟨h1, -, -, h3⟩
  · rw [if_pos h1, show Nat.beq r.1 200 = true by rw [h1]; rfl]
    refine ⟨fun q => ?_, rfl⟩
    dsimp only [cond_true] at q ⊢
    cases hc : Nat.blt r.2.2 (qz_dn μ r.2.1).2.1
    · rw [hc] at q
      exact absurd rfl q
    · rfl
  · rw [if_neg h1, qz_b200 h1]
    exact ⟨fun _ => rfl, rfl⟩
theorem qz_Rel_wI {μ : qz_M} {σ : pz_S} {r : qz_R} (R : qz_Rel ph μ σ) (h : qz_ok ph (qz_na μ) r) (j : Nat) (v : Int32) : qz_Rel ph (qz_wI μ r j v) (pz_wM σ (qz_cr ph r).1 (qz_cr ph r).2 j v) := by
  refine ⟨R.1, R.2.1, R.2.2.1, fun r' h' j' => ⟨?_, (R.2.2.2.1 r' h' j').2⟩, R.2.2.2.2⟩
  show pz_u3 (pz_mm σ) (qz_cr ph r).1 (qz_cr ph r).2 j v (qz_cr ph r').1 (qz_cr ph r').2 j' = qz_u4 (qz_im μ) r.1 r.2.1 r.2.2 j v r'.1 r'.2.1 r'.2.2 j'
  unfold pz_u3 qz_u4
  by_cases e : r' = r ∧ j' = j
  · obtain ⟨rfl, rfl⟩ := e
    rw [if_pos ⟨rfl, rfl, rfl⟩, if_pos ⟨rfl, rfl, rfl, rfl⟩]
  · rw [if_neg (fun q => e ⟨qz_cr_inj h' h q.1 q.2.1, q.2.2⟩), if_neg (fun q => e ⟨Prod.ext q.1 (Prod.ext q.2.1 q.2.2.1), q.2.2.2⟩)]
    exact (R.2.2.2.1 r' h' j').1
theorem qz_Rel_wC {μ : qz_M} {σ : pz_S} {r : qz_R} (R : qz_Rel ph μ σ) (h : qz_ok ph (qz_na μ) r) (c : Nat → Int32) : qz_Rel ph (qz_wC μ r c) (pz_wC σ (qz_cr ph r).1 (qz_cr ph r).2 c) := by
  refine ⟨R.1, R.2.1, R.2.2.1, fun r' h' j' => ⟨?_, (R.2.2.2.1 r' h' j').2⟩, R.2.2.2.2⟩
  show (if (qz_cr ph r').1 = (qz_cr ph r).1 ∧ (qz_cr ph r').2 = (qz_cr ph r).2 then c else pz_mm σ (qz_cr ph r').1 (qz_cr ph r').2) j' = (if r'.1 = r.1 ∧ r'.2.1 = r.2.1 ∧ r'.2.2 = r.2.2 then c else qz_im μ r'.1 r'.2.1 r'.2.2) j'
  by_cases e : r' = r
  · subst e
    rw [if_pos ⟨rfl, rfl⟩, if_pos ⟨rfl, rfl, rfl⟩]
  · rw [if_neg (fun q => e (qz_cr_inj h' h q.1 q.2)), if_neg (fun q => e (Prod.ext q.1 (Prod.ext q.2.1 q.2.2)))]
    exact (R.2.2.2.1 r' h' j').1
theorem qz_Rel_wL {μ : qz_M} {σ : pz_S} {r : qz_R} (R : qz_Rel ph μ σ) (h : qz_ok ph (qz_na μ) r) (j : Nat) (v : Int64) : qz_Rel ph (qz_wL μ r j v) (pz_wL σ (qz_cr ph r).1 (qz_cr ph r).2 j v) := by
  refine ⟨R.1, R.2.1, R.2.2.1, fun r' h' j' => ⟨(R.2.2.2.1 r' h' j').1, ?_⟩, R.2.2.2.2⟩
  show pz_u3 (pz_ml σ) (qz_cr ph r).1 (qz_cr ph r).2 j v (qz_cr ph r').1 (qz_cr ph r').2 j' = qz_u4 (qz_lm μ) r.1 r.2.1 r.2.2 j v r'.1 r'.2.1 r'.2.2 j'
  unfold pz_u3 qz_u4
  by_cases e : r' = r ∧ j' = j
  · obtain ⟨rfl, rfl⟩ := e
    rw [if_pos ⟨rfl, rfl, rfl⟩, if_pos ⟨rfl, rfl, rfl, rfl⟩]
  · rw [if_neg (fun q => e ⟨qz_cr_inj h' h q.1 q.2.1, q.2.2⟩), if_neg (fun q => e ⟨Prod.ext q.1 (Prod.ext q.2.1 q.2.2.1), q.2.2.2⟩)]
    exact (R.2.2.2.1 r' h' j').2
theorem qz_Rel_wR {μ : qz_M} {σ : pz_S} {r : qz_R} (R : qz_Rel ph μ σ) (h : qz_ok ph (qz_na μ) r) (j : Nat) (v : Option qz_R) (hd : qz_dy r j = true) (hv : ∀ r', v = some r' → qz_ok ph (qz_na μ) r') : qz_Rel ph (qz_wR μ r j v) (pz_wR σ (qz_cr ph r).1 (qz_cr ph r).2 j (v.map (qz_cr ph))) := by
  refine ⟨R.1, R.2.1, R.2.2.1, R.2.2.2.1, fun r' h' j' hj => ?_⟩
  have A := R.2.2.2.2 r' h' j' hj
  show pz_u3 (pz_rr σ) (qz_cr ph r).1 (qz_cr ph r).2 j (v.map (qz_cr ph)) (qz_cr ph r').1 (qz_cr ph r').2 j' = (bif qz_dy r' j' then qz_u4 (qz_rm μ) r.1 r.2.1 r.2.2 j v r'.1 r'.2.1 r'.2.2 j' else qz_st r'.1 r'.2.1 j').map (qz_cr ph) ∧ ∀ r9, (bif qz_dy r' j' then qz_u4 (qz_rm μ) r.1 r.2.1 r.2.2 j v r'.1 r'.2.1 r'.2.2 j' else qz_st r'.1 r'.2.1 j') = some r9 → qz_ok ph (qz_na μ) r9
  by_cases e : r' = r ∧ j' = j
  · obtain ⟨rfl, rfl⟩ := e
    have e1 : qz_u4 (qz_rm μ) r'.1 r'.2.1 r'.2.2 j' v r'.1 r'.2.1 r'.2.2 j' = v := if_pos ⟨rfl, rfl, rfl, rfl⟩
    have e2 : pz_u3 (pz_rr σ) (qz_cr ph r').1 (qz_cr ph r').2 j' (v.map (qz_cr ph)) (qz_cr ph r').1 (qz_cr ph r').2 j' = v.map (qz_cr ph) := if_pos ⟨rfl, rfl, rfl⟩
    rw [hd, e1, e2]
    exact ⟨rfl, hv⟩
  · have e1 : qz_u4 (qz_rm μ) r.1 r.2.1 r.2.2 j v r'.1 r'.2.1 r'.2.2 j' = qz_rm μ r'.1 r'.2.1 r'.2.2 j' := if_neg (fun q => e ⟨Prod.ext q.1 (Prod.ext q.2.1 q.2.2.1), q.2.2.2⟩)
    have e2 : pz_u3 (pz_rr σ) (qz_cr ph r).1 (qz_cr ph r).2 j (v.map (qz_cr ph)) (qz_cr ph r').1 (qz_cr ph r').2 j' = pz_rr σ (qz_cr ph r').1 (qz_cr ph r').2 j' := if_neg (fun q => e ⟨qz_cr_inj h' h q.1 q.2.1, q.2.2⟩)
    rw [e1, e2]
    exact A
theorem qz_ok_al {n : Nat} {r : qz_R} (h : qz_ok ph (n + 1) r) : qz_ok ph n r ∨ r = (200, n, r.2.2) := by
  rcases h with ⟨h1, h2⟩ | h
  · rcases Nat.lt_succ_iff_lt_or_eq.mp h2 with q | q
    · exact .inl (.inl ⟨h1, q⟩)
    · exact .inr (Prod.ext h1 (Prod.ext q rfl))
  · exact .inl (.inr h)
theorem qz_ok_nw {n i : Nat} : qz_ok ph (n + 1) (200, n, i) := .inl ⟨rfl, Nat.lt_succ_self _⟩
theorem qz_ok_ne {n : Nat} {r : qz_R} (h : qz_ok ph n r) : ¬ (r.1 = 200 ∧ r.2.1 = n) := fun q => by
  rcases h with ⟨-, h2⟩ | ⟨h1, -⟩
  · omega
  · exact h1 q.1
theorem qz_cr_nw {μ : qz_M} {σ : pz_S} (R : qz_Rel ph μ σ) (i : Nat) : qz_cr ph (200, qz_na μ, i) = (σ.1, i) := by
  refine Prod.ext ?_ (qz_cr2 _)
  rw [qz_cr_d rfl]
  have := R.1
  have hF := qz_F9_3 (ph := ph)
  show (if qz_na μ = 0 then 0 else qz_F9 ph + qz_na μ - 1) = σ.1
  rw [if_neg (by omega)]
  omega
theorem qz_cr_ne {μ : qz_M} {σ : pz_S} (R : qz_Rel ph μ σ) {r : qz_R} (h : qz_ok ph (qz_na μ) r) : (qz_cr ph r).1 ≠ σ.1 := by
  have := R.1
  have hF := qz_F9_3 (ph := ph)
  rcases h with ⟨h1, h2⟩ | ⟨h1, h0, h2, h3⟩
  · rw [qz_cr_d h1]
    split <;> omega
  · obtain ⟨-, q1, q2⟩ := qz_lay _ (qz_nb_lt h2) _ h2
    have hG : qz_F9 ph = qz_F0 := by rw [h0]; rfl
    rw [qz_cr_s h1]
    omega
theorem qz_Rel_alr {μ : qz_M} {σ : pz_S} (R : qz_Rel ph μ σ) (tag cnt len cells slots : Nat) (f : Nat → Option qz_R) (hf : ∀ j r', f j = some r' → qz_ok ph (qz_na μ + 1) r') : qz_Rel ph (qz_alr μ tag cnt len cells slots f) (pz_al σ tag cnt len cells slots (fun _ j => (f j).map (qz_cr ph))) := by
  have hne := fun (r : qz_R) (h : qz_ok ph (qz_na μ) r) => qz_cr_ne R h
  have sp : ∀ r, qz_ok ph (qz_na μ) r → qz_shp (qz_alr μ tag cnt len cells slots f) r = qz_shp μ r := fun r h => by
    unfold qz_shp
    by_cases q : r.1 = 200
    · rw [if_pos q, if_pos q]
      exact if_neg (fun q2 => qz_ok_ne h ⟨q, q2⟩)
    · rw [if_neg q, if_neg q]
  refine ⟨⟨?_, Nat.le_succ_of_le R.1.2⟩, ⟨?_, ?_⟩, fun r h => ?_, fun r h j => ?_, fun r h j hj => ?_⟩
  · show σ.1 + 1 + 1 = qz_F9 ph + (qz_na μ + 1)
    have := R.1.1
    omega
  · show pz_kc σ + cells = qz_kc μ + cells
    rw [R.2.1.1]
  · show pz_ks σ + slots = qz_ks μ + slots
    rw [R.2.1.2]
  · rcases qz_ok_al h with h | e
    · rw [sp r h]
      exact (if_neg (hne r h)).trans (R.2.2.1 r h)
    · rw [e, qz_cr_nw R]
      unfold qz_shp
      rw [if_pos rfl]
      exact (if_pos rfl).trans (if_pos rfl).symm
  · rcases qz_ok_al h with h | e9
    · have e := R.2.2.2.1 r h j
      refine ⟨?_, ?_⟩
      · refine (congrFun (congrFun (if_neg (hne r h)) _) _).trans (e.1.trans ?_)
        exact (if_neg (qz_ok_ne h)).symm
      · refine (congrFun (congrFun (if_neg (hne r h)) _) _).trans (e.2.trans ?_)
        exact (if_neg (qz_ok_ne h)).symm
    · rw [e9, qz_cr_nw R]
      refine ⟨?_, ?_⟩
      · refine (congrFun (congrFun (if_pos rfl) _) _).trans ?_
        exact (if_pos (And.intro rfl rfl)).symm
      · refine (congrFun (congrFun (if_pos rfl) _) _).trans ?_
        exact (if_pos (And.intro rfl rfl)).symm
  · rcases qz_ok_al h with h | e9
    · have e := R.2.2.2.2 r h j hj
      have e1 : qz_rf (qz_alr μ tag cnt len cells slots f) r j = qz_rf μ r j := by
        unfold qz_rf
        have : qz_rm (qz_alr μ tag cnt len cells slots f) r.1 r.2.1 r.2.2 j = qz_rm μ r.1 r.2.1 r.2.2 j := if_neg (qz_ok_ne h)
        rw [this]
      rw [e1]
      exact ⟨(congrFun (congrFun (if_neg (hne r h)) _) _).trans e.1, fun r' h' => qz_okn (e.2 r' h') (Nat.le_succ _)⟩
    · rw [e9, qz_cr_nw R]
      have e1 : qz_rf (qz_alr μ tag cnt len cells slots f) (200, qz_na μ, r.2.2) j = f j := (if_pos (And.intro rfl rfl) : (if 200 = 200 ∧ qz_na μ = qz_na μ then f j else qz_rm μ 200 (qz_na μ) r.2.2 j) = f j)
      rw [e1]
      refine ⟨?_, fun r' h' => hf j r' h'⟩
      show pz_uf σ.2.2.1 σ.1 (fun _ j => (f j).map (qz_cr ph)) σ.1 _ j = _
      unfold pz_uf
      rw [if_pos rfl]
theorem qz_Rel_al {μ : qz_M} {σ : pz_S} (R : qz_Rel ph μ σ) (tag cnt len cells slots : Nat) : qz_Rel ph (qz_al μ tag cnt len cells slots) (pz_al σ tag cnt len cells slots (fun _ _ => none)) := qz_Rel_alr R tag cnt len cells slots (fun _ => none) (fun _ _ e => by cases e)
theorem qz_Rel_kk {μ : qz_M} {σ : pz_S} (R : qz_Rel ph μ σ) (c s : Nat) : qz_Rel ph (qz_kk μ c s) (σ.1, σ.2.1, σ.2.2.1, σ.2.2.2.1, σ.2.2.2.2.1, σ.2.2.2.2.2.1 + c, σ.2.2.2.2.2.2 + s) := by
  refine ⟨R.1, ⟨?_, ?_⟩, R.2.2.1, R.2.2.2.1, R.2.2.2.2⟩
  · show pz_kc σ + c = qz_kc μ + c
    rw [R.2.1.1]
  · show pz_ks σ + s = qz_ks μ + s
    rw [R.2.1.2]
/-! locals: what the abstract machine knows of a local, the pure one has -/
def qz_LR (ph : Bool) (L : qz_L) (Lc : pz_L) : Prop := Lc.length = L.length ∧ ∀ i v, L.getD i none = some v → Lc.getD i none = some (qz_cv ph v)
theorem qz_cL_getD (L : qz_L) (i : Nat) : (qz_cL ph L).getD i none = (L.getD i none).map (qz_cv ph) := by
  rw [List.getD_eq_getElem?_getD, List.getD_eq_getElem?_getD, List.getElem?_map]
  cases L[i]? <;> rfl
theorem qz_LR_cL (L : qz_L) : qz_LR ph L (qz_cL ph L) := ⟨List.length_map .., fun i v h => by rw [qz_cL_getD, h]; rfl⟩
theorem qz_getD_set {α : Type} (L : List (Option α)) (i j : Nat) (v : Option α) : (L.set i v).getD j none = if i = j ∧ i < L.length then v else L.getD j none := by
  rw [List.getD_eq_getElem?_getD, List.getD_eq_getElem?_getD, List.getElem?_set]
  by_cases h : i = j
  · subst h
    by_cases h2 : i < L.length
    · rw [if_pos rfl, if_pos h2, if_pos ⟨rfl, h2⟩]; rfl
    · rw [if_pos rfl, if_neg h2, if_neg (fun q => h2 q.2), List.getElem?_eq_none (Nat.le_of_not_lt h2)]
  · rw [if_neg h, if_neg (fun q => h q.1)]
theorem qz_kill_len (L : qz_L) (i : Nat) : (qz_kill L i).length = L.length := by
  match i with
  | 0 => rfl
  | k + 1 =>
    unfold qz_kill
    dsimp only
    split
    · exact List.length_set
    · rfl
theorem qz_okL_kill {n : Nat} {L : qz_L} (h : qz_okL ph n L) (i : Nat) : qz_okL ph n (qz_kill L i) := by
  match i with
  | 0 => exact h
  | k + 1 =>
    unfold qz_kill
    dsimp only
    split
    · intro v hv
      rcases List.mem_or_eq_of_mem_set hv with q | q
      · exact h v q
      · cases q
    · exact h
theorem pz_kill_len9 (L : pz_L) (i : Nat) : (pz_kill L i).length = L.length := by
  match i with
  | 0 => rfl
  | k + 1 =>
    unfold pz_kill
    dsimp only
    split
    · exact List.length_set
    · rfl
theorem qz_LR_kill {L : qz_L} {Lc : pz_L} (h : qz_LR ph L Lc) (i : Nat) : qz_LR ph (qz_kill L i) (pz_kill Lc i) := by
  refine ⟨by rw [pz_kill_len9, qz_kill_len]; exact h.1, fun j v hj => ?_⟩
  match i, hj with
  | 0, hj => exact h.2 j v hj
  | k + 1, hj =>
    have hj2 : L.getD j none = some v ∧ (j = k → ∀ z, v ≠ .inr (.inl z)) := by
      unfold qz_kill at hj
      dsimp only at hj
      split at hj
      · rename_i z hz
        rw [qz_getD_set] at hj
        split at hj
        · cases hj
        · rename_i hn
          refine ⟨hj, fun e => ?_⟩
          subst e
          exfalso
          refine hn ⟨rfl, ?_⟩
          rcases Nat.lt_or_ge j L.length with q | q
          · exact q
          · rw [List.getD_eq_getElem?_getD, List.getElem?_eq_none q] at hz
            cases hz
      · rename_i hn
        refine ⟨hj, fun e z hz => ?_⟩
        subst e hz
        exact hn z hj
    have hc := h.2 j v hj2.1
    unfold pz_kill
    dsimp only
    split
    · rename_i z hz
      rw [qz_getD_set, if_neg]
      · exact hc
      · rintro ⟨e, -⟩
        subst e
        rw [hc] at hz
        match v, hz, hj2.2 rfl with
        | .inr (.inl w), _, h9 => exact h9 w rfl
    · exact hc
theorem qz_LR_set {L : qz_L} {Lc : pz_L} (h : qz_LR ph L Lc) (i : Nat) {v : Option qz_V} {w : Option pz_V} (hv : ∀ x, v = some x → w = some (qz_cv ph x)) : qz_LR ph (L.set i v) (Lc.set i w) := by
  refine ⟨by rw [List.length_set, List.length_set]; exact h.1, fun j x hj => ?_⟩
  rw [qz_getD_set] at hj ⊢
  rw [h.1]
  split at hj
  · rename_i hc
    rw [if_pos hc]
    exact hv x hj
  · rename_i hc
    rw [if_neg hc]
    exact h.2 j x hj
theorem qz_LR_st1 {L : qz_L} {Lc : pz_L} (h : qz_LR ph L Lc) (i : Nat) (v : qz_V) : qz_LR ph (qz_st1 L i v) (pz_st1 Lc i (qz_cv ph v)) := qz_LR_set (qz_LR_kill h i) i (fun x e => by cases e; rfl)
theorem qz_LR_st2 {L : qz_L} {Lc : pz_L} (h : qz_LR ph L Lc) (i : Nat) (v : qz_V) : qz_LR ph (qz_st2 L i v) (pz_st2 Lc i (qz_cv ph v)) := qz_LR_set (qz_LR_set (qz_LR_kill h i) i (fun x e => by cases e; rfl)) (i + 1) (fun x e => by cases e)
theorem qz_st1_len (L : qz_L) (i : Nat) (v : qz_V) : (qz_st1 L i v).length = L.length := by unfold qz_st1; rw [List.length_set, qz_kill_len]
theorem qz_st2_len (L : qz_L) (i : Nat) (v : qz_V) : (qz_st2 L i v).length = L.length := by unfold qz_st2; rw [List.length_set, List.length_set, qz_kill_len]
theorem qz_okL_st1 {n : Nat} {L : qz_L} (h : qz_okL ph n L) (i : Nat) {v : qz_V} (hv : qz_okV ph n v) : qz_okL ph n (qz_st1 L i v) := fun w hw => by
  rcases List.mem_or_eq_of_mem_set hw with q | q
  · exact qz_okL_kill h i w q
  · cases q; exact hv
theorem qz_okL_st2 {n : Nat} {L : qz_L} (h : qz_okL ph n L) (i : Nat) {v : qz_V} (hv : qz_okV ph n v) : qz_okL ph n (qz_st2 L i v) := fun w hw => by
  rcases List.mem_or_eq_of_mem_set hw with q | q
  · rcases List.mem_or_eq_of_mem_set q with q | q
    · exact qz_okL_kill h i w q
    · cases q; exact hv
  · cases q
theorem qz_okL_at {n : Nat} {L : qz_L} (h : qz_okL ph n L) {i : Nat} {v : qz_V} (e : L.getD i none = some v) : qz_okV ph n v := by
  refine h v ?_
  rw [List.getD_eq_getElem?_getD] at e
  cases hk : L[i]? with
  | none => rw [hk] at e; cases e
  | some w =>
    rw [hk] at e
    cases (show w = some v from e)
    exact List.mem_of_getElem? hk
theorem qz_w1_cv (v : qz_V) : pz_w1 (qz_cv ph v) = qz_w1 v := by
  match v with
  | .inl _ => rfl
  | .inr (.inl _) => rfl
  | .inr (.inr _) => rfl
theorem qz_wt_cS (st : List qz_V) : pz_wt (qz_cS ph st) = qz_wt st := by
  unfold pz_wt qz_wt
  rw [List.map_map]
  congr 1
  exact List.map_congr_left (fun v _ => qz_w1_cv v)
/-! steps -/
section QE
variable {L : pz_L} {q : List pz_V} {σ : pz_S} {pc : Nat} {r : pz_R} {j v : Int32}
theorem pz_get_e {t k : Nat} : pz_get pc L (.inr (.inr (some r)) :: q) σ t k = if pz_is σ r.1 r.2 t = true then (if pz_kd (pz_ty t k) = 2 then some (pc + 3, L, .inr (.inr (pz_rr σ r.1 r.2 k)) :: q, σ) else some (pc + 3, L, .inl (pz_mm σ r.1 r.2 k) :: q, σ)) else none := rfl
theorem pz_ilo_e {t : Nat} : pz_ilo pc L (.inl j :: .inr (.inr (some r)) :: q) σ t = if pz_is σ r.1 r.2 t = true ∧ pz_out j (pz_sh σ r.1).2.2 = false then some (pc + 1, L, .inl (pz_mm σ r.1 r.2 j.toNatClampNeg) :: q, σ) else none := rfl
theorem pz_llo_e : pz_llo pc L (.inl j :: .inr (.inr (some r)) :: q) σ = if pz_is σ r.1 r.2 51 = true ∧ pz_out j (pz_sh σ r.1).2.2 = false then some (pc + 1, L, .inr (.inl (pz_ml σ r.1 r.2 j.toNatClampNeg)) :: q, σ) else none := rfl
theorem pz_alo_e : pz_alo pc L (.inl j :: .inr (.inr (some r)) :: q) σ = if (pz_is σ r.1 r.2 53 || pz_is σ r.1 r.2 54) = true ∧ pz_out j (pz_sh σ r.1).2.2 = false then some (pc + 1, L, .inr (.inr (pz_rr σ r.1 r.2 j.toNatClampNeg)) :: q, σ) else none := rfl
theorem pz_isto_e : pz_isto pc L (.inl v :: .inl j :: .inr (.inr (some r)) :: q) σ = if pz_is σ r.1 r.2 50 = true ∧ pz_out j (pz_sh σ r.1).2.2 = false then some (pc + 1, L, q, pz_wM σ r.1 r.2 j.toNatClampNeg v) else none := rfl
theorem pz_bsto_e : pz_bsto pc L (.inl v :: .inl j :: .inr (.inr (some r)) :: q) σ = if pz_is σ r.1 r.2 52 = true ∧ pz_out j (pz_sh σ r.1).2.2 = false ∧ (v = 0 ∨ v = 1) then some (pc + 1, L, q, pz_wM σ r.1 r.2 j.toNatClampNeg v) else none := rfl
theorem pz_lsto_e {w : Int64} : pz_lsto pc L (.inr (.inl w) :: .inl j :: .inr (.inr (some r)) :: q) σ = if pz_is σ r.1 r.2 51 = true ∧ pz_out j (pz_sh σ r.1).2.2 = false then some (pc + 1, L, q, pz_wL σ r.1 r.2 j.toNatClampNeg w) else none := rfl
theorem pz_asto_e {g : pz_R} : pz_asto pc L (.inr (.inr (some g)) :: .inl j :: .inr (.inr (some r)) :: q) σ = if pz_is σ r.1 r.2 54 = true ∧ pz_is σ g.1 g.2 1 = true ∧ pz_out j (pz_sh σ r.1).2.2 = false then some (pc + 1, L, q, pz_wR σ r.1 r.2 j.toNatClampNeg (some g)) else none := rfl
theorem pz_len_e : pz_len pc L (.inr (.inr (some r)) :: q) σ = if pz_arr (pz_sh σ r.1).1 = true ∧ pz_is σ r.1 r.2 (pz_sh σ r.1).1 = true then some (pc + 1, L, .inl (Int32.ofNat (pz_sh σ r.1).2.2) :: q, σ) else none := rfl
end QE
def qz_Sm (ph : Bool) (pc' : Nat) (L : qz_L) (μ : qz_M) (x' : qz_X) (y : pz_P) : Prop := ∃ σ' Lc', y = some (pc', Lc', qz_cS ph x'.2.1, σ') ∧ qz_LR ph x'.1 Lc' ∧ qz_Rel ph x'.2.2 σ' ∧ qz_okL ph (qz_na x'.2.2) x'.1 ∧ qz_okS ph (qz_na x'.2.2) x'.2.1 ∧ x'.1.length = L.length ∧ qz_na μ ≤ qz_na x'.2.2
theorem qz_cnd_t {α : Type} {c : Bool} {x y : α} {z : α} (h : (bif c then x else y) = z) (hy : y ≠ z) : c = true ∧ x = z := by
  cases c
  · exact absurd h hy
  · exact ⟨rfl, h⟩
section QS
variable {L : qz_L} {Lc : pz_L} {st : List qz_V} {μ : qz_M} {σ : pz_S} {pc : Nat} {x' : qz_X}
theorem qz_Sm_p {st' : List qz_V} {pc' : Nat} {y : pz_P} (R : qz_Rel ph μ σ) (hR : qz_LR ph L Lc) (hL : qz_okL ph (qz_na μ) L) (hs : qz_okS ph (qz_na μ) st') (e : y = some (pc', Lc, qz_cS ph st', σ)) : qz_Sm ph pc' L μ (L, st', μ) y := ⟨σ, Lc, e, hR, R, hL, hs, rfl, Nat.le_refl _⟩
theorem qz_Sm_q {st' : List qz_V} {pc' : Nat} {y : pz_P} {μ' : qz_M} {σ' : pz_S} (R : qz_Rel ph μ' σ') (hR : qz_LR ph L Lc) (hL : qz_okL ph (qz_na μ') L) (hs : qz_okS ph (qz_na μ') st') (hn : qz_na μ ≤ qz_na μ') (e : y = some (pc', Lc, qz_cS ph st', σ')) : qz_Sm ph pc' L μ (L, st', μ') y := ⟨σ', Lc, e, hR, R, hL, hs, rfl, hn⟩
theorem qs_push {n : Nat} {v : qz_V} {w : pz_V} (R : qz_Rel ph μ σ) (hR : qz_LR ph L Lc) (hL : qz_okL ph (qz_na μ) L) (hS : qz_okS ph (qz_na μ) st) (hv : qz_okV ph (qz_na μ) v) (hw : w = qz_cv ph v) (h : qz_push L st μ v = some x') : qz_Sm ph (pc + n) L μ x' (pz_push pc Lc (qz_cS ph st) σ n w) := by
  cases h
  subst hw
  exact qz_Sm_p R hR hL (qz_okS_c hv hS) rfl
theorem qs_ldi {n i : Nat} (R : qz_Rel ph μ σ) (hR : qz_LR ph L Lc) (hL : qz_okL ph (qz_na μ) L) (hS : qz_okS ph (qz_na μ) st) (h : qz_ldi L st μ i = some x') : qz_Sm ph (pc + n) L μ x' (pz_ldi pc Lc (qz_cS ph st) σ n i) := by
  unfold qz_ldi at h
  split at h
  · rename_i x hx
    cases h
    refine qz_Sm_p R hR hL (qz_okS_c qz_okI hS) ?_
    unfold pz_ldi
    rw [hR.2 i _ hx]
    rfl
  · cases h
theorem qs_ldl {n i : Nat} (R : qz_Rel ph μ σ) (hR : qz_LR ph L Lc) (hL : qz_okL ph (qz_na μ) L) (hS : qz_okS ph (qz_na μ) st) (h : qz_ldl L st μ i = some x') : qz_Sm ph (pc + n) L μ x' (pz_ldl pc Lc (qz_cS ph st) σ n i) := by
  unfold qz_ldl at h
  split at h
  · rename_i x hx
    cases h
    refine qz_Sm_p R hR hL (qz_okS_c qz_okJ hS) ?_
    unfold pz_ldl
    rw [hR.2 i _ hx]
    rfl
  · cases h
theorem qs_lda {n i : Nat} (R : qz_Rel ph μ σ) (hR : qz_LR ph L Lc) (hL : qz_okL ph (qz_na μ) L) (hS : qz_okS ph (qz_na μ) st) (h : qz_lda L st μ i = some x') : qz_Sm ph (pc + n) L μ x' (pz_lda pc Lc (qz_cS ph st) σ n i) := by
  unfold qz_lda at h
  split at h
  · rename_i x hx
    cases h
    refine qz_Sm_p R hR hL (qz_okS_c (qz_okL_at hL hx) hS) ?_
    unfold pz_lda
    rw [hR.2 i _ hx]
    rfl
  · cases h
theorem qz_cL_lt {i : Nat} (hR : qz_LR ph L Lc) (h : Nat.blt i L.length = true) : i < Lc.length := by
  rw [hR.1]
  exact Nat.le_of_ble_eq_true h
theorem qs_sti {n i : Nat} (R : qz_Rel ph μ σ) (hR : qz_LR ph L Lc) (hL : qz_okL ph (qz_na μ) L) (hS : qz_okS ph (qz_na μ) st) (h : qz_sti L st μ i = some x') : qz_Sm ph (pc + n) L μ x' (pz_sti pc Lc (qz_cS ph st) σ n i) := by
  unfold qz_sti at h
  split at h
  · obtain ⟨hb, h⟩ := qz_cnd_t h (by intro q; cases q)
    cases h
    refine ⟨σ, _, ?_, qz_LR_st1 hR i _, R, qz_okL_st1 hL i qz_okI, qz_okS_t hS, qz_st1_len _ _ _, Nat.le_refl _⟩
    exact if_pos (qz_cL_lt hR hb)
  · cases h
theorem qs_sta {n i : Nat} (R : qz_Rel ph μ σ) (hR : qz_LR ph L Lc) (hL : qz_okL ph (qz_na μ) L) (hS : qz_okS ph (qz_na μ) st) (h : qz_sta L st μ i = some x') : qz_Sm ph (pc + n) L μ x' (pz_sta pc Lc (qz_cS ph st) σ n i) := by
  unfold qz_sta at h
  split at h
  · obtain ⟨hb, h⟩ := qz_cnd_t h (by intro q; cases q)
    cases h
    refine ⟨σ, _, ?_, qz_LR_st1 hR i _, R, qz_okL_st1 hL i (qz_okS_h hS), qz_okS_t hS, qz_st1_len _ _ _, Nat.le_refl _⟩
    exact if_pos (qz_cL_lt hR hb)
  · cases h
theorem qs_stl {n i : Nat} (R : qz_Rel ph μ σ) (hR : qz_LR ph L Lc) (hL : qz_okL ph (qz_na μ) L) (hS : qz_okS ph (qz_na μ) st) (h : qz_stl L st μ i = some x') : qz_Sm ph (pc + n) L μ x' (pz_stl pc Lc (qz_cS ph st) σ n i) := by
  unfold qz_stl at h
  split at h
  · obtain ⟨hb, h⟩ := qz_cnd_t h (by intro q; cases q)
    cases h
    refine ⟨σ, _, ?_, qz_LR_st2 hR i _, R, qz_okL_st2 hL i qz_okJ, qz_okS_t hS, qz_st2_len _ _ _, Nat.le_refl _⟩
    exact if_pos (qz_cL_lt hR hb)
  · cases h
theorem qs_inc {i : Nat} {k : Int} (R : qz_Rel ph μ σ) (hR : qz_LR ph L Lc) (hL : qz_okL ph (qz_na μ) L) (hS : qz_okS ph (qz_na μ) st) (h : qz_inc L st μ i k = some x') : qz_Sm ph (pc + 3) L μ x' (pz_inc pc Lc (qz_cS ph st) σ i k) := by
  unfold qz_inc at h
  split at h
  · rename_i x hx
    obtain ⟨hb, h⟩ := qz_cnd_t h (by intro q; cases q)
    cases h
    refine ⟨σ, _, ?_, qz_LR_st1 hR i _, R, qz_okL_st1 hL i qz_okI, hS, qz_st1_len _ _ _, Nat.le_refl _⟩
    unfold pz_inc
    rw [hR.2 i _ hx]
    exact if_pos (qz_cL_lt hR hb)
  · cases h
theorem qs_bin {f : Int32 → Int32 → Int32} (R : qz_Rel ph μ σ) (hR : qz_LR ph L Lc) (hL : qz_okL ph (qz_na μ) L) (hS : qz_okS ph (qz_na μ) st) (h : qz_bin L st μ f = some x') : qz_Sm ph (pc + 1) L μ x' (pz_bin pc Lc (qz_cS ph st) σ f) := by
  unfold qz_bin at h
  split at h
  · cases h
    exact qz_Sm_p R hR hL (qz_okS_c qz_okI (qz_okS_t (qz_okS_t hS))) rfl
  · cases h
theorem qs_dv {f : Int32 → Int32 → Int32} (R : qz_Rel ph μ σ) (hR : qz_LR ph L Lc) (hL : qz_okL ph (qz_na μ) L) (hS : qz_okS ph (qz_na μ) st) (h : qz_dv L st μ f = some x') : qz_Sm ph (pc + 1) L μ x' (pz_dv pc Lc (qz_cS ph st) σ f) := by
  unfold qz_dv at h
  split at h
  · split at h
    · cases h
    · rename_i hy
      cases h
      exact qz_Sm_p R hR hL (qz_okS_c qz_okI (qz_okS_t (qz_okS_t hS))) (if_neg hy)
  · cases h
theorem qs_lbin {f : Int64 → Int64 → Int64} (R : qz_Rel ph μ σ) (hR : qz_LR ph L Lc) (hL : qz_okL ph (qz_na μ) L) (hS : qz_okS ph (qz_na μ) st) (h : qz_lbin L st μ f = some x') : qz_Sm ph (pc + 1) L μ x' (pz_lbin pc Lc (qz_cS ph st) σ f) := by
  unfold qz_lbin at h
  split at h
  · cases h
    exact qz_Sm_p R hR hL (qz_okS_c qz_okJ (qz_okS_t (qz_okS_t hS))) rfl
  · cases h
theorem qs_ldv {f : Int64 → Int64 → Int64} (R : qz_Rel ph μ σ) (hR : qz_LR ph L Lc) (hL : qz_okL ph (qz_na μ) L) (hS : qz_okS ph (qz_na μ) st) (h : qz_ldv L st μ f = some x') : qz_Sm ph (pc + 1) L μ x' (pz_ldv pc Lc (qz_cS ph st) σ f) := by
  unfold qz_ldv at h
  split at h
  · split at h
    · cases h
    · rename_i hy
      cases h
      exact qz_Sm_p R hR hL (qz_okS_c qz_okJ (qz_okS_t (qz_okS_t hS))) (if_neg hy)
  · cases h
theorem qs_neg (R : qz_Rel ph μ σ) (hR : qz_LR ph L Lc) (hL : qz_okL ph (qz_na μ) L) (hS : qz_okS ph (qz_na μ) st) (h : qz_neg L st μ = some x') : qz_Sm ph (pc + 1) L μ x' (pz_un pc Lc (qz_cS ph st) σ (fun x => .inl (-x))) := by
  unfold qz_neg at h
  split at h
  · cases h
    exact qz_Sm_p R hR hL (qz_okS_c qz_okI (qz_okS_t hS)) rfl
  · cases h
theorem qs_i2l (R : qz_Rel ph μ σ) (hR : qz_LR ph L Lc) (hL : qz_okL ph (qz_na μ) L) (hS : qz_okS ph (qz_na μ) st) (h : qz_i2l L st μ = some x') : qz_Sm ph (pc + 1) L μ x' (pz_un pc Lc (qz_cS ph st) σ (fun x => .inr (.inl x.toInt64))) := by
  unfold qz_i2l at h
  split at h
  · cases h
    exact qz_Sm_p R hR hL (qz_okS_c qz_okJ (qz_okS_t hS)) rfl
  · cases h
theorem qs_i2c (R : qz_Rel ph μ σ) (hR : qz_LR ph L Lc) (hL : qz_okL ph (qz_na μ) L) (hS : qz_okS ph (qz_na μ) st) (h : qz_i2c L st μ = some x') : qz_Sm ph (pc + 1) L μ x' (pz_un pc Lc (qz_cS ph st) σ (fun x => .inl (x.toUInt32 % 65536).toInt32)) := by
  unfold qz_i2c at h
  split at h
  · cases h
    exact qz_Sm_p R hR hL (qz_okS_c qz_okI (qz_okS_t hS)) rfl
  · cases h
theorem qs_get {t k : Nat} (R : qz_Rel ph μ σ) (hR : qz_LR ph L Lc) (hL : qz_okL ph (qz_na μ) L) (hS : qz_okS ph (qz_na μ) st) (h : qz_get L st μ t k = some x') : qz_Sm ph (pc + 3) L μ x' (pz_get pc Lc (qz_cS ph st) σ t k) := by
  unfold qz_get at h
  split at h
  · rename_i r q
    obtain ⟨hb, h⟩ := qz_cnd_t h (by intro q; cases q)
    rw [Bool.and_eq_true, Bool.and_eq_true] at hb
    obtain ⟨h1, h2, h3⟩ := hb
    have hr : qz_ok ph (qz_na μ) r := qz_okS_h hS r rfl
    have ht : t < 6 := Nat.le_of_ble_eq_true h2
    have hi := qz_is_ok R hr h1 (by omega)
    have hk : r.1 = 200 ∨ k < qz_nrs.getD r.1 0 := by
      rcases hr with ⟨q1, -⟩ | ⟨q1, -, q2, -⟩
      · exact .inl q1
      · right
        have e := (qz_lay2 r.1 (qz_nb_lt q2)).1
        have et : qz_tgs.getD r.1 255 = t := by
          have := Nat.eq_of_beq_eq_true h1
          unfold qz_tag at this
          have hb : Nat.beq r.1 200 = false := by
            cases hq : Nat.beq r.1 200
            · rfl
            · exact absurd (Nat.eq_of_beq_eq_true hq) q1
          rw [hb] at this
          exact this
        rw [e (by omega), et]
        exact Nat.le_of_ble_eq_true h3
    have eg : pz_get pc Lc (qz_cS ph (.inr (.inr (some r)) :: q)) σ t k = _ := pz_get_e (r := qz_cr ph r)
    rw [eg, if_pos hi]
    cases h4 : Nat.beq (pz_kd (pz_ty t k)) 2
    · rw [h4] at h
      cases h
      rw [if_neg (fun q => by rw [q] at h4; cases h4)]
      refine qz_Sm_p R hR hL (qz_okS_c qz_okI (qz_okS_t hS)) ?_
      rw [(R.2.2.2.1 r hr k).1]
      rfl
    · rw [h4] at h
      cases h
      rw [if_pos (Nat.eq_of_beq_eq_true h4)]
      have e := R.2.2.2.2 r hr k hk
      refine qz_Sm_p R hR hL (qz_okS_c (fun r' e' => e.2 r' (Sum.inr.inj (Sum.inr.inj e'))) (qz_okS_t hS)) ?_
      rw [e.1]
      rfl
  · cases h
theorem qs_put {t k : Nat} {fin : Bool} (R : qz_Rel ph μ σ) (hR : qz_LR ph L Lc) (hL : qz_okL ph (qz_na μ) L) (hS : qz_okS ph (qz_na μ) st) (h : qz_put L st μ t k fin = some x') : qz_Sm ph (pc + 3) L μ x' (pz_put pc Lc (qz_cS ph st) σ t k fin) := by
  have fine : ∀ {c : Bool}, (!c || fin) = true → (c = true → fin = true) := fun {c} h1 h2 => by rw [h2] at h1; exact h1
  unfold qz_put at h
  split at h
  · rename_i v r q
    obtain ⟨hb, h⟩ := qz_cnd_t h (by intro q; cases q)
    rw [Bool.and_eq_true, Bool.and_eq_true, Bool.and_eq_true] at hb
    obtain ⟨⟨h1, h2⟩, h3, h4⟩ := hb
    have hr : qz_ok ph (qz_na μ) r := qz_okS_h (qz_okS_t hS) r rfl
    have ht : t < 6 := Nat.le_of_ble_eq_true h2
    have hi := qz_is_ok R hr h1 (by omega)
    cases h
    refine qz_Sm_q (σ' := pz_wM σ (qz_cr ph r).1 (qz_cr ph r).2 k v) (qz_Rel_wI R hr k v) hR hL (qz_okS_t (qz_okS_t hS)) (Nat.le_refl _) ?_
    refine if_pos ⟨hi, fine h3, ?_⟩
    rw [Bool.or_eq_true, Bool.and_eq_true, Bool.or_eq_true, decide_eq_true_iff, decide_eq_true_iff] at h4
    rcases h4 with h4 | ⟨h4, h5⟩
    · exact .inl (Nat.eq_of_beq_eq_true h4)
    · exact .inr ⟨Nat.eq_of_beq_eq_true h4, h5⟩
  · rename_i v r q
    obtain ⟨hb, h⟩ := qz_cnd_t h (by intro q; cases q)
    rw [Bool.and_eq_true, Bool.and_eq_true, Bool.and_eq_true, Bool.and_eq_true] at hb
    obtain ⟨⟨h1, h2⟩, h3, h4, h5⟩ := hb
    have hr : qz_ok ph (qz_na μ) r := qz_okS_h (qz_okS_t hS) r rfl
    have ht : t < 6 := Nat.le_of_ble_eq_true h2
    have hi := qz_is_ok R hr h1 (by omega)
    cases h
    refine qz_Sm_q (σ' := pz_wR σ (qz_cr ph r).1 (qz_cr ph r).2 k (v.map (qz_cr ph))) (qz_Rel_wR R hr k v h5 (fun r' e => qz_okS_h hS r' (by rw [e]))) hR hL (qz_okS_t (qz_okS_t hS)) (Nat.le_refl _) ?_
    exact if_pos ⟨hi, fine h3, Nat.eq_of_beq_eq_true h4⟩
  · cases h
theorem qz_nt {b : Bool} (h : (!b) = true) : b = false := by cases b <;> first | rfl | cases h
theorem qs_ilo {t : Nat} (R : qz_Rel ph μ σ) (hR : qz_LR ph L Lc) (hL : qz_okL ph (qz_na μ) L) (hS : qz_okS ph (qz_na μ) st) (h : qz_ilo L st μ t = some x') : qz_Sm ph (pc + 1) L μ x' (pz_ilo pc Lc (qz_cS ph st) σ t) := by
  unfold qz_ilo at h
  split at h
  · rename_i j r q
    obtain ⟨hb, h⟩ := qz_cnd_t h (by intro q; cases q)
    rw [Bool.and_eq_true, Bool.and_eq_true] at hb
    obtain ⟨h1, h2, h3⟩ := hb
    have hr : qz_ok ph (qz_na μ) r := qz_okS_h (qz_okS_t hS) r rfl
    have ht : t < 60 := Nat.le_of_ble_eq_true h2
    have hi := qz_is_ok R hr h1 (by omega)
    cases h
    refine qz_Sm_p R hR hL (qz_okS_c qz_okI (qz_okS_t (qz_okS_t hS))) ?_
    refine (pz_ilo_e (r := qz_cr ph r)).trans ?_
    rw [if_pos ⟨hi, by rw [(qz_sh_ok R hr).2]; exact qz_nt h3⟩, (R.2.2.2.1 r hr _).1]
    rfl
  · cases h
theorem qs_llo (R : qz_Rel ph μ σ) (hR : qz_LR ph L Lc) (hL : qz_okL ph (qz_na μ) L) (hS : qz_okS ph (qz_na μ) st) (h : qz_llo L st μ = some x') : qz_Sm ph (pc + 1) L μ x' (pz_llo pc Lc (qz_cS ph st) σ) := by
  unfold qz_llo at h
  split at h
  · rename_i j r q
    obtain ⟨hb, h⟩ := qz_cnd_t h (by intro q; cases q)
    rw [Bool.and_eq_true] at hb
    obtain ⟨h1, h3⟩ := hb
    have hr : qz_ok ph (qz_na μ) r := qz_okS_h (qz_okS_t hS) r rfl
    have hi := qz_is_ok R hr h1 (by omega)
    cases h
    refine qz_Sm_p R hR hL (qz_okS_c qz_okJ (qz_okS_t (qz_okS_t hS))) ?_
    refine (pz_llo_e (r := qz_cr ph r)).trans ?_
    rw [if_pos ⟨hi, by rw [(qz_sh_ok R hr).2]; exact qz_nt h3⟩, (R.2.2.2.1 r hr _).2]
    rfl
  · cases h
theorem qz_out_lt {j : Int32} {n : Nat} (h : pz_out j n = false) : j.toNatClampNeg < n := by
  unfold pz_out at h
  rw [Bool.or_eq_false_iff] at h
  rcases Nat.lt_or_ge j.toNatClampNeg n with q | q
  · exact q
  · rw [Nat.ble_eq_true_of_le q] at h
    cases h.2
theorem qs_alo (R : qz_Rel ph μ σ) (hR : qz_LR ph L Lc) (hL : qz_okL ph (qz_na μ) L) (hS : qz_okS ph (qz_na μ) st) (h : qz_alo L st μ = some x') : qz_Sm ph (pc + 1) L μ x' (pz_alo pc Lc (qz_cS ph st) σ) := by
  unfold qz_alo at h
  split at h
  · rename_i j r q
    obtain ⟨hb, h⟩ := qz_cnd_t h (by intro q; cases q)
    rw [Bool.and_eq_true] at hb
    obtain ⟨h1, h3⟩ := hb
    have hr : qz_ok ph (qz_na μ) r := qz_okS_h (qz_okS_t hS) r rfl
    have hk : r.1 = 200 ∨ j.toNatClampNeg < qz_nrs.getD r.1 0 := by
      rcases hr with ⟨q1, -⟩ | ⟨hn, -, q2, -⟩
      · exact .inl q1
      · right
        have ht : qz_tag μ r = qz_tgs.getD r.1 255 := by unfold qz_tag; rw [qz_b200 hn]; rfl
        have hl : qz_len μ r = qz_lns.getD r.1 0 := by unfold qz_len; rw [qz_b200 hn]; rfl
        rw [(qz_lay2 r.1 (qz_nb_lt q2)).2 (by rw [← ht]; rcases Bool.or_eq_true _ _ ▸ h1 with q | q; exact .inl (Nat.eq_of_beq_eq_true q); exact .inr (Nat.eq_of_beq_eq_true q)), ← hl]
        exact qz_out_lt (qz_nt h3)
    have hi : (pz_is σ (qz_cr ph r).1 (qz_cr ph r).2 53 || pz_is σ (qz_cr ph r).1 (qz_cr ph r).2 54) = true := by
      rw [Bool.or_eq_true] at h1 ⊢
      exact h1.elim (fun q => .inl (qz_is_ok R hr q (by omega))) (fun q => .inr (qz_is_ok R hr q (by omega)))
    cases h
    have e := R.2.2.2.2 r hr _ hk
    refine qz_Sm_p R hR hL (qz_okS_c (fun r' e' => e.2 r' (Sum.inr.inj (Sum.inr.inj e'))) (qz_okS_t (qz_okS_t hS))) ?_
    refine (pz_alo_e (r := qz_cr ph r)).trans ?_
    rw [if_pos ⟨hi, by rw [(qz_sh_ok R hr).2]; exact qz_nt h3⟩, e.1]
    rfl
  · cases h
theorem qs_asto (R : qz_Rel ph μ σ) (hR : qz_LR ph L Lc) (hL : qz_okL ph (qz_na μ) L) (hS : qz_okS ph (qz_na μ) st) (h : qz_asto L st μ = some x') : qz_Sm ph (pc + 1) L μ x' (pz_asto pc Lc (qz_cS ph st) σ) := by
  unfold qz_asto at h
  split at h
  · rename_i g j r q
    obtain ⟨hb, h⟩ := qz_cnd_t h (by intro q; cases q)
    rw [Bool.and_eq_true, Bool.and_eq_true, Bool.and_eq_true] at hb
    obtain ⟨⟨h1, h2, h4⟩, h3⟩ := hb
    have hr : qz_ok ph (qz_na μ) r := qz_okS_h (qz_okS_t (qz_okS_t hS)) r rfl
    have hg : qz_ok ph (qz_na μ) g := qz_okS_h hS g rfl
    have hi := qz_is_ok R hr h1 (by omega)
    have hi2 := qz_is_ok R hg h2 (by omega)
    cases h
    refine qz_Sm_q (σ' := pz_wR σ (qz_cr ph r).1 (qz_cr ph r).2 j.toNatClampNeg (some (qz_cr ph g))) (qz_Rel_wR R hr _ (some g) (by unfold qz_dy; rw [h4]; rfl) (fun r' e => by cases e; exact hg)) hR hL (qz_okS_t (qz_okS_t (qz_okS_t hS))) (Nat.le_refl _) ?_
    refine (pz_asto_e (r := qz_cr ph r) (g := qz_cr ph g)).trans ?_
    rw [if_pos ⟨hi, hi2, by rw [(qz_sh_ok R hr).2]; exact qz_nt h3⟩]
  · cases h
theorem qs_isto (R : qz_Rel ph μ σ) (hR : qz_LR ph L Lc) (hL : qz_okL ph (qz_na μ) L) (hS : qz_okS ph (qz_na μ) st) (h : qz_isto L st μ = some x') : qz_Sm ph (pc + 1) L μ x' (pz_isto pc Lc (qz_cS ph st) σ) := by
  unfold qz_isto at h
  split at h
  · rename_i v j r q
    obtain ⟨hb, h⟩ := qz_cnd_t h (by intro q; cases q)
    rw [Bool.and_eq_true] at hb
    obtain ⟨h1, h3⟩ := hb
    have hr : qz_ok ph (qz_na μ) r := qz_okS_h (qz_okS_t (qz_okS_t hS)) r rfl
    have hi := qz_is_ok R hr h1 (by omega)
    cases h
    refine qz_Sm_q (σ' := pz_wM σ (qz_cr ph r).1 (qz_cr ph r).2 j.toNatClampNeg v) (qz_Rel_wI R hr _ v) hR hL (qz_okS_t (qz_okS_t (qz_okS_t hS))) (Nat.le_refl _) ?_
    refine (pz_isto_e (r := qz_cr ph r)).trans ?_
    rw [if_pos ⟨hi, by rw [(qz_sh_ok R hr).2]; exact qz_nt h3⟩]
  · cases h
theorem qs_bsto (R : qz_Rel ph μ σ) (hR : qz_LR ph L Lc) (hL : qz_okL ph (qz_na μ) L) (hS : qz_okS ph (qz_na μ) st) (h : qz_bsto L st μ = some x') : qz_Sm ph (pc + 1) L μ x' (pz_bsto pc Lc (qz_cS ph st) σ) := by
  unfold qz_bsto at h
  split at h
  · rename_i v j r q
    obtain ⟨hb, h⟩ := qz_cnd_t h (by intro q; cases q)
    rw [Bool.and_eq_true, Bool.and_eq_true, Bool.or_eq_true, decide_eq_true_iff, decide_eq_true_iff] at hb
    obtain ⟨h1, h3, h4⟩ := hb
    have hr : qz_ok ph (qz_na μ) r := qz_okS_h (qz_okS_t (qz_okS_t hS)) r rfl
    have hi := qz_is_ok R hr h1 (by omega)
    cases h
    refine qz_Sm_q (σ' := pz_wM σ (qz_cr ph r).1 (qz_cr ph r).2 j.toNatClampNeg v) (qz_Rel_wI R hr _ v) hR hL (qz_okS_t (qz_okS_t (qz_okS_t hS))) (Nat.le_refl _) ?_
    refine (pz_bsto_e (r := qz_cr ph r)).trans ?_
    rw [if_pos ⟨hi, by rw [(qz_sh_ok R hr).2]; exact qz_nt h3, h4⟩]
  · cases h
theorem qs_lsto (R : qz_Rel ph μ σ) (hR : qz_LR ph L Lc) (hL : qz_okL ph (qz_na μ) L) (hS : qz_okS ph (qz_na μ) st) (h : qz_lsto L st μ = some x') : qz_Sm ph (pc + 1) L μ x' (pz_lsto pc Lc (qz_cS ph st) σ) := by
  unfold qz_lsto at h
  split at h
  · rename_i v j r q
    obtain ⟨hb, h⟩ := qz_cnd_t h (by intro q; cases q)
    rw [Bool.and_eq_true] at hb
    obtain ⟨h1, h3⟩ := hb
    have hr : qz_ok ph (qz_na μ) r := qz_okS_h (qz_okS_t (qz_okS_t hS)) r rfl
    have hi := qz_is_ok R hr h1 (by omega)
    cases h
    refine qz_Sm_q (σ' := pz_wL σ (qz_cr ph r).1 (qz_cr ph r).2 j.toNatClampNeg v) (qz_Rel_wL R hr _ v) hR hL (qz_okS_t (qz_okS_t (qz_okS_t hS))) (Nat.le_refl _) ?_
    refine (pz_lsto_e (r := qz_cr ph r)).trans ?_
    rw [if_pos ⟨hi, by rw [(qz_sh_ok R hr).2]; exact qz_nt h3⟩]
  · cases h
theorem qs_leng (R : qz_Rel ph μ σ) (hR : qz_LR ph L Lc) (hL : qz_okL ph (qz_na μ) L) (hS : qz_okS ph (qz_na μ) st) (h : qz_leng L st μ = some x') : qz_Sm ph (pc + 1) L μ x' (pz_len pc Lc (qz_cS ph st) σ) := by
  unfold qz_leng at h
  split at h
  · rename_i r q
    obtain ⟨h1, h⟩ := qz_cnd_t h (by intro q; cases q)
    have hr : qz_ok ph (qz_na μ) r := qz_okS_h hS r rfl
    have h9 : qz_tag μ r ≠ 255 := fun e => by rw [e] at h1; cases h1
    have hi := qz_is_ok R hr (t := qz_tag μ r) (by exact Nat.beq_refl _) h9
    cases h
    refine qz_Sm_p R hR hL (qz_okS_c qz_okI (qz_okS_t hS)) ?_
    refine (pz_len_e (r := qz_cr ph r)).trans ?_
    rw [if_pos ⟨by rw [(qz_sh_ok R hr).1 h9]; exact h1, by rw [(qz_sh_ok R hr).1 h9]; exact hi⟩, (qz_sh_ok R hr).2]
    rfl
  · cases h
theorem qz_nw_cv (R : qz_Rel ph μ σ) : qz_cv ph (.inr (.inr (some (200, qz_na μ, 0)))) = .inr (.inr (some (σ.1, 0))) := by
  show (.inr (.inr (some (qz_cr ph (200, qz_na μ, 0)))) : pz_V) = _
  rw [qz_cr_nw R]
theorem qs_newa {n tag : Nat} (R : qz_Rel ph μ σ) (hR : qz_LR ph L Lc) (hL : qz_okL ph (qz_na μ) L) (hS : qz_okS ph (qz_na μ) st) (h : qz_newa L st μ tag = some x') : qz_Sm ph (pc + n) L μ x' (pz_newa pc Lc (qz_cS ph st) σ n tag) := by
  unfold qz_newa at h
  split at h
  · rename_i k q
    cases hb : (decide (k < 0) || Nat.blt 1000000 k.toNatClampNeg)
    · rw [hb] at h
      cases h
      rw [Bool.or_eq_false_iff, decide_eq_false_iff_not] at hb
      have hn1 : qz_na μ ≤ qz_na (qz_al μ tag 1 k.toNatClampNeg 1 k.toNatClampNeg) := Nat.le_succ _
      refine qz_Sm_q (σ' := pz_al σ tag 1 k.toNatClampNeg 1 k.toNatClampNeg (fun _ _ => none)) (qz_Rel_al R _ _ _ _ _) hR (qz_okLn hL hn1) (qz_okS_c (qz_okR qz_ok_nw) (qz_okSn (qz_okS_t hS) hn1)) hn1 ?_
      refine (if_neg ?_).trans ?_
      · rintro (q | q)
        · exact hb.1 q
        · rw [show Nat.blt 1000000 k.toNatClampNeg = true from Nat.ble_eq_true_of_le q] at hb
          cases hb.2
      · show _ = some (pc + n, Lc, qz_cv ph (.inr (.inr (some (200, qz_na μ, 0)))) :: qz_cS ph q, _)
        rw [qz_nw_cv R]
    · rw [hb] at h
      cases h
  · cases h
theorem qs_mnew (R : qz_Rel ph μ σ) (hR : qz_LR ph L Lc) (hL : qz_okL ph (qz_na μ) L) (hS : qz_okS ph (qz_na μ) st) (h : qz_mnew L st μ = some x') : qz_Sm ph (pc + 4) L μ x' (pz_mnew pc Lc (qz_cS ph st) σ) := by
  unfold qz_mnew at h
  split at h
  · rename_i k n q
    cases hb : ((decide (n < 0) || decide (k < 0)) || (Nat.blt 1000 n.toNatClampNeg || Nat.blt 1000 k.toNatClampNeg))
    · rw [hb] at h
      cases h
      rw [Bool.or_eq_false_iff, Bool.or_eq_false_iff, Bool.or_eq_false_iff, decide_eq_false_iff_not, decide_eq_false_iff_not] at hb
      obtain ⟨⟨b1, b2⟩, b3, b4⟩ := hb
      have R1 := qz_Rel_al R 50 n.toNatClampNeg k.toNatClampNeg n.toNatClampNeg (n.toNatClampNeg * k.toNatClampNeg)
      have R2 := qz_Rel_alr R1 53 1 n.toNatClampNeg 1 n.toNatClampNeg (fun j => if j < n.toNatClampNeg then some (200, qz_na μ, j) else none) (fun j r' e => by
        split at e
        · cases e; exact .inl ⟨rfl, Nat.lt_succ_of_lt (Nat.lt_succ_self _)⟩
        · cases e)
      have hn1 : qz_na μ ≤ qz_na (qz_alr (qz_al μ 50 n.toNatClampNeg k.toNatClampNeg n.toNatClampNeg (n.toNatClampNeg * k.toNatClampNeg)) 53 1 n.toNatClampNeg 1 n.toNatClampNeg (fun j => if j < n.toNatClampNeg then some (200, qz_na μ, j) else none)) := Nat.le_succ_of_le (Nat.le_succ _)
      refine qz_Sm_q R2 hR (qz_okLn hL hn1) (qz_okS_c (qz_okR qz_ok_nw) (qz_okSn (qz_okS_t (qz_okS_t hS)) hn1)) hn1 ?_
      refine (if_neg ?_).trans ?_
      · rintro (q | q | q | q)
        · exact b1 q
        · exact b2 q
        · rw [show Nat.blt 1000 n.toNatClampNeg = true from Nat.ble_eq_true_of_le q] at b3
          cases b3
        · rw [show Nat.blt 1000 k.toNatClampNeg = true from Nat.ble_eq_true_of_le q] at b4
          cases b4
      · have e1 : qz_cr ph (200, qz_na μ + 1, 0) = (σ.1 + 1, 0) := qz_cr_nw R1 0
        have e2 : (fun (_ : Nat) j => if j < n.toNatClampNeg then some (σ.1, j) else none) = fun _ j => ((fun j => if j < n.toNatClampNeg then some ((200, qz_na μ, j) : qz_R) else none) j).map (qz_cr ph) := by
          funext _ j
          dsimp only
          split
          · show _ = some (qz_cr ph _)
            rw [qz_cr_nw R]
          · rfl
        show _ = some (pc + 4, Lc, (.inr (.inr (some (qz_cr ph (200, qz_na μ + 1, 0)))) : pz_V) :: qz_cS ph q, _)
        rw [e1, ← e2]
    · rw [hb] at h
      cases h
  · cases h
theorem qs_new {t : Nat} (R : qz_Rel ph μ σ) (hR : qz_LR ph L Lc) (hL : qz_okL ph (qz_na μ) L) (hS : qz_okS ph (qz_na μ) st) (h : qz_new L st μ t = some x') : t < 6 ∧ qz_Sm ph (pc + 3) L μ x' (pz_new pc Lc (qz_cS ph st) σ t) := by
  unfold qz_new at h
  obtain ⟨h1, h⟩ := qz_cnd_t h (by intro q; cases q)
  have ht : t < 6 := Nat.le_of_ble_eq_true h1
  cases h
  have hn1 : qz_na μ ≤ qz_na (qz_al μ t 1 0 1 (pz_n t)) := Nat.le_succ _
  refine ⟨ht, qz_Sm_q (σ' := pz_al σ t 1 0 1 (pz_n t) (fun _ _ => none)) (qz_Rel_al R _ _ _ _ _) hR (qz_okLn hL hn1) (qz_okS_c (qz_okR qz_ok_nw) (qz_okSn hS hn1)) hn1 ?_⟩
  show _ = some (pc + 3, Lc, qz_cv ph (.inr (.inr (some (200, qz_na μ, 0)))) :: qz_cS ph st, _)
  rw [qz_nw_cv R]
  rfl
theorem qz_w1t {v : qz_V} (h : Nat.beq (qz_w1 v) 1 = true) : pz_w1 (qz_cv ph v) = 1 := by rw [qz_w1_cv]; exact Nat.eq_of_beq_eq_true h
theorem qs_dup (R : qz_Rel ph μ σ) (hR : qz_LR ph L Lc) (hL : qz_okL ph (qz_na μ) L) (hS : qz_okS ph (qz_na μ) st) (h : qz_dup L st μ = some x') : qz_Sm ph (pc + 1) L μ x' (pz_dup pc Lc (qz_cS ph st) σ) := by
  unfold qz_dup at h
  split at h
  · obtain ⟨h1, h⟩ := qz_cnd_t h (by intro q; cases q)
    cases h
    exact qz_Sm_p R hR hL (qz_okS_c (qz_okS_h hS) hS) (if_pos (qz_w1t h1))
  · cases h
theorem qs_pop (R : qz_Rel ph μ σ) (hR : qz_LR ph L Lc) (hL : qz_okL ph (qz_na μ) L) (hS : qz_okS ph (qz_na μ) st) (h : qz_pop L st μ = some x') : qz_Sm ph (pc + 1) L μ x' (pz_pop pc Lc (qz_cS ph st) σ) := by
  unfold qz_pop at h
  split at h
  · obtain ⟨h1, h⟩ := qz_cnd_t h (by intro q; cases q)
    cases h
    exact qz_Sm_p R hR hL (qz_okS_t hS) (if_pos (qz_w1t h1))
  · cases h
theorem qs_dupx1 (R : qz_Rel ph μ σ) (hR : qz_LR ph L Lc) (hL : qz_okL ph (qz_na μ) L) (hS : qz_okS ph (qz_na μ) st) (h : qz_dupx1 L st μ = some x') : qz_Sm ph (pc + 1) L μ x' (pz_dupx1 pc Lc (qz_cS ph st) σ) := by
  unfold qz_dupx1 at h
  split at h
  · obtain ⟨h1, h⟩ := qz_cnd_t h (by intro q; cases q)
    rw [Bool.and_eq_true] at h1
    cases h
    exact qz_Sm_p R hR hL (qz_okS_c (qz_okS_h hS) (qz_okS_c (qz_okS_h (qz_okS_t hS)) (qz_okS_c (qz_okS_h hS) (qz_okS_t (qz_okS_t hS))))) (if_pos ⟨qz_w1t h1.1, qz_w1t h1.2⟩)
  · cases h
theorem qs_dupx2 (R : qz_Rel ph μ σ) (hR : qz_LR ph L Lc) (hL : qz_okL ph (qz_na μ) L) (hS : qz_okS ph (qz_na μ) st) (h : qz_dupx2 L st μ = some x') : qz_Sm ph (pc + 1) L μ x' (pz_dupx2 pc Lc (qz_cS ph st) σ) := by
  unfold qz_dupx2 at h
  split at h
  · obtain ⟨h1, h⟩ := qz_cnd_t h (by intro q; cases q)
    rw [Bool.and_eq_true, Bool.and_eq_true] at h1
    cases h
    exact qz_Sm_p R hR hL (qz_okS_c (qz_okS_h hS) (qz_okS_c (qz_okS_h (qz_okS_t hS)) (qz_okS_c (qz_okS_h (qz_okS_t (qz_okS_t hS))) (qz_okS_c (qz_okS_h hS) (qz_okS_t (qz_okS_t (qz_okS_t hS))))))) (if_pos ⟨qz_w1t h1.1, qz_w1t h1.2.1, qz_w1t h1.2.2⟩)
  · cases h
theorem qs_dup2 (R : qz_Rel ph μ σ) (hR : qz_LR ph L Lc) (hL : qz_okL ph (qz_na μ) L) (hS : qz_okS ph (qz_na μ) st) (h : qz_dup2 L st μ = some x') : qz_Sm ph (pc + 1) L μ x' (pz_dup2 pc Lc (qz_cS ph st) σ) := by
  unfold qz_dup2 at h
  split at h
  · obtain ⟨h1, h⟩ := qz_cnd_t h (by intro q; cases q)
    rw [Bool.and_eq_true] at h1
    cases h
    exact qz_Sm_p R hR hL (qz_okS_c (qz_okS_h hS) (qz_okS_c (qz_okS_h (qz_okS_t hS)) hS)) (if_pos ⟨qz_w1t h1.1, qz_w1t h1.2⟩)
  · cases h
theorem qs_scl (R : qz_Rel ph μ σ) (hR : qz_LR ph L Lc) (hL : qz_okL ph (qz_na μ) L) (hS : qz_okS ph (qz_na μ) st) (h : qz_scl L st μ = some x') : qz_Sm ph (pc + 1) L μ x' (pz_scl pc Lc (qz_cS ph st) σ) := by
  unfold qz_scl at h
  split at h
  · rename_i j r q
    obtain ⟨hb, h9⟩ := qz_cnd_t h (by intro q; cases q)
    clear h
    rw [Bool.and_eq_true, Bool.and_eq_true, Bool.and_eq_true, Bool.and_eq_true] at hb
    obtain ⟨⟨h1, h2, h5⟩, h3, h4⟩ := hb
    have hr : qz_ok ph (qz_na μ) r := qz_okS_h (qz_okS_t hS) r rfl
    obtain ⟨k, b, i⟩ := r
    obtain rfl : k = 200 := Nat.eq_of_beq_eq_true h1
    obtain rfl : b = 0 := Nat.eq_of_beq_eq_true h2
    obtain rfl : i = 0 := Nat.eq_of_beq_eq_true h5
    have hi := qz_is_ok R hr (t := 60) h3 (by omega)
    cases h9
    refine qz_Sm_p R hR hL (qz_okS_c qz_okI (qz_okS_t (qz_okS_t hS))) ?_
    show (if (Nat.beq (qz_cr ph (200, 0, 0)).1 0 && pz_is σ (qz_cr ph (200, 0, 0)).1 (qz_cr ph (200, 0, 0)).2 60) = true ∧ pz_out j (pz_sh σ (qz_cr ph (200, 0, 0)).1).2.2 = false then some (pc + 1, Lc, .inl (pz_mm σ (qz_cr ph (200, 0, 0)).1 (qz_cr ph (200, 0, 0)).2 j.toNatClampNeg) :: qz_cS ph q, σ) else none) = _
    rw [if_pos ⟨by rw [hi]; rfl, by rw [(qz_sh_ok R hr).2]; exact qz_nt h4⟩, (R.2.2.2.1 _ hr _).1]
    rfl
  · cases h
theorem qs_scn (R : qz_Rel ph μ σ) (hR : qz_LR ph L Lc) (hL : qz_okL ph (qz_na μ) L) (hS : qz_okS ph (qz_na μ) st) (h : qz_scn L st μ = some x') : qz_Sm ph (pc + 1) L μ x' (pz_scn pc Lc (qz_cS ph st) σ) := by
  unfold qz_scn at h
  split at h
  · rename_i r q
    obtain ⟨hb, h9⟩ := qz_cnd_t h (by intro q; cases q)
    clear h
    rw [Bool.and_eq_true, Bool.and_eq_true, Bool.and_eq_true] at hb
    obtain ⟨⟨h1, h2, h5⟩, h3⟩ := hb
    have hr : qz_ok ph (qz_na μ) r := qz_okS_h hS r rfl
    obtain ⟨k, b, i⟩ := r
    obtain rfl : k = 200 := Nat.eq_of_beq_eq_true h1
    obtain rfl : b = 0 := Nat.eq_of_beq_eq_true h2
    obtain rfl : i = 0 := Nat.eq_of_beq_eq_true h5
    have hi := qz_is_ok R hr (t := 60) h3 (by omega)
    cases h9
    refine qz_Sm_p R hR hL (qz_okS_c qz_okI (qz_okS_t hS)) ?_
    show (if (Nat.beq (qz_cr ph (200, 0, 0)).1 0 && pz_is σ (qz_cr ph (200, 0, 0)).1 (qz_cr ph (200, 0, 0)).2 60) = true then some (pc + 1, Lc, .inl (Int32.ofNat (pz_sh σ (qz_cr ph (200, 0, 0)).1).2.2) :: qz_cS ph q, σ) else none) = _
    rw [if_pos (by rw [hi]; rfl), (qz_sh_ok R hr).2]
    rfl
  · cases h
end QS
end PH
