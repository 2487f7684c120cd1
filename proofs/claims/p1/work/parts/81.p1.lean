/-! ONE CALL AT A NEW OBJECT: from the script to the answer. -/
theorem nw_rel {L : Nat} {xs : Nat → Int32} {μ : qz_M} {σ : pz_S} {c s : Nat} (R : qz_Rel true (lk_m μ) σ) (h : ge L xs mo_s μ 576 mo_l c s) (hc : c = 5234) (hs : s = 127732) : qz_Rel true (zm (nwZ xs) (nwN L)) σ := by
  obtain ⟨⟨r1, r2⟩, ⟨r3, r3b⟩, r4, r5, r6⟩ := R
  have hd : qz_dn μ 0 = (60, 1, L) := (h.2.1 0 (by decide)).1
  refine ⟨⟨r1, r2⟩, ⟨r3.trans (h.2.2.1.trans hc), r3b.trans (h.2.2.2.trans hs)⟩, fun r hr => (r4 r hr).trans ?_, fun r hr j => ⟨(r5 r hr j).1.trans ?_, (r5 r hr j).2.trans ?_⟩, r6⟩
  · obtain ⟨k, b, i⟩ := r
    show (if k = 200 then qz_dn μ b else _) = (if k = 200 then (nwN L).2.2.1 b else _)
    by_cases hk : k = 200
    · rw [if_pos hk, if_pos hk]
      rcases hr with ⟨_, q2⟩ | ⟨q1, _⟩
      · have hb : b = 0 := by
          have : b < 1 := q2
          omega
        subst hb
        exact hd
      · exact absurd hk q1
    · rw [if_neg hk, if_neg hk]
  · obtain ⟨k, b, i⟩ := r
    rcases hr with ⟨q1, q2⟩ | ⟨q1, _, q2, q3⟩
    · have hk : k = 200 := q1
      have hb : b = 0 := by
        have : b < 1 := q2
        omega
      subst hk hb
      have e1 : (lk_m μ).1 200 0 i j = qz_im μ 200 0 i j := (if_pos rfl : (if 200 = 200 then qz_im μ 200 0 i j else qz_im μ 200 (qz_fm 200 0 - 2) i j) = _)
      have e2 := (h.2.1 0 (by decide)).2.2.1 i j
      show (lk_m μ).1 200 0 i j = i3 (nwZ xs 200 0 i j)
      rw [e1]
      refine e2.trans ?_
      show (if 0 = 541 ∧ i = 0 then mo_s j else mh_I xs 0 i j) = _
      have e3 : (if 0 = 541 ∧ i = 0 then mo_s j else mh_I xs 0 i j) = if i = 0 then xs j else 0 := by
        rw [if_neg (fun q => absurd q.1 (by decide))]
        have hh : mh_h 0 = none := by decide
        unfold mh_I
        rw [hh]
        show (if 0 = 0 ∧ i = 0 then xs j else 0) = _
        by_cases hi : i = 0
        · rw [if_pos ⟨rfl, hi⟩, if_pos hi]
        · rw [if_neg (fun q => hi q.2), if_neg hi]
      rw [e3]
      have e4 : nwZ xs 200 0 i j = if (0 : Int) = 0 ∧ (i : Int) = 0 ∧ 0 ≤ (j : Int) then (xs (j : Int).toNat).toInt else 0 := if_pos rfl
      rw [e4]
      by_cases hi : i = 0
      · rw [if_pos hi, if_pos ⟨rfl, by omega, by omega⟩, Int.toNat_natCast]
        exact i3_of _
      · rw [if_neg hi, if_neg (fun q => hi (by omega))]
        rfl
    · exact nw_v h q1 q2 j
  · obtain ⟨k, b, i⟩ := r
    rcases hr with ⟨q1, q2⟩ | ⟨q1, _, q2, q3⟩
    · have hk : k = 200 := q1
      subst hk
      have e1 : (lk_m μ).2.1 200 b i j = qz_lm μ 200 0 i j := (if_pos rfl : (if 200 = 200 then qz_lm μ 200 0 i j else qz_lm μ 200 (qz_fm 200 b - 2) i j) = _)
      show (lk_m μ).2.1 200 b i j = 0
      rw [e1]
      exact (h.2.1 0 (by decide)).2.2.2.1 i j
    · have hk : k ≠ 200 := q1
      have hk1 := lk_a1 q2
      have a2 := hk1.2
      unfold lk_1 at a2
      rw [Bool.and_eq_true, Bool.and_eq_true] at a2
      have g2 : qz_fm k b < 578 := Nat.le_of_ble_eq_true a2.2.1
      have e1 : (lk_m μ).2.1 k b i j = qz_lm μ 200 (qz_fm k b - 2) i j := if_neg hk
      show (lk_m μ).2.1 k b i j = 0
      rw [e1]
      exact (h.2.1 (qz_fm k b - 2) (by omega)).2.2.2.1 i j
/-- what is wanted of a case -/
def p1_case (j : Nat) (G : wz_W) : Prop := ∀ (Z : qz_Z) (ν : qz_N) (k : wz_K) (R : wz_R), zNew Z ν → zRf Z ν → (∀ (Z3 : qz_Z) (ν3 : qz_N) (a b c : Option qz_V), zEnd ν3 → k (64 - j) ([some (.inr (.inr (some (200, 0, 0)))), some (.inr (.inr (some (0, 0, 0)))), some (.inr (.inr (some (1, 0, 0)))), some (.inr (.inr (some (71, 0, 0)))), some (.inl (0 : Int32)), a, b, c], [], zm Z3 ν3)) → G k R (gx_L 0, [], zm Z ν)
theorem zE_tag {Z : qz_Z} {ν : qz_N} (h : zEnd ν) : qz_tag (zm Z ν) (200, 0, 0) = 60 ∧ qz_len (zm Z ν) (200, 0, 0) = 7 := by
  refine ⟨?_, ?_⟩
  · show (bif Nat.beq 200 200 then (bif Nat.blt 0 (ν.2.2.1 0).2.1 then (ν.2.2.1 0).1 else 255) else _) = 60
    rw [h.1.1]
    rfl
  · show (bif Nat.beq 200 200 then (ν.2.2.1 0).2.2 else _) = 7
    rw [h.1.1]
    rfl
theorem zW_tag {Z : qz_Z} {L : Nat} : qz_tag (zm Z (nwN L)) (200, 0, 0) = 60 ∧ qz_len (zm Z (nwN L)) (200, 0, 0) = L := ⟨rfl, rfl⟩
def p1_R : wz_R := fun μ o => o = .inl (some (.inl (1 : Int32))) ∧ qz_kc μ ≤ 600002 ∧ qz_ks μ ≤ 7302232
theorem p1_out {L : qz_L} {μ : qz_M} (h : qz_kc μ ≤ 600002 ∧ qz_ks μ ≤ 7302232) : gc_632_2 wz_k0 p1_R (L, [], μ) := by
  refine wz_fgd (L0 := qz_fg [false, false, false, false, false, false, false, false] L) rfl ?_
  exact ⟨rfl, h⟩
theorem gx_rest_ok {k : wz_K} {R : wz_R} {μ : qz_M} {a b c : Option qz_V} (h : k 1 ([some (.inr (.inr (some (200, 0, 0)))), some (.inr (.inr (some (0, 0, 0)))), some (.inr (.inr (some (1, 0, 0)))), some (.inr (.inr (some (71, 0, 0)))), some (.inl ((0 : Int32) + Int32.ofInt 7)), a, b, c], [], μ)) : gx_rest (wz_kb k) R ([some (.inr (.inr (some (200, 0, 0)))), some (.inr (.inr (some (0, 0, 0)))), some (.inr (.inr (some (1, 0, 0)))), some (.inr (.inr (some (71, 0, 0)))), some (.inl (0 : Int32)), a, b, c], [], μ) := h
theorem p1_loop (hall : ∀ (j : Nat) (G : wz_W), gx_all[j]? = some G → p1_case j G) {L : Nat} (hL : L ≤ 7) (xs : Nat → Int32) : wz_loop qb_632_1 65536 (wz_sk gc_632_2 wz_k0 p1_R) p1_R (gx_L 0, [], zm (nwZ xs) (nwN L)) := by
  rcases Nat.lt_or_ge L 7 with hl | hl
  · refine wz_l0 sb_632_1 (fl_body 0 _ _ _ _ rfl L zW_tag.1 zW_tag.2 ?_)
    have : decide (Int32.ofNat L - 7 < 0) = true := by
      have h7 : ∀ n < 7, decide (Int32.ofNat n - 7 < 0) = true := by decide
      exact h7 L hl
    refine wz_i1 this ?_
    exact wz_lk0 (wz_sk0 (p1_out ⟨show 5234 ≤ 600002 by decide, show 127732 ≤ 7302232 by decide⟩))
  · obtain rfl : L = 7 := Nat.le_antisymm hL hl
    refine wz_lp sb_632_1 (fun m x => (m = 1 ∧ x = (gx_L 0, [], zm (nwZ xs) (nwN 7))) ∨ (m = 0 ∧ ∃ Z3 ν3, qz_fg [true, true, true, true, true, false, false, false] x.1 = gx_L 7 ∧ x.2 = ([], zm Z3 ν3) ∧ zEnd ν3)) ?_ 65536 1 _ (by omega) (.inl ⟨rfl, rfl⟩)
    rintro m x (⟨rfl, rfl⟩ | ⟨rfl, Z3, ν3, hx, hx2, hend⟩)
    · refine fl_body 0 _ _ _ _ rfl 7 zW_tag.1 zW_tag.2 ?_
      rw [show decide (Int32.ofNat 7 - 7 < 0) = false from by decide]
      refine ⟨by decide, fun j G hG hj => hall j G hG _ _ _ _ (nw_new xs) ⟨fun k b i j hk => if_neg hk, fun j => (if_neg (by decide) : (if 1 = 200 then none else lk_0 j) = lk_0 j)⟩ (fun Z3 ν3 a b c hend => ?_)⟩
      have hj2 : j < 64 := by
        have h1 : ∃ (h : j < gx_all.length), gx_all[j] = G := List.getElem?_eq_some_iff.mp hG
        exact h1.1
      refine gC_end ?_ ?_
      · rw [List.length_drop]
        show 64 - j = 64 - (j + 1) + 1
        omega
      · refine wz_kbs (n := 0) (wz_sk0 (gx_rest_ok ?_))
        exact wz_k1 ⟨0, by omega, .inr ⟨rfl, Z3, ν3, rfl, rfl, hend⟩⟩
    · obtain ⟨L9, st9, μ9⟩ := x
      cases hx2
      refine fl_body 7 _ _ _ _ hx 7 (zE_tag hend).1 (zE_tag hend).2 ?_
      refine wz_i1 (show decide (Int32.ofNat 7 - 7 < 7) = true from by decide) ?_
      refine wz_lk0 (wz_sk0 (p1_out ⟨?_, ?_⟩))
      · have := hend.2.1
        show ν3.2.2.2.2.1 ≤ _
        omega
      · have := hend.2.2
        show ν3.2.2.2.2.2 ≤ _
        omega
theorem p1_goal (hall : ∀ (j : Nat) (G : wz_W), gx_all[j]? = some G → p1_case j G) {L : Nat} (hL : L ≤ 7) (xs : Nat → Int32) : ∃ (n : Nat) (σ1 : pz_S), pz_run pz_Tt pz_I n 632 0 (pz_ent [.inr (.inr (some (0, 0)))] 8) [] (lk_s0 L xs) = some (σ1, .inl (some (.inl 1))) ∧ pz_kc σ1 ≤ 600002 ∧ pz_ks σ1 ≤ 7302232 := by
  obtain ⟨μ', σ', Lc', hR, hLR, hRel, hge⟩ := lk_start L xs
  have hrel := nw_rel hRel hge rfl rfl
  have hS : wz_S (ws (wl qb_632_1 65536) gc_632_2) qf_law := s_s s_l sc_632_2
  obtain ⟨e, he, hE⟩ := hS wz_k0 p1_R (gx_L 0, [], zm (nwZ xs) (nwN L)) (p1_loop hall hL xs)
  have hok : qz_okL true 1 (gx_L 0) := by
    intro v hv r hr
    subst hr
    simp only [gx_L, List.mem_cons, Option.some.injEq, Sum.inr.injEq, List.not_mem_nil, or_false, reduceCtorEq] at hv
    rcases hv with rfl | rfl | rfl | rfl
    · exact .inl ⟨rfl, by decide⟩
    · exact .inr ⟨by decide, rfl, by decide, by decide⟩
    · exact .inr ⟨by decide, rfl, by decide, by decide⟩
    · exact .inr ⟨by decide, rfl, by decide, by decide⟩
  have hP := qs_law true (gx_L 0) [] (zm (nwZ xs) (nwN L)) e σ' Lc' he hrel hLR hok (fun v hv => by cases hv) rfl
  match e, he, hE, hP with
  | .inl (0, x'), _, hE, _ => exact hE.elim
  | .inl (n + 1, x'), _, hE, _ => exact hE.elim
  | .inr (μ1, o), _, hE, hP =>
    obtain ⟨rfl, h2, h3⟩ := hE
    obtain ⟨m, σ1, h4, h5, _⟩ := hP
    obtain ⟨m', h6⟩ := hR m _ h4
    exact ⟨m', σ1, h6, h5.2.1.1 ▸ h2, h5.2.1.2 ▸ h3⟩
