/-! TABLES: how they lie, and what a check of them says. -/
theorem pz_fnd_mem {pc : Nat} {r : Instr × Nat × Nat × Nat} : ∀ {l : List pz_Rw}, pz_fnd pc l = some r → (pc, r) ∈ l
  | [], h => by cases h
  | x :: l, h => by
    unfold pz_fnd at h
    rw [cond_eq_ite] at h
    split at h
    · rename_i hb
      cases h
      have := Nat.eq_of_beq_eq_true hb
      subst this
      exact List.mem_cons_self
    · exact List.mem_cons_of_mem _ (pz_fnd_mem h)
theorem pz_getD_mem {α : Type} {l : List (List α)} {k : Nat} {x : α} (h : x ∈ l.getD k []) : ∃ c ∈ l, x ∈ c := by
  rw [List.getD_eq_getElem?_getD] at h
  cases hk : l[k]? with
  | none => rw [hk] at h; cases h
  | some c => rw [hk] at h; exact ⟨c, List.mem_of_getElem? hk, h⟩
theorem pz_atE_mem {tb : pz_All} {y : Nat} {e : pz_Ey} (h : pz_atE tb y = some e) : ∃ c, tb[y / 16]? = some c ∧ c[y % 16]? = some e := by
  unfold pz_atE at h
  rw [List.getD_eq_getElem?_getD] at h
  cases hk : tb[y / 16]? with
  | none => rw [hk] at h; cases h
  | some c => rw [hk] at h; exact ⟨c, rfl, h⟩
theorem pz_fl_mem {idx : Nat} {r : Nat × Nat} : ∀ {l : List (Nat × Nat × Nat)}, pz_fl idx l = some r → (idx, r) ∈ l
  | [], h => by cases h
  | x :: l, h => by
    unfold pz_fl at h
    rw [cond_eq_ite] at h
    split at h
    · rename_i hb
      cases h
      have := Nat.eq_of_beq_eq_true hb
      subst this
      exact List.mem_cons_self
    · exact List.mem_cons_of_mem _ (pz_fl_mem h)
theorem pz_lt_mem {t : pz_Lt} {idx a b : Nat} (h : pz_lt t idx a b = true) : ∃ c ∈ t, (idx, a, b) ∈ c := by
  unfold pz_lt at h
  split at h
  · rename_i x y hx
    rw [Bool.and_eq_true] at h
    obtain ⟨rfl, rfl⟩ : x = a ∧ y = b := ⟨Nat.eq_of_beq_eq_true h.1, Nat.eq_of_beq_eq_true h.2⟩
    exact pz_getD_mem (pz_fl_mem hx)
  · cases h
def pz_lbk (own : String) (idx a : Nat) : Prop := (a = 10000 → Cond.methodLink own idx Lib.Math.min.name ∈ wsL_law) ∧ (a = 10001 → Cond.methodLink own idx Lib.Math.max.name ∈ wsL_law) ∧ (a = 10002 → Cond.methodLink own idx Lib.MathLoose.max_long.x ∈ wsL_law) ∧ (a = 10003 → Cond.methodLink own idx arraycopyName ∈ wsL_law) ∧ (a = 10004 → Cond.methodLink own idx Lib.objectInit ∈ wsL_law)
def pz_lmk (I : pz_Ib) (own : String) (x : Nat × Nat × Nat) : Prop := (∀ Ma, x.2.1 < 10000 → I x.2.1 = some Ma → Cond.methodLink own x.1 (pz_mN Ma) ∈ wsL_law) ∧ pz_lbk own x.1 x.2.1
def pz_lck (own : String) (x : Nat × Nat × Nat) : Prop := (x.2.1 < 6 → Cond.classLink own x.1 (pz_C x.2.1) ∈ wsL_law ∧ Cond.instantiable (pz_C x.2.1) (pz_n x.2.1) ∈ wsL_law ∧ Cond.initialized (pz_C x.2.1) ∈ wsL_law) ∧ (x.2.1 = 50 → Cond.classLink own x.1 RX6 ∈ wsL_law) ∧ (x.2.1 = 51 → Cond.classLink own x.1 "[[I" ∈ wsL_law)
def pz_lvk (own : String) (x : Nat × Nat × Nat) : Prop := (x.2.2 = 0 → Cond.constant own x.1 (Int32.ofNat x.2.1) ∈ wsL_law) ∧ (x.2.2 = 1 → Cond.constantLong own x.1 (pz_lcs.getD x.2.1 0) ∈ wsL_law)
def pz_Lok (I : pz_Ib) (own : String) (t : pz_Ls) : Prop := (∀ c ∈ t.1, ∀ x ∈ c, pz_lkF own x.1 x.2.1 x.2.2) ∧ (∀ c ∈ t.2.1, ∀ x ∈ c, pz_lmk I own x) ∧ (∀ c ∈ t.2.2.1, ∀ x ∈ c, pz_lck own x) ∧ ∀ c ∈ t.2.2.2, ∀ x ∈ c, pz_lvk own x
theorem pz_beq {a b : Nat} (h : Nat.beq a b = true) : a = b := Nat.eq_of_beq_eq_true h
theorem pz_bne {a b : Nat} (h : (!Nat.beq a b) = true) : a ≠ b := fun e => by subst e; simp at h
set_option maxHeartbeats 2000000 in
theorem pz_cki_ok {q y4 y9 : Nat} {t : pz_Ls} {I : pz_Ib} {M : pz_M} {pc : Nat} {i : Instr} {n a b : Nat} (ht : pz_Lok I (pz_mN M).cls t) (hq : q = 11 → (pz_mN M).cls = RX11) (h4 : ∀ Ma, I y4 = some Ma → pz_mN Ma = yX4_init) (h9 : ∀ Ma, I y9 = some Ma → pz_mN Ma = yX9_init)
    (hd : decode (pz_mB M) pc = .ok (i, n)) (h : pz_cki q y4 y9 t (pz_mB M) pc i n a b = true) : pz_Row I M pc i n a b := by
  obtain ⟨t1, t2, t3, t4⟩ := ht
  refine ⟨hd, fun hs => ?_, ?_⟩
  · unfold pz_cki at h
    split at h
    all_goals first | (cases hs; done) | skip
    all_goals try simp only [Bool.and_eq_true] at h
    · obtain ⟨k1, k2⟩ := h
      obtain ⟨c, hc, hx⟩ := pz_lt_mem k2
      exact ⟨t1 c hc _ hx, Or.inl (pz_beq k1), fun k hk => by cases hk⟩
    · obtain ⟨k1, k2, k3⟩ := h
      obtain ⟨c, hc, hx⟩ := pz_lt_mem k2
      exact ⟨t1 c hc _ hx, Or.inl (pz_beq k1), fun k hk => pz_bne k3⟩
    · obtain ⟨k1, k2⟩ := h
      obtain ⟨c, hc, hx⟩ := pz_lt_mem k2
      exact ⟨(t4 c hc _ hx).1 rfl, Or.inl (pz_beq k1), fun k hk => by cases hk⟩
    · obtain ⟨k1, k2⟩ := h
      obtain ⟨c, hc, hx⟩ := pz_lt_mem k2
      exact ⟨(t4 c hc _ hx).1 rfl, Or.inl (pz_beq k1), fun k hk => by cases hk⟩
    · obtain ⟨k1, k2⟩ := h
      obtain ⟨c, hc, hx⟩ := pz_lt_mem k2
      exact ⟨(t4 c hc _ hx).2 rfl, Or.inl (pz_beq k1), fun k hk => by cases hk⟩
    · obtain ⟨k1, k2⟩ := h
      obtain ⟨c, hc, hx⟩ := pz_lt_mem k2
      exact ⟨((t3 c hc _ hx).1 (show (1 : Nat) < 6 by decide)).1, Or.inl (pz_beq k1), fun k hk => by cases hk⟩
    · obtain ⟨k1, k2, k3⟩ := h
      obtain ⟨c, hc, hx⟩ := pz_lt_mem k3
      exact ⟨⟨pz_beq k2, (t3 c hc _ hx).2.2 rfl⟩, Or.inl (pz_beq k1), fun k hk => by cases hk⟩
    · exact ⟨trivial, Or.inr ⟨_, _, _, _, rfl⟩, fun k hk => by cases hk⟩
    · refine ⟨?_, Or.inl (pz_beq h), fun k hk => ?_⟩
      · unfold pz_lk
        split
        all_goals first | trivial | (exfalso; rename_i n1 n2 n3 n4 n5 n6 n7 n8 n9 n10 n11 n12 n13; first | exact n1 _ rfl | exact n2 _ rfl | exact n3 _ rfl | exact n4 _ rfl | exact n5 _ rfl | exact n6 _ rfl | exact n7 _ rfl | exact n8 _ rfl | exact n9 _ rfl | exact n10 _ rfl | exact n11 _ rfl | exact n12 _ _ rfl | exact n13 _ _ rfl | simp_all)
      · subst hk; simp_all
  · unfold pz_cki at h
    split
    all_goals try dsimp only at h
    all_goals try exact pz_beq h
    all_goals try simp only [Bool.and_eq_true] at h
    · obtain ⟨k1, k2, k3⟩ := h
      obtain ⟨c, hc, hx⟩ := pz_lt_mem k2
      obtain ⟨x1, x2⟩ := t2 c hc _ hx
      exact ⟨pz_beq k1, fun Ma hlt hI => ⟨Or.inl (x1 Ma hlt hI), pz_bne k3⟩, x2.1, x2.2.1, x2.2.2.1, x2.2.2.2.1⟩
    · obtain ⟨k1, k2, k4, k3⟩ := h
      obtain ⟨c, hc, hx⟩ := pz_lt_mem k2
      obtain ⟨x1, x2⟩ := t2 c hc _ hx
      exact ⟨pz_beq k1, fun Ma hI => ⟨Or.inl (x1 Ma (Nat.le_of_ble_eq_true k4) hI), pz_bne k3⟩⟩
    · obtain ⟨k1, k3, k2⟩ := h
      rcases Bool.or_eq_true_iff.mp k2 with k2 | k2
      · simp only [Bool.and_eq_true] at k2
        obtain ⟨⟨k2, k5⟩, k6⟩ := k2
        obtain ⟨c, hc, hx⟩ := pz_lt_mem k2
        obtain ⟨x1, x2⟩ := t2 c hc _ hx
        refine ⟨pz_beq k1, fun Ma hlt hI => ⟨Or.inl (x1 Ma hlt hI), pz_bne k3⟩, fun hge => ?_⟩
        rcases Bool.or_eq_true_iff.mp k6 with k6 | k6
        · exact absurd (Nat.le_of_ble_eq_true k6) (by omega)
        · exact x2.2.2.2.2 (pz_beq k6)
      · simp only [Bool.and_eq_true] at k2
        obtain ⟨k2, k7, k4⟩ := k2
        refine ⟨pz_beq k1, fun Ma hlt hI => ⟨Or.inr ⟨rfl, hq (pz_beq k2), ?_⟩, pz_bne k3⟩, fun hge => ?_⟩
        · rcases Bool.or_eq_true_iff.mp k4 with m4 | m4
          · obtain ⟨m5, m6⟩ := Bool.and_eq_true_iff.mp m4
            exact Or.inl ⟨pz_beq m5, h4 Ma (by rw [← pz_beq m6]; exact hI)⟩
          · obtain ⟨m5, m6⟩ := Bool.and_eq_true_iff.mp m4
            exact Or.inr ⟨pz_beq m5, h9 Ma (by rw [← pz_beq m6]; exact hI)⟩
        · exact absurd (Nat.le_of_ble_eq_true k7) (by omega)
    · obtain ⟨k1, k2⟩ := h
      rw [cond_eq_ite] at k2
      split at k2
      · rename_i hlt
        rw [Bool.and_eq_true] at k2
        obtain ⟨c, hc, hx⟩ := pz_lt_mem k2.2
        have hlt := Nat.le_of_ble_eq_true hlt
        exact ⟨pz_beq k1, fun _ => (t3 c hc _ hx).1, fun hge => by omega⟩
      · rename_i hge
        refine ⟨pz_beq k1, fun hlt => absurd (Nat.ble_eq_true_of_le hlt) hge, fun _ => ?_⟩
        unfold pz_ckt pz_dec at k2
        simp only [Bool.and_eq_true, decide_eq_true_eq] at k2
        obtain ⟨e1, e2, e3, e4, e5, e6, e7⟩ := k2
        exact ⟨hq (pz_beq e1), e2, e3, e4, e5, e6, e7⟩
    · trivial
