/-! THE ABSTRACT MACHINE'S PIECES ARE THE PURE MACHINE'S RUNS. -/
def qz_cst (fin : Bool) (i : Instr) (a b pc : Nat) (L : pz_L) (st : List pz_V) (σ : pz_S) : pz_P := match i with
  | .iaload => bif Nat.beq a 60 then pz_scl pc L st σ else pz_step false .iaload a b pc L st σ
  | .arraylength => bif Nat.beq a 60 then pz_scn pc L st σ else pz_step false .arraylength a b pc L st σ
  | .new k => pz_step false (.new k) a b pc L st σ
  | i => pz_step fin i a b pc L st σ
def qz_spk (i : Instr) (a : Nat) : Bool := match i with
  | .iaload => true
  | .arraylength => true
  | .new _ => Nat.blt a 100
  | i => !pz_sp i
section QC
variable {ph : Bool}
variable {L : qz_L} {Lc : pz_L} {st : List qz_V} {μ : qz_M} {σ : pz_S} {pc : Nat} {x' : qz_X}
set_option maxHeartbeats 4000000 in
theorem qs_step {fin : Bool} {i : Instr} {a b : Nat} (R : qz_Rel ph μ σ) (hR : qz_LR ph L Lc) (hL : qz_okL ph (qz_na μ) L) (hS : qz_okS ph (qz_na μ) st) (h : qz_step fin i a b L st μ = some x') : qz_Sm ph (pc + pz_il i) L μ x' (qz_cst fin i a b pc Lc (qz_cS ph st) σ) ∧ qz_spk i a = true := by
  unfold qz_step at h
  split at h
  · exact ⟨qs_push R hR hL hS qz_okI rfl h, rfl⟩
  · exact ⟨qs_push R hR hL hS qz_okI rfl h, rfl⟩
  · exact ⟨qs_push R hR hL hS qz_okI rfl h, rfl⟩
  · exact ⟨qs_push R hR hL hS qz_okJ rfl h, rfl⟩
  · exact ⟨qs_push R hR hL hS qz_okI rfl h, rfl⟩
  · exact ⟨qs_push R hR hL hS qz_okI rfl h, rfl⟩
  · exact ⟨qs_push R hR hL hS qz_okJ rfl h, rfl⟩
  · exact ⟨qs_ldi R hR hL hS h, rfl⟩
  · exact ⟨qs_ldi R hR hL hS h, rfl⟩
  · exact ⟨qs_ldl R hR hL hS h, rfl⟩
  · exact ⟨qs_ldl R hR hL hS h, rfl⟩
  · exact ⟨qs_lda R hR hL hS h, rfl⟩
  · exact ⟨qs_lda R hR hL hS h, rfl⟩
  · exact ⟨qs_sti R hR hL hS h, rfl⟩
  · exact ⟨qs_sti R hR hL hS h, rfl⟩
  · exact ⟨qs_stl R hR hL hS h, rfl⟩
  · exact ⟨qs_stl R hR hL hS h, rfl⟩
  · exact ⟨qs_sta R hR hL hS h, rfl⟩
  · exact ⟨qs_sta R hR hL hS h, rfl⟩
  · exact ⟨qs_inc R hR hL hS h, rfl⟩
  · exact ⟨qs_bin R hR hL hS h, rfl⟩
  · exact ⟨qs_bin R hR hL hS h, rfl⟩
  · exact ⟨qs_bin R hR hL hS h, rfl⟩
  · exact ⟨qs_bin R hR hL hS h, rfl⟩
  · exact ⟨qs_bin R hR hL hS h, rfl⟩
  · exact ⟨qs_bin R hR hL hS h, rfl⟩
  · exact ⟨qs_bin R hR hL hS h, rfl⟩
  · exact ⟨qs_bin R hR hL hS h, rfl⟩
  · exact ⟨qs_dv R hR hL hS h, rfl⟩
  · exact ⟨qs_dv R hR hL hS h, rfl⟩
  · exact ⟨qs_neg R hR hL hS h, rfl⟩
  · exact ⟨qs_i2l R hR hL hS h, rfl⟩
  · exact ⟨qs_i2c R hR hL hS h, rfl⟩
  · unfold qz_l2i at h
    split at h
    · cases h
      exact ⟨qz_Sm_p R hR hL (qz_okS_c qz_okI (qz_okS_t hS)) rfl, rfl⟩
    · cases h
  · exact ⟨qs_lbin R hR hL hS h, rfl⟩
  · exact ⟨qs_lbin R hR hL hS h, rfl⟩
  · exact ⟨qs_lbin R hR hL hS h, rfl⟩
  · exact ⟨qs_ldv R hR hL hS h, rfl⟩
  · exact ⟨qs_ldv R hR hL hS h, rfl⟩
  · unfold qz_lcp at h
    split at h
    · cases h
      exact ⟨qz_Sm_p R hR hL (qz_okS_c qz_okI (qz_okS_t (qz_okS_t hS))) rfl, rfl⟩
    · cases h
  · exact ⟨qs_dup R hR hL hS h, rfl⟩
  · exact ⟨qs_pop R hR hL hS h, rfl⟩
  · exact ⟨qs_dupx1 R hR hL hS h, rfl⟩
  · exact ⟨qs_dupx2 R hR hL hS h, rfl⟩
  · exact ⟨qs_dup2 R hR hL hS h, rfl⟩
  · exact ⟨qs_get R hR hL hS h, rfl⟩
  · exact ⟨qs_put R hR hL hS h, rfl⟩
  · refine ⟨?_, rfl⟩
    show qz_Sm ph (pc + 1) L μ x' (bif Nat.beq a 60 then pz_scl pc Lc (qz_cS ph st) σ else pz_ilo pc Lc (qz_cS ph st) σ 50)
    cases hb : Nat.beq a 60
    · rw [hb] at h
      exact qs_ilo R hR hL hS h
    · rw [hb] at h
      exact qs_scl R hR hL hS h
  · exact ⟨qs_ilo R hR hL hS h, rfl⟩
  · exact ⟨qs_llo R hR hL hS h, rfl⟩
  · exact ⟨qs_alo R hR hL hS h, rfl⟩
  · exact ⟨qs_isto R hR hL hS h, rfl⟩
  · exact ⟨qs_bsto R hR hL hS h, rfl⟩
  · exact ⟨qs_lsto R hR hL hS h, rfl⟩
  · exact ⟨qs_asto R hR hL hS h, rfl⟩
  · refine ⟨?_, rfl⟩
    show qz_Sm ph (pc + 1) L μ x' (bif Nat.beq a 60 then pz_scn pc Lc (qz_cS ph st) σ else pz_len pc Lc (qz_cS ph st) σ)
    cases hb : Nat.beq a 60
    · rw [hb] at h
      exact qs_leng R hR hL hS h
    · rw [hb] at h
      exact qs_scn R hR hL hS h
  · exact ⟨qs_newa R hR hL hS h, rfl⟩
  · exact ⟨qs_newa R hR hL hS h, rfl⟩
  · exact ⟨qs_newa R hR hL hS h, rfl⟩
  · exact ⟨qs_newa R hR hL hS h, rfl⟩
  · exact ⟨qs_mnew R hR hL hS h, rfl⟩
  · obtain ⟨h1, h2⟩ := qs_new (pc := pc) R hR hL hS h
    refine ⟨?_, Nat.ble_eq_true_of_le (show a + 1 ≤ 100 by omega)⟩
    show qz_Sm ph (pc + 3) L μ x' (if a < 6 then pz_new pc Lc (qz_cS ph st) σ a else none)
    rw [if_pos h1]
    exact h2
  · cases h
end QC
set_option maxHeartbeats 4000000 in
theorem qz_run_st {T : pz_Tb} {I : pz_Ib} {y pc n9 a b m : Nat} {My : pz_M} {i : Instr} {L : pz_L} {st : List pz_V} {σ : pz_S} (hI : I y = some My) (hT : T y pc = some (i, n9, a, b)) (hk : qz_spk i a = true) :
    pz_run T I (m + 1) y pc L st σ = pz_go (pz_run T I m) y (qz_cst (Nat.beq (pz_mK My) 2 && Nat.beq (pz_mT My) a) i a b pc L st σ) := by
  rw [pz_run_s]
  unfold pz_body
  rw [hI]
  dsimp only
  rw [hT]
  dsimp only
  cases i
  case iaload =>
    show (bif Nat.beq a 60 then _ else _) = pz_go _ _ (bif Nat.beq a 60 then _ else _)
    cases Nat.beq a 60 <;> rfl
  case arraylength =>
    show (bif Nat.beq a 60 then _ else _) = pz_go _ _ (bif Nat.beq a 60 then _ else _)
    cases Nat.beq a 60 <;> rfl
  case new k =>
    show (bif Nat.blt a 100 then _ else _) = _
    rw [show Nat.blt a 100 = true from hk]
    rfl
  all_goals first | rfl | exact absurd hk Bool.false_ne_true
/-! more fuel -/
section QM
variable {T : pz_Tb} {I : pz_Ib} {rec rec' : pz_Rc}
theorem qz_bk_mono {My : pz_M} {y pc k : Nat} {L : pz_L} {rest : List pz_V} {r r' : pz_Rt} {out : pz_S × pz_O} (hh : ∀ y pc L st σ z, rec y pc L st σ = some z → rec' y pc L st σ = some z) (hr : ∀ z, r = some z → r' = some z) (h : pz_back rec My y pc L rest k r = some out) : pz_back rec' My y pc L rest k r' = some out := by
  match r, hr, h with
  | none, _, h => cases h
  | some (σ1, .inl none), hr, h =>
    rw [hr _ rfl]
    exact hh _ _ _ _ _ _ h
  | some (σ1, .inl (some v)), hr, h =>
    rw [hr _ rfl]
    exact hh _ _ _ _ _ _ h
  | some (σ1, .inr E), hr, h =>
    rw [hr _ rfl]
    unfold pz_back at h ⊢
    dsimp only at h ⊢
    cases hk : Nat.beq k 2
    · rw [hk] at h
      dsimp only [cond_false] at h ⊢
      split
      · rename_i hx heq
        rw [heq] at h
        exact hh _ _ _ _ _ _ h
      · rename_i heq
        rw [heq] at h
        exact h
    · rw [hk] at h
      cases h
theorem qz_inv_mono {My : pz_M} {y pc a k : Nat} {L : pz_L} {st : List pz_V} {σ : pz_S} {out : pz_S × pz_O} (hh : ∀ y pc L st σ z, rec y pc L st σ = some z → rec' y pc L st σ = some z) (h : pz_inv I rec My y pc L st σ a k = some out) : pz_inv I rec' My y pc L st σ a k = some out := by
  unfold pz_inv at h ⊢
  split at h
  · cases h
  · rw [cond_eq_ite] at h ⊢
    split at h
    · rename_i hk
      rw [if_pos hk]
      split at h
      · cases h
      · rename_i as rest _
        rw [cond_eq_ite] at h ⊢
        split at h
        · rename_i hf
          rw [if_pos hf]
          exact qz_bk_mono hh (fun z hz => hh _ _ _ _ _ _ hz) h
        · cases h
    · cases h
theorem qz_go_mono {y : Nat} {x : pz_P} {out : pz_S × pz_O} (hh : ∀ y pc L st σ z, rec y pc L st σ = some z → rec' y pc L st σ = some z) (h : pz_go rec y x = some out) : pz_go rec' y x = some out := by
  unfold pz_go at h ⊢
  split at h
  · exact hh _ _ _ _ _ _ h
  · cases h
theorem qz_bi_mono {My : pz_M} {y pc a : Nat} {L : pz_L} {st : List pz_V} {σ : pz_S} {out : pz_S × pz_O} (hh : ∀ y pc L st σ z, rec y pc L st σ = some z → rec' y pc L st σ = some z) (h : pz_bi rec My y pc L st σ a = some out) : pz_bi rec' My y pc L st σ a = some out := by
  unfold pz_bi at h ⊢
  cases e0 : Nat.beq a 10000
  · rw [e0] at h
    dsimp only [cond_false] at h ⊢
    cases e1 : Nat.beq a 10001
    · rw [e1] at h
      dsimp only [cond_false] at h ⊢
      cases e2 : Nat.beq a 10002
      · rw [e2] at h
        dsimp only [cond_false] at h ⊢
        cases e3 : Nat.beq a 10003
        · rw [e3] at h
          cases h
        · rw [e3] at h
          dsimp only [cond_true] at h ⊢
          split at h
          · split at h
            · rename_i hc
              rw [if_pos hc]
              exact hh _ _ _ _ _ _ h
            · cases h
          · cases h
      · rw [e2] at h
        dsimp only [cond_true] at h ⊢
        split at h
        · rename_i v u r
          try dsimp only
          cases hc : pz_rm My 15 r
          · rw [hc] at h; cases h
          · rw [hc] at h
            exact hh _ _ _ _ _ _ h
        · cases h
    · rw [e1] at h
      dsimp only [cond_true] at h ⊢
      split at h
      · rename_i v u r
        try dsimp only
        cases hc : pz_rm My 13 r
        · rw [hc] at h; cases h
        · rw [hc] at h
          exact hh _ _ _ _ _ _ h
      · cases h
  · rw [e0] at h
    dsimp only [cond_true] at h ⊢
    split at h
    · rename_i v u r
      try dsimp only
      cases hc : pz_rm My 13 r
      · rw [hc] at h; cases h
      · rw [hc] at h
        exact hh _ _ _ _ _ _ h
    · cases h
set_option maxHeartbeats 1000000 in
theorem qz_body_mono (hh : ∀ y pc L st σ z, rec y pc L st σ = some z → rec' y pc L st σ = some z) {y pc : Nat} {L : pz_L} {st : List pz_V} {σ : pz_S} {out : pz_S × pz_O} (h : pz_body T I rec y pc L st σ = some out) : pz_body T I rec' y pc L st σ = some out := by
  unfold pz_body at h ⊢
  split at h
  · cases h
  · split at h
    · cases h
    · rename_i i n9 a b _
      rw [cond_eq_ite] at h ⊢
      split at h
      · rename_i hsp
        rw [if_pos hsp]
        unfold pz_spc at h ⊢
        split at h
        · exact h
        · exact h
        · exact h
        · exact h
        · try dsimp only
          rw [cond_eq_ite] at h ⊢
          split at h
          · rename_i hc
            rw [if_pos hc]
            exact qz_inv_mono hh h
          · rename_i hc
            rw [if_neg hc]
            exact qz_bi_mono hh h
        · exact qz_inv_mono hh h
        · try dsimp only
          rw [cond_eq_ite] at h ⊢
          split at h
          · rename_i hc
            rw [if_pos hc]
            exact qz_inv_mono hh h
          · rename_i hc
            rw [if_neg hc]
            unfold pz_oi at h ⊢
            split at h
            · rw [cond_eq_ite] at h ⊢
              split at h
              · rename_i hc
                rw [if_pos hc]
                exact hh _ _ _ _ _ _ h
              · cases h
            · cases h
        · try dsimp only
          rw [cond_eq_ite] at h ⊢
          split at h
          · rename_i hc
            rw [if_pos hc]
            exact qz_go_mono hh h
          · rename_i hc
            rw [if_neg hc]
            exact h
        · try dsimp only
          rw [cond_eq_ite] at h ⊢
          split at h
          · rename_i hc
            rw [if_pos hc]
            exact qz_go_mono hh h
          · rename_i hc
            rw [if_neg hc]
            exact qz_go_mono hh h
        · try dsimp only
          rw [cond_eq_ite] at h ⊢
          split at h
          · rename_i hc
            rw [if_pos hc]
            exact qz_go_mono hh h
          · rename_i hc
            rw [if_neg hc]
            exact qz_go_mono hh h
        · cases h
      · rename_i hsp
        rw [if_neg hsp]
        exact qz_go_mono hh h
theorem qz_run_mono1 : ∀ (n : Nat) {y pc : Nat} {L : pz_L} {st : List pz_V} {σ : pz_S} {out : pz_S × pz_O}, pz_run T I n y pc L st σ = some out → pz_run T I (n + 1) y pc L st σ = some out
  | 0, _, _, _, _, _, _, h => by rw [pz_run_0] at h; cases h
  | n + 1, _, _, _, _, _, _, h => by
    rw [pz_run_s] at h ⊢
    exact qz_body_mono (fun y pc L st σ z hz => qz_run_mono1 n hz) h
theorem qz_run_mono {n m : Nat} (hm : n ≤ m) {y pc : Nat} {L : pz_L} {st : List pz_V} {σ : pz_S} {out : pz_S × pz_O} (h : pz_run T I n y pc L st σ = some out) : pz_run T I m y pc L st σ = some out := by
  induction hm with
  | refl => exact h
  | step _ ih => exact qz_run_mono1 _ ih
end QM
/-! pieces -/
section QP
variable (ph : Bool) (T : pz_Tb) (I : pz_Ib) (y : Nat) (My : pz_M)
def qz_Rch (pc : Nat) (L : pz_L) (st : List pz_V) (σ : pz_S) (pc' : Nat) (L' : pz_L) (st' : List pz_V) (σ' : pz_S) : Prop := ∀ m out, pz_run T I m y pc' L' st' σ' = some out → ∃ m', pz_run T I m' y pc L st σ = some out
def qz_To (pc : Nat) (Lc : pz_L) (st : List qz_V) (μ : qz_M) (σ : pz_S) (pc' : Nat) (x' : qz_X) : Prop := ∃ σ' Lc', qz_Rch T I y pc Lc (qz_cS ph st) σ pc' Lc' (qz_cS ph x'.2.1) σ' ∧ qz_LR ph x'.1 Lc' ∧ qz_Rel ph x'.2.2 σ' ∧ qz_okL ph (qz_na x'.2.2) x'.1 ∧ qz_okS ph (qz_na x'.2.2) x'.2.1 ∧ x'.1.length = pz_mL My ∧ qz_na μ ≤ qz_na x'.2.2
def qz_co (o : qz_Oc) : pz_O := match o with | .inl v => .inl (v.map (qz_cv ph)) | .inr E => .inr E
def qz_okO (n : Nat) (o : qz_Oc) : Prop := ∀ v, o = .inl (some v) → qz_okV ph n v
def qz_Pt (ls : List Nat) (pc q : Nat) (Lc : pz_L) (st : List qz_V) (μ : qz_M) (σ : pz_S) (e : qz_E) : Prop := match e with
  | .inl (0, x') => qz_To ph T I y My pc Lc st μ σ q x'
  | .inl (n + 1, x') => ∃ t, ls[n]? = some t ∧ qz_To ph T I y My pc Lc st μ σ t x'
  | .inr (μ', o) => ∃ m σ', pz_run T I m y pc Lc (qz_cS ph st) σ = some (σ', qz_co ph o) ∧ qz_Rel ph μ' σ' ∧ qz_okO ph (qz_na μ') o ∧ qz_na μ ≤ qz_na μ'
def qz_Ok (ls : List Nat) (pc q : Nat) (F : qz_F) : Prop := ∀ L st μ e σ Lc, F (L, st, μ) = some e → qz_Rel ph μ σ → qz_LR ph L Lc → qz_okL ph (qz_na μ) L → qz_okS ph (qz_na μ) st → L.length = pz_mL My → qz_Pt ph T I y My ls pc q Lc st μ σ e
/-- a method: its function is its run -/
def qz_Sd (f : qz_Fn) : Prop := ∀ as μ r σ, f as μ = some r → qz_Rel ph μ σ → qz_okS ph (qz_na μ) as → (qz_es as).length ≤ pz_mL My → ∃ m σ', pz_run T I m y 0 (pz_ent (qz_cS ph as) (pz_mL My)) [] σ = some (σ', qz_co ph r.2) ∧ qz_Rel ph r.1 σ' ∧ qz_okO ph (qz_na r.1) r.2 ∧ qz_na μ ≤ qz_na r.1
def qz_ckr (pc : Nat) (rs : qz_Rs) (q : Nat) : Bool := match rs with
  | [] => Nat.beq pc q
  | r :: rs => (match T y pc with | some (i, _, a, b) => decide (i = r.1) && (Nat.beq a r.2.1 && Nat.beq b r.2.2) | none => false) && qz_ckr (pc + pz_il r.1) rs q
end QP
section QO
variable {ph : Bool} {T : pz_Tb} {I : pz_Ib} {y : Nat} {My : pz_M} {ls : List Nat} {pc q : Nat}
theorem qz_Pt_tr {Lc Lc' : pz_L} {st st' : List qz_V} {μ μ' : qz_M} {σ σ' : pz_S} {m : Nat} {e : qz_E} (hr : qz_Rch T I y pc Lc (qz_cS ph st) σ m Lc' (qz_cS ph st') σ') (hn : qz_na μ ≤ qz_na μ') (h : qz_Pt ph T I y My ls m q Lc' st' μ' σ' e) : qz_Pt ph T I y My ls pc q Lc st μ σ e := by
  match e, h with
  | .inl (0, x'), h =>
    obtain ⟨σ2, Lc2, h1, h0, h2, h3, h4, h5, h6⟩ := h
    exact ⟨σ2, Lc2, fun m out ho => (h1 m out ho).elim fun m' h' => hr m' out h', h0, h2, h3, h4, h5, Nat.le_trans hn h6⟩
  | .inl (n + 1, x'), h =>
    obtain ⟨t, ht, σ2, Lc2, h1, h0, h2, h3, h4, h5, h6⟩ := h
    exact ⟨t, ht, σ2, Lc2, fun m out ho => (h1 m out ho).elim fun m' h' => hr m' out h', h0, h2, h3, h4, h5, Nat.le_trans hn h6⟩
  | .inr (μ2, o), h =>
    obtain ⟨m2, σ2, h1, h2, h3, h4⟩ := h
    obtain ⟨m', h'⟩ := hr m2 _ h1
    exact ⟨m', σ2, h', h2, h3, Nat.le_trans hn h4⟩
theorem qz_ins_ok (hI : I y = some My) : ∀ (rs : qz_Rs) (pc : Nat) {L : qz_L} {Lc : pz_L} {st : List qz_V} {μ : qz_M} {σ : pz_S} {x' : qz_X}, qz_ckr T y pc rs q = true → qz_ins (pz_mK My) (pz_mT My) rs (L, st, μ) = some x' → qz_Rel ph μ σ → qz_LR ph L Lc → qz_okL ph (qz_na μ) L → qz_okS ph (qz_na μ) st → L.length = pz_mL My → qz_To ph T I y My pc Lc st μ σ q x'
  | [], pc, L, Lc, st, μ, σ, x', hc, h, R, hR, hL, hS, hl => by
    cases h
    obtain rfl := Nat.eq_of_beq_eq_true hc
    exact ⟨σ, Lc, fun m out ho => ⟨m, ho⟩, hR, R, hL, hS, hl, Nat.le_refl _⟩
  | r :: rs, pc, L, Lc, st, μ, σ, x', hc, h, R, hR, hL, hS, hl => by
    unfold qz_ckr at hc
    rw [Bool.and_eq_true] at hc
    obtain ⟨hc, hc2⟩ := hc
    split at hc
    · rename_i i n9 a b hT
      rw [Bool.and_eq_true, Bool.and_eq_true, decide_eq_true_iff] at hc
      obtain ⟨e1, e2, e3⟩ := hc
      have e2 := Nat.eq_of_beq_eq_true e2
      have e3 := Nat.eq_of_beq_eq_true e3
      unfold qz_ins at h
      split at h
      · rename_i x2 h2
        rw [← e1, ← e2, ← e3] at h2
        obtain ⟨⟨σ2, Lc2, g1, g0, g2, g3, g4, g5, g6⟩, hk⟩ := qs_step (pc := pc) R hR hL hS h2
        obtain ⟨L2, st2, μ2⟩ := x2
        have g5' : L2.length = pz_mL My := g5.trans hl
        obtain ⟨σ3, Lc3, k1, k0, k2, k3, k4, k5, k6⟩ := qz_ins_ok hI rs _ hc2 h g2 g0 g3 g4 g5'
        refine ⟨σ3, Lc3, fun m out ho => ?_, k0, k2, k3, k4, k5, Nat.le_trans g6 k6⟩
        obtain ⟨m', h'⟩ := k1 m out ho
        refine ⟨m' + 1, ?_⟩
        rw [qz_run_st hI hT hk, g1]
        rw [← e1] at h'
        exact h'
      · cases h
    · cases hc
theorem qz_fg_len : ∀ (ms : List Bool) (L : qz_L), (qz_fg ms L).length = L.length
  | [], L => by cases L <;> rfl
  | m :: ms, [] => rfl
  | m :: ms, v :: L => congrArg (· + 1) (qz_fg_len ms L)
theorem qz_fg_at : ∀ {ms : List Bool} {L : qz_L} {i : Nat} {v : qz_V}, (qz_fg ms L).getD i none = some v → L.getD i none = some v
  | [], L, i, v, h => by cases L <;> exact h
  | m :: ms, [], i, v, h => h
  | m :: ms, w :: L, 0, v, h => by
    cases m
    · cases h
    · exact h
  | m :: ms, w :: L, i + 1, v, h => qz_fg_at (ms := ms) (L := L) h
theorem qz_fg_mem : ∀ {ms : List Bool} {L : qz_L} {v : qz_V}, some v ∈ qz_fg ms L → some v ∈ L
  | [], L, v, h => by cases L <;> exact h
  | m :: ms, [], v, h => h
  | m :: ms, w :: L, v, h => by
    rcases List.mem_cons.mp h with q | q
    · cases m
      · cases q
      · exact List.mem_cons.mpr (.inl q)
    · exact List.mem_cons_of_mem _ (qz_fg_mem (ms := ms) (L := L) q)
theorem ok_i {rs : qz_Rs} (hI : I y = some My) (hc : qz_ckr T y pc rs q = true) : qz_Ok ph T I y My ls pc q (qn_i (pz_mK My) (pz_mT My) rs) := by
  intro L st μ e σ Lc h R hR hL hS hl
  unfold qn_i at h
  split at h
  · rename_i x' hx
    cases h
    exact qz_ins_ok hI rs pc hc hx R hR hL hS hl
  · cases h
theorem ok_s {m : Nat} {F G : qz_F} (hF : qz_Ok ph T I y My ls pc m F) (hG : qz_Ok ph T I y My ls m q G) : qz_Ok ph T I y My ls pc q (qn_s F G) := by
  intro L st μ e σ Lc h R hR hL hS hl
  unfold qn_s at h
  split at h
  · rename_i x' hx
    obtain ⟨σ2, Lc2, h1, h0, h2, h3, h4, h5, h6⟩ := hF L st μ _ σ Lc hx R hR hL hS hl
    obtain ⟨L2, st2, μ2⟩ := x'
    exact qz_Pt_tr h1 h6 (hG L2 st2 μ2 e σ2 Lc2 h h2 h0 h3 h4 h5)
  · rename_i hne
    have A := hF L st μ e σ Lc h R hR hL hS hl
    match e, h, A with
    | .inl (0, x'), h, A => exact absurd h (hne x')
    | .inl (n + 1, x'), h, A => exact A
    | .inr r, h, A => exact A
theorem ok_lft {Lc : pz_L} {st : List qz_V} {μ : qz_M} {σ : pz_S} {e e' : qz_E} {q' : Nat} (hq : ∀ x', e = .inl (1, x') → q' = q) (h : qz_lft (some e) = some e') (A : qz_Pt ph T I y My (q' :: ls) pc q Lc st μ σ e) : qz_Pt ph T I y My ls pc q Lc st μ σ e' := by
  match e, h, A with
  | .inl (0, x'), h, A => cases h; exact A
  | .inl (1, x'), h, A =>
    cases h
    obtain rfl := hq x' rfl
    obtain ⟨t, ht, A⟩ := A
    cases ht
    exact A
  | .inl (n + 2, x'), h, A =>
    cases h
    obtain ⟨t, ht, A⟩ := A
    exact ⟨t, ht, A⟩
  | .inr r, h, A => cases h; exact A
/-- what isn't read any more is forgotten -/
theorem ok_d {ms : List Bool} : qz_Ok ph T I y My ls pc pc (qn_d ms) := by
  intro L st μ e σ Lc h R hR hL hS hl
  cases h
  exact ⟨σ, Lc, fun m out ho => ⟨m, ho⟩, ⟨by rw [qz_fg_len]; exact hR.1, fun i v hv => hR.2 i v (qz_fg_at hv)⟩, R, fun v hv => hL v (qz_fg_mem hv), hS, by rw [← hl]; exact qz_fg_len .., Nat.le_refl _⟩
theorem ok_b {F : qz_F} (hF : qz_Ok ph T I y My (q :: ls) pc q F) : qz_Ok ph T I y My ls pc q (qn_b F) := by
  intro L st μ e σ Lc h R hR hL hS hl
  unfold qn_b at h
  cases hx : F (L, st, μ) with
  | none => rw [hx] at h; cases h
  | some e2 =>
    rw [hx] at h
    exact ok_lft (fun _ _ => rfl) h (hF L st μ e2 σ Lc hx R hR hL hS hl)
theorem ok_l {F : qz_F} (hF : qz_Ok ph T I y My (pc :: ls) pc q F) : ∀ N, qz_Ok ph T I y My ls pc q (qn_l F N)
  | 0 => fun L st μ e σ Lc h => by cases h
  | N + 1 => fun L st μ e σ Lc h R hR hL hS hl => by
    unfold qn_l at h
    split at h
    · rename_i x' hx
      obtain ⟨t, ht, σ2, Lc2, h1, h0, h2, h3, h4, h5, h6⟩ := hF L st μ _ σ Lc hx R hR hL hS hl
      cases ht
      obtain ⟨L2, st2, μ2⟩ := x'
      exact qz_Pt_tr h1 h6 (ok_l hF N L2 st2 μ2 e σ2 Lc2 h h2 h0 h3 h4 h5)
    · rename_i hne
      cases hx : F (L, st, μ) with
      | none => rw [hx] at h; cases h
      | some e2 =>
        rw [hx] at h
        exact ok_lft (fun x' e9 => absurd (e9 ▸ hx) (hne x')) h (hF L st μ e2 σ Lc hx R hR hL hS hl)
theorem qz_cnd_ok {i : Instr} {st r : List qz_V} {c : Bool} {n : Nat} (h : qz_cnd i st = some (c, r)) (hS : qz_okS ph n st) : (∀ fin a b pc L σ, pz_step fin i a b pc L (qz_cS ph st) σ = pz_br pc L σ (qz_off i) c (qz_cS ph r)) ∧ qz_okS ph n r ∧ pz_sp i = false := by
  unfold qz_cnd at h
  split at h
  all_goals first | cases h; done | skip
  all_goals
    split at h
    · cases h
      exact ⟨fun _ _ _ _ _ _ => rfl, by first | exact qz_okS_t (qz_okS_t hS) | exact qz_okS_t hS, rfl⟩
    · cases h
theorem qz_run_ns {i : Instr} {n9 a b m : Nat} {L : pz_L} {st : List pz_V} {σ : pz_S} (hI : I y = some My) (hT : T y pc = some (i, n9, a, b)) (hk : pz_sp i = false) :
    pz_run T I (m + 1) y pc L st σ = pz_go (pz_run T I m) y (pz_step (Nat.beq (pz_mK My) 2 && Nat.beq (pz_mT My) a) i a b pc L st σ) := by
  rw [pz_run_s]
  unfold pz_body
  rw [hI]
  dsimp only
  rw [hT]
  dsimp only
  rw [hk]
  rfl
theorem ok_c {i : Instr} {n n9 a b t : Nat} (hI : I y = some My) (hT : T y pc = some (i, n9, a, b)) (ht : ls[n]? = some t) (ho : (pc : Int) + qz_off i = (t : Int)) (hq : q = pc + 3) : qz_Ok ph T I y My ls pc q (qn_c i n) := by
  intro L st μ e σ Lc h R hR hL hS hl
  unfold qn_c at h
  split at h
  · rename_i c r hc
    obtain ⟨h1, h2, h3⟩ := qz_cnd_ok hc hS
    cases c
    · cases h
      refine ⟨σ, Lc, fun m out hr => ⟨m + 1, ?_⟩, hR, R, hL, h2, hl, Nat.le_refl _⟩
      rw [qz_run_ns hI hT h3, h1]
      unfold pz_br
      rw [if_neg (by omega), ← hq]
      exact hr
    · cases h
      refine ⟨t, ht, σ, Lc, fun m out hr => ⟨m + 1, ?_⟩, hR, R, hL, h2, hl, Nat.le_refl _⟩
      rw [qz_run_ns hI hT h3, h1]
      unfold pz_br
      rw [if_neg (by omega), ho]
      exact hr
  · cases h
theorem ok_g {off : Int} {n n9 a b t : Nat} (hI : I y = some My) (hT : T y pc = some (.goto off, n9, a, b)) (ht : ls[n]? = some t) (ho : (pc : Int) + off = (t : Int)) : qz_Ok ph T I y My ls pc q (qn_g n) := by
  intro L st μ e σ Lc h R hR hL hS hl
  cases h
  refine ⟨t, ht, σ, Lc, fun m out hr => ⟨m + 1, ?_⟩, hR, R, hL, hS, hl, Nat.le_refl _⟩
  rw [qz_run_ns hI hT rfl]
  show pz_go _ _ (if (pc : Int) + off < 0 then none else _) = _
  rw [if_neg (by omega), ho]
  exact hr
/-- labels of a table of jumps -/
def qz_ckw (ls : List Nat) (pc : Nat) (offs : List Int) (ds : List Nat) : Bool := match offs, ds with
  | [], [] => true
  | o :: os, d :: ds => (match ls[d]? with | some t => decide ((pc : Int) + o = (t : Int)) | none => false) && qz_ckw ls pc os ds
  | _, _ => false
theorem qz_ckw_at : ∀ {offs : List Int} {ds : List Nat} {k : Nat} {d0 : Nat}, qz_ckw ls pc offs ds = true → k < offs.length → ∃ o t, offs[k]? = some o ∧ ls[ds.getD k d0]? = some t ∧ (pc : Int) + o = (t : Int)
  | [], [], k, d0, _, hk => absurd hk (Nat.not_lt_zero _)
  | [], _ :: _, _, _, h, _ => by cases h
  | _ :: _, [], _, _, h, _ => by cases h
  | o :: os, d :: ds, 0, d0, h, hk => by
    unfold qz_ckw at h
    rw [Bool.and_eq_true] at h
    obtain ⟨h1, h2⟩ := h
    split at h1
    · rename_i t ht
      exact ⟨o, t, rfl, ht, of_decide_eq_true h1⟩
    · cases h1
  | o :: os, d :: ds, k + 1, d0, h, hk => by
    unfold qz_ckw at h
    rw [Bool.and_eq_true] at h
    exact qz_ckw_at (offs := os) (ds := ds) (k := k) (d0 := d0) h.2 (Nat.lt_of_succ_lt_succ hk)
theorem ok_w {lo hi d : Int} {offs : Array Int} {dl : Nat} {ds : List Nat} {n9 a b t : Nat} (hI : I y = some My) (hT : T y pc = some (.tableswitch d lo hi offs, n9, a, b)) (ht : ls[dl]? = some t) (ho : (pc : Int) + d = (t : Int)) (hs : hi - lo < (offs.size : Int)) (hc : qz_ckw ls pc offs.toList ds = true) : qz_Ok ph T I y My ls pc q (qn_w lo hi ds dl) := by
  intro L st μ e σ Lc h R hR hL hS hl
  unfold qn_w at h
  split at h
  · rename_i v r hst
    dsimp only at hst
    subst hst
    split at h
    · rename_i hv
      cases h
      refine ⟨t, ht, σ, Lc, fun m out hr => ⟨m + 1, ?_⟩, hR, R, hL, qz_okS_t hS, hl, Nat.le_refl _⟩
      rw [qz_run_ns hI hT rfl]
      show pz_go _ _ (if v.toInt < lo ∨ hi < v.toInt then (if (pc : Int) + d < 0 then none else some (((pc : Int) + d).toNat, Lc, qz_cS ph r, σ)) else _) = _
      rw [if_pos hv, if_neg (by omega), ho]
      exact hr
    · rename_i hv
      cases h
      have hk : (v.toInt - lo).toNat < offs.toList.length := by
        rw [Array.length_toList]
        omega
      obtain ⟨o, t2, e1, e2, e3⟩ := qz_ckw_at (d0 := dl) hc hk
      refine ⟨t2, e2, σ, Lc, fun m out hr => ⟨m + 1, ?_⟩, hR, R, hL, qz_okS_t hS, hl, Nat.le_refl _⟩
      rw [qz_run_ns hI hT rfl]
      show pz_go _ _ (if v.toInt < lo ∨ hi < v.toInt then _ else (match offs[(v.toInt - lo).toNat]? with | some off => if (pc : Int) + off < 0 then none else some (((pc : Int) + off).toNat, Lc, qz_cS ph r, σ) | none => none)) = _
      rw [if_neg hv]
      rw [Array.getElem?_toList] at e1
      rw [e1]
      dsimp only
      rw [if_neg (by omega), e3]
      exact hr
  · cases h
theorem qz_rt_ok {i : Instr} {st : List qz_V} {v : Option qz_V} {n : Nat} (h : qz_rt i (pz_mR My) st = some v) (hS : qz_okS ph n st) : pz_rt i My (qz_cS ph st) = some (v.map (qz_cv ph)) ∧ qz_okO ph n (.inl v) ∧ (∀ (rec : pz_Rc) y pc L σ a b, pz_spc I rec My y pc L (qz_cS ph st) σ i a b = pz_rtn σ (pz_rt i My (qz_cS ph st))) ∧ pz_sp i = true := by
  unfold qz_rt at h
  split at h
  · split at h
    · split at h
      · rename_i hc
        cases h
        exact ⟨if_pos hc, fun w e => by cases e; exact qz_okI, fun _ _ _ _ _ _ _ => rfl, rfl⟩
      · cases h
    · cases h
  · split at h
    · split at h
      · rename_i hc
        cases h
        exact ⟨if_pos hc, fun w e => by cases e; exact qz_okJ, fun _ _ _ _ _ _ _ => rfl, rfl⟩
      · cases h
    · cases h
  · split at h
    · split at h
      · rename_i rt hrt
        split at h
        · rename_i hc
          cases h
          refine ⟨?_, fun w e => by cases e; exact qz_okS_h hS, fun _ _ _ _ _ _ _ => rfl, rfl⟩
          unfold pz_rt
          dsimp only [List.map, qz_cv]
          rw [hrt]
          exact if_pos hc
        · cases h
      · cases h
    · cases h
  · split at h
    · split at h
      · rename_i hc
        cases h
        exact ⟨if_pos hc, fun w e => (by cases e), fun _ _ _ _ _ _ _ => rfl, rfl⟩
      · cases h
    · cases h
  · cases h
theorem ok_r {i : Instr} {n9 a b : Nat} {Rt : Option FieldType} (hI : I y = some My) (hT : T y pc = some (i, n9, a, b)) (hRt : Rt = pz_mR My) : qz_Ok ph T I y My ls pc q (qn_r i Rt) := by
  intro L st μ e σ Lc h R hR hL hS hl
  subst hRt
  unfold qn_r at h
  split at h
  · rename_i v hv
    cases h
    obtain ⟨h1, h2, h3, h4⟩ := qz_rt_ok (I := I) hv hS
    refine ⟨1, σ, ?_, R, h2, Nat.le_refl _⟩
    rw [pz_run_s]
    unfold pz_body
    rw [hI]
    dsimp only
    rw [hT]
    dsimp only
    rw [h4]
    dsimp only [cond_true]
    rw [h3, h1]
    rfl
  · cases h
theorem ok_t {k n9 a b E W : Nat} (hI : I y = some My) (hT : T y pc = some (.new k, n9, a, b)) (ha : a = 100 + E) (hH : pz_mH My = []) (hF : Nat.ble 6 (pz_mF My) = true) (hW : W = pz_mW My) : qz_Ok ph T I y My ls pc q (qn_t W E) := by
  intro L st μ e σ Lc h R hR hL hS hl
  unfold qn_t at h
  obtain ⟨hw, h⟩ := qz_cnd_t h (by intro q; cases q)
  cases h
  subst ha hW
  refine ⟨1, _, ?_, qz_Rel_kk R 1 6, fun v e => (by cases e), Nat.le_refl _⟩
  rw [pz_run_s]
  unfold pz_body
  rw [hI]
  dsimp only
  rw [hT]
  show (bif Nat.blt (100 + E) 100 then _ else pz_thr My Lc (qz_cS ph st) σ (100 + E - 100)) = _
  have hb : Nat.blt (100 + E) 100 = false := by
    cases hq : Nat.blt (100 + E) 100
    · rfl
    · have := Nat.le_of_ble_eq_true hq; omega
  rw [hb]
  show pz_thr My Lc (qz_cS ph st) σ (100 + E - 100) = _
  unfold pz_thr
  rw [hH]
  dsimp only
  rw [hF, qz_wt_cS, hw, hR.1, hl, Nat.beq_refl, Nat.add_sub_cancel_left]
  rfl
/-! calls -/
theorem qz_es_cS (as : List qz_V) : pz_es (qz_cS ph as) = qz_cL ph (qz_es as) := by
  unfold pz_es qz_es
  induction as with
  | nil => rfl
  | cons v r ih =>
    show List.flatMap _ (qz_cv ph v :: qz_cS ph r) = _
    rw [List.flatMap_cons, List.flatMap_cons, ih]
    show _ = List.map _ (_ ++ _)
    rw [List.map_append]
    congr 1
    match v with
    | .inl _ => rfl
    | .inr (.inl _) => rfl
    | .inr (.inr _) => rfl
theorem qz_ent_cS (as : List qz_V) (n : Nat) : pz_ent (qz_cS ph as) n = qz_cL ph (qz_ent as n) := by
  unfold pz_ent qz_ent
  rw [qz_es_cS]
  show List.map _ _ ++ List.replicate (n - (List.map _ _).length) none = List.map (Option.map (qz_cv ph)) (_ ++ _)
  rw [List.map_append, List.map_replicate, List.length_map]
  rfl
theorem qz_ent_okL {n k : Nat} {as : List qz_V} (h : qz_okS ph n as) : qz_okL ph n (qz_ent as k) := by
  intro v hv
  unfold qz_ent at hv
  rcases List.mem_append.mp hv with hv | hv
  · unfold qz_es at hv
    obtain ⟨w, hw, hv⟩ := List.mem_flatMap.mp hv
    cases hc : qz_c2 w
    · rw [hc] at hv
      rcases List.mem_cons.mp hv with e | e
      · cases e; exact h v hw
      · cases e
    · rw [hc] at hv
      rcases List.mem_cons.mp hv with e | e
      · cases e; exact h v hw
      · rcases List.mem_cons.mp e with e | e
        · cases e
        · cases e
  · exact absurd (List.eq_of_mem_replicate hv) (by intro q; cases q)
theorem qz_ent_len {as : List qz_V} {n : Nat} (h : (qz_es as).length ≤ n) : (qz_ent as n).length = n := by
  unfold qz_ent
  rw [List.length_append, List.length_replicate]
  omega
theorem ok_mt {F : qz_F} (hF : qz_Ok ph T I y My [] 0 q F) : qz_Sd ph T I y My (qz_mt (pz_mL My) F) := by
  intro as μ r σ h R hS hl
  unfold qz_mt at h
  split at h
  · rename_i r' hx
    cases h
    obtain ⟨μ', o⟩ := r
    obtain ⟨m, σ', h1, h2, h3, h4⟩ := hF _ _ _ _ σ _ hx R (qz_LR_cL _) (qz_ent_okL hS) qz_okS_n (qz_ent_len hl)
    exact ⟨m, σ', by rw [qz_ent_cS]; exact h1, h2, h3, h4⟩
  · cases h
theorem qz_args_ok {n k : Nat} {st as rest : List qz_V} (h : qz_args n st = some (as, rest)) (hS : qz_okS ph k st) : pz_args n (qz_cS ph st) = some (qz_cS ph as, qz_cS ph rest) ∧ qz_okS ph k as ∧ qz_okS ph k rest := by
  unfold qz_args at h
  split at h
  · rename_i hn
    cases h
    refine ⟨?_, fun v hv => hS v (List.mem_of_mem_take (List.mem_reverse.mp hv)), fun v hv => hS v (List.mem_of_mem_drop hv)⟩
    unfold pz_args
    rw [if_pos (by rw [List.length_map]; exact hn)]
    show some ((List.take n (List.map (qz_cv ph) st)).reverse, List.drop n (List.map (qz_cv ph) st)) = some (List.map (qz_cv ph) _, List.map (qz_cv ph) _)
    rw [List.map_reverse, List.map_take, List.map_drop]
  · cases h
theorem qz_rcv_ok {μ : qz_M} {σ : pz_S} {t : Nat} {as : List qz_V} (R : qz_Rel ph μ σ) (hS : qz_okS ph (qz_na μ) as) (h : qz_rcv μ t as = true) : pz_rcv σ t (qz_cS ph as) = true := by
  unfold qz_rcv at h
  split at h
  · rename_i r _
    rw [Bool.and_eq_true] at h
    have ht : t < 6 := Nat.le_of_ble_eq_true h.2
    show (pz_is σ (qz_cr ph r).1 (qz_cr ph r).2 t && Nat.blt t 6) = true
    rw [qz_is_ok R (qz_okS_h hS r rfl) h.1 (by omega), h.2]
    rfl
  · cases h
/-- how a call stands in the code -/
def qz_Cl (i : Instr) (a k : Nat) : Prop := a < 10000 ∧ ((∃ idx, i = .invokestatic idx ∧ k = 0) ∨ (∃ idx, i = .invokevirtual idx ∧ k = 1) ∨ ∃ idx, i = .invokespecial idx ∧ k = 2)
theorem qz_run_cl {i : Instr} {n9 a b m k : Nat} {L : pz_L} {st : List pz_V} {σ : pz_S} (hI : I y = some My) (hT : T y pc = some (i, n9, a, b)) (hk : qz_Cl i a k) :
    pz_run T I (m + 1) y pc L st σ = pz_inv I (pz_run T I m) My y pc L st σ a k := by
  obtain ⟨ha, hk⟩ := hk
  have hb : Nat.blt a 10000 = true := Nat.ble_eq_true_of_le ha
  rw [pz_run_s]
  unfold pz_body
  rw [hI]
  dsimp only
  rw [hT]
  dsimp only
  rcases hk with ⟨idx, rfl, rfl⟩ | ⟨idx, rfl, rfl⟩ | ⟨idx, rfl, rfl⟩
  · show (bif Nat.blt a 10000 then _ else _) = _
    rw [hb]
    rfl
  · rfl
  · show (bif Nat.blt a 10000 then _ else _) = _
    rw [hb]
    rfl
/-- handlers -/
def qz_ckh (ls : List Nat) (H : List (Nat × Nat × Nat × Nat)) (pc : Nat) (hs : List (Nat × Nat)) : Bool := match hs with
  | [] => true
  | x :: r => (match pz_hnd H pc x.1, ls[x.2]? with | some t, some t' => Nat.beq t t' | _, _ => false) && qz_ckh ls H pc r
theorem qz_ckh_at {H : List (Nat × Nat × Nat × Nat)} : ∀ {hs : List (Nat × Nat)} {E h : Nat}, qz_ckh ls H pc hs = true → qz_hn hs E = some h → ∃ t, pz_hnd H pc E = some t ∧ ls[h]? = some t
  | [], E, h, _, h2 => by cases h2
  | x :: r, E, h, h1, h2 => by
    unfold qz_ckh at h1
    rw [Bool.and_eq_true] at h1
    unfold qz_hn at h2
    rw [cond_eq_ite] at h2
    split at h2
    · rename_i hb
      cases h2
      have hE := Nat.eq_of_beq_eq_true hb
      subst hE
      have h3 := h1.1
      split at h3
      · rename_i t t' e1 e2
        exact ⟨t, e1, by rw [e2, Nat.eq_of_beq_eq_true h3]⟩
      · cases h3
    · exact qz_ckh_at h1.2 h2
def qz_fits (My Ma : pz_M) (n l k t : Nat) (hs : List (Nat × Nat)) : Bool := (Nat.ble (pz_mF Ma + 1) (pz_mF My) && Nat.ble (8 + (pz_mL Ma + 11) + pz_mW Ma) (pz_mW My)) && ((Nat.beq n (pz_mP Ma + (bif Nat.beq k 0 then 0 else 1)) && Nat.beq l (pz_mL Ma)) && ((Nat.beq k (pz_mK Ma) && Nat.beq t (pz_mT Ma)) && (match hs, pz_mH My with | [], [] => true | _ :: _, _ :: _ => true | _, _ => false)))
theorem ok_k {f : qz_Fn} {i : Instr} {n9 a b n l k t : Nat} {Ma : pz_M} {hs : List (Nat × Nat)} (hI : I y = some My) (hT : T y pc = some (i, n9, a, b)) (hk : qz_Cl i a k) (hIa : I a = some Ma) (hf : qz_Sd ph T I a Ma f) (hfit : qz_fits My Ma n l k t hs = true) (hh : qz_ckh ls (pz_mH My) pc hs = true) (hq : q = pc + 3) : qz_Ok ph T I y My ls pc q (qn_k f n l k t hs) := by
  intro L st μ e σ Lc h R hR hL hS hl
  unfold qz_fits at hfit
  rw [Bool.and_eq_true, Bool.and_eq_true, Bool.and_eq_true, Bool.and_eq_true, Bool.and_eq_true, Bool.and_eq_true] at hfit
  obtain ⟨⟨f1, f2⟩, ⟨f3, f4⟩, ⟨f5, f6⟩, f7⟩ := hfit
  have f3 := Nat.eq_of_beq_eq_true f3
  have f4 := Nat.eq_of_beq_eq_true f4
  have f5' := Nat.eq_of_beq_eq_true f5
  have f6 := Nat.eq_of_beq_eq_true f6
  subst f4 f6
  unfold qn_k at h
  split at h
  · cases h
  · rename_i as rest ha
    dsimp only at ha h
    obtain ⟨hc, h⟩ : ((Nat.ble (qz_wt rest) 8 && Nat.ble (qz_es as).length (pz_mL Ma)) && (Nat.beq k 0 || qz_rcv μ (pz_mT Ma) as)) = true ∧ qz_bk k hs L rest (f as μ) = some e := by
      rw [cond_eq_ite] at h
      split at h
      · rename_i hc; exact ⟨hc, h⟩
      · cases h
    rw [Bool.and_eq_true, Bool.and_eq_true] at hc
    obtain ⟨⟨c1, c2⟩, c3⟩ := hc
    obtain ⟨a1, a2, a3⟩ := qz_args_ok ha hS
    cases hx : f as μ with
    | none => rw [hx] at h; cases h
    | some r =>
      rw [hx] at h
      obtain ⟨μ1, o⟩ := r
      obtain ⟨m1, σ1, g1, g2, g3, g4⟩ := hf as μ (μ1, o) σ hx R a2 (Nat.le_of_ble_eq_true c2)
      have hfit2 : pz_fit My Ma (qz_cS ph as) (qz_cS ph rest) = true := by
        unfold pz_fit
        rw [f1, f2, qz_wt_cS, c1, qz_es_cS, List.length_map, c2]
        rfl
      have hrc : (Nat.beq k 0 || pz_rcv σ (pz_mT Ma) (qz_cS ph as)) = true := by
        rw [Bool.or_eq_true] at c3 ⊢
        exact c3.imp (fun q => q) (fun q => qz_rcv_ok R a2 q)
      have hinv : ∀ rec : pz_Rc, pz_inv I rec My y pc Lc (qz_cS ph st) σ a k = pz_back rec My y pc Lc (qz_cS ph rest) k (rec a 0 (pz_ent (qz_cS ph as) (pz_mL Ma)) [] σ) := fun rec => by
        unfold pz_inv
        rw [hIa]
        dsimp only
        rw [← f5', Nat.beq_refl]
        dsimp only [cond_true]
        rw [← f3, a1]
        dsimp only
        rw [hfit2, hrc]
        rfl
      have run : ∀ m out, (∀ rec : pz_Rc, rec a 0 (pz_ent (qz_cS ph as) (pz_mL Ma)) [] σ = some (σ1, qz_co ph o) → (∀ y pc L st σ z, pz_run T I m y pc L st σ = some z → rec y pc L st σ = some z) → pz_back rec My y pc Lc (qz_cS ph rest) k (some (σ1, qz_co ph o)) = some out) → ∃ m', pz_run T I m' y pc Lc (qz_cS ph st) σ = some out := fun m out hb => by
        refine ⟨max m1 m + 1, ?_⟩
        have e1 := qz_run_mono (Nat.le_max_left m1 m) g1
        rw [qz_run_cl hI hT hk, hinv, e1]
        exact hb _ e1 (fun y pc L st σ z hz => qz_run_mono (Nat.le_max_right m1 m) hz)
      match o, g3, h, run with
      | .inl none, g3, h, run =>
        cases h
        refine ⟨σ1, Lc, fun m out ho => run m out (fun rec _ hm => ?_), hR, g2, qz_okLn hL g4, qz_okSn a3 g4, hl, g4⟩
        show rec y (pc + 3) _ _ _ = _
        rw [← hq]
        exact hm _ _ _ _ _ _ ho
      | .inl (some v), g3, h, run =>
        cases h
        refine ⟨σ1, Lc, fun m out ho => run m out (fun rec _ hm => ?_), hR, g2, qz_okLn hL g4, qz_okS_c (g3 v rfl) (qz_okSn a3 g4), hl, g4⟩
        show rec y (pc + 3) _ _ _ = _
        rw [← hq]
        exact hm _ _ _ _ _ _ ho
      | .inr E, g3, h, run =>
        unfold qz_bk at h
        dsimp only at h
        cases h2 : Nat.beq k 2
        · rw [h2] at h
          dsimp only [cond_false] at h
          split at h
          · cases h
            have hH : pz_mH My = [] := by
              cases hH : pz_mH My with
              | nil => rfl
              | cons x r => rw [hH] at f7; cases f7
            obtain ⟨m', h'⟩ := run 0 (σ1, .inr E) (fun rec _ _ => by
              unfold pz_back
              show (bif Nat.beq k 2 then none else _) = _
              rw [h2, hH]
              rfl)
            exact ⟨m', σ1, h', g2, g3, g4⟩
          · split at h
            · rename_i hd hhd
              cases h
              obtain ⟨t, e1, e2⟩ := qz_ckh_at hh hhd
              have hn1 : qz_na μ1 ≤ qz_na (qz_al μ1 99 0 0 0 0) := Nat.le_succ _
              refine ⟨t, e2, pz_al σ1 99 0 0 0 0 (fun _ _ => none), Lc, fun m out ho => run m out (fun rec _ hm => ?_), hR, qz_Rel_al g2 _ _ _ _ _, qz_okLn hL (Nat.le_trans g4 hn1), qz_okS_c (qz_okR qz_ok_nw) qz_okS_n, hl, Nat.le_trans g4 hn1⟩
              unfold pz_back
              show (bif Nat.beq k 2 then none else _) = _
              rw [h2, e1]
              refine hm _ _ _ _ _ _ ?_
              have := ho
              rw [show qz_cS ph [(.inr (.inr (some (200, qz_na μ1, 0))) : qz_V)] = [.inr (.inr (some (σ1.1, 0)))] from congrArg (fun z => [z]) (qz_nw_cv g2)] at this
              exact this
            · cases h
        · rw [h2] at h
          cases h
/-! the JDK's own -/
theorem qz_run_bi {idx n9 a b m : Nat} {L : pz_L} {st : List pz_V} {σ : pz_S} (hI : I y = some My) (hT : T y pc = some (.invokestatic idx, n9, a, b)) (ha : Nat.blt a 10000 = false) :
    pz_run T I (m + 1) y pc L st σ = pz_bi (pz_run T I m) My y pc L st σ a := by
  rw [pz_run_s]
  unfold pz_body
  rw [hI]
  dsimp only
  rw [hT]
  show (bif Nat.blt a 10000 then _ else _) = _
  rw [ha]
  rfl
section QB
variable {rec : pz_Rc} {My : pz_M} {y pc : Nat} {L : pz_L} {q : List pz_V} {σ : pz_S}
theorem pz_bi_e0 {u v : Int32} : pz_bi rec My y pc L (.inl v :: .inl u :: q) σ 10000 = bif pz_rm My 13 q then rec y (pc + 3) L (.inl (if v < u then v else u) :: q) σ else none := by
  unfold pz_bi
  rw [show Nat.beq 10000 10000 = true from by decide]
  rfl
theorem pz_bi_e1 {u v : Int32} : pz_bi rec My y pc L (.inl v :: .inl u :: q) σ 10001 = bif pz_rm My 13 q then rec y (pc + 3) L (.inl (if u < v then v else u) :: q) σ else none := by
  unfold pz_bi
  rw [show Nat.beq 10001 10000 = false from by decide, show Nat.beq 10001 10001 = true from by decide]
  rfl
theorem pz_bi_e2 {u v : Int64} : pz_bi rec My y pc L (.inr (.inl v) :: .inr (.inl u) :: q) σ 10002 = bif pz_rm My 15 q then rec y (pc + 3) L (.inr (.inl (if v < u then u else v)) :: q) σ else none := by
  unfold pz_bi
  rw [show Nat.beq 10002 10000 = false from by decide, show Nat.beq 10002 10001 = false from by decide, show Nat.beq 10002 10002 = true from by decide]
  rfl
theorem pz_bi_e3 {n dp sp : Int32} {f g : pz_R} : pz_bi rec My y pc L (.inl n :: .inl dp :: .inr (.inr (some g)) :: .inl sp :: .inr (.inr (some f)) :: q) σ 10003 = if (pz_rm My 18 q && (pz_is σ f.1 f.2 50 && pz_is σ g.1 g.2 50)) = true ∧ ¬ sp < 0 ∧ ¬ dp < 0 ∧ ¬ n < 0 ∧ sp.toNatClampNeg + n.toNatClampNeg ≤ (pz_sh σ f.1).2.2 ∧ dp.toNatClampNeg + n.toNatClampNeg ≤ (pz_sh σ g.1).2.2 then
        rec y (pc + 3) L q (pz_wC σ g.1 g.2 (va_cpy (pz_mm σ f.1 f.2) (pz_mm σ g.1 g.2) sp.toNatClampNeg dp.toNatClampNeg n.toNatClampNeg))
      else none := by
  unfold pz_bi
  rw [show Nat.beq 10003 10000 = false from by decide, show Nat.beq 10003 10001 = false from by decide, show Nat.beq 10003 10002 = false from by decide, show Nat.beq 10003 10003 = true from by decide]
  rfl
end QB
theorem ok_m {idx n9 b W : Nat} {mx : Bool} (hI : I y = some My) (hT : T y pc = some (.invokestatic idx, n9, (bif mx then 10001 else 10000), b)) (hF : Nat.ble 1 (pz_mF My) = true) (hW : W = pz_mW My) (hq : q = pc + 3) : qz_Ok ph T I y My ls pc q (qn_m mx W) := by
  intro L st μ e σ Lc h R hR hL hS hl
  subst hW
  unfold qn_m at h
  split at h
  · rename_i v u r hst
    dsimp only at hst
    subst hst
    obtain ⟨hw, h⟩ := qz_cnd_t h (by intro q; cases q)
    cases h
    have hrm : pz_rm My 13 (qz_cS ph r) = true := by
      unfold pz_rm
      rw [hF, qz_wt_cS, hw]
      rfl
    refine ⟨σ, Lc, fun m out ho => ⟨m + 1, ?_⟩, hR, R, hL, qz_okS_c qz_okI (qz_okS_t (qz_okS_t hS)), hl, Nat.le_refl _⟩
    cases mx
    · rw [qz_run_bi hI hT rfl]
      refine (pz_bi_e0 (u := u) (v := v) (q := qz_cS ph r)).trans ?_
      rw [hrm, ← ho, hq]
      rfl
    · rw [qz_run_bi hI hT rfl]
      refine (pz_bi_e1 (u := u) (v := v) (q := qz_cS ph r)).trans ?_
      rw [hrm, ← ho, hq]
      rfl
  · cases h
theorem ok_ml {idx n9 b W : Nat} (hI : I y = some My) (hT : T y pc = some (.invokestatic idx, n9, 10002, b)) (hF : Nat.ble 1 (pz_mF My) = true) (hW : W = pz_mW My) (hq : q = pc + 3) : qz_Ok ph T I y My ls pc q (qn_ml W) := by
  intro L st μ e σ Lc h R hR hL hS hl
  subst hW
  unfold qn_ml at h
  split at h
  · rename_i v u r hst
    dsimp only at hst
    subst hst
    obtain ⟨hw, h⟩ := qz_cnd_t h (by intro q; cases q)
    cases h
    have hrm : pz_rm My 15 (qz_cS ph r) = true := by
      unfold pz_rm
      rw [hF, qz_wt_cS, hw]
      rfl
    refine ⟨σ, Lc, fun m out ho => ⟨m + 1, ?_⟩, hR, R, hL, qz_okS_c qz_okJ (qz_okS_t (qz_okS_t hS)), hl, Nat.le_refl _⟩
    rw [qz_run_bi hI hT rfl]
    refine (pz_bi_e2 (u := u) (v := v) (q := qz_cS ph r)).trans ?_
    rw [hrm, ← ho, hq]
    rfl
  · cases h
theorem ok_ac {idx n9 b W : Nat} (hI : I y = some My) (hT : T y pc = some (.invokestatic idx, n9, 10003, b)) (hF : Nat.ble 1 (pz_mF My) = true) (hW : W = pz_mW My) (hq : q = pc + 3) : qz_Ok ph T I y My ls pc q (qn_ac W) := by
  intro L st μ e σ Lc h R hR hL hS hl
  subst hW
  unfold qn_ac at h
  split at h
  · rename_i n dp g sp f r hst
    dsimp only at hst
    subst hst
    split at h
    · rename_i hc
      cases h
      obtain ⟨h1, h2⟩ := hc
      rw [Bool.and_eq_true, Bool.and_eq_true] at h1
      obtain ⟨hw, h3, h4⟩ := h1
      have hg : qz_ok ph (qz_na μ) g := qz_okS_h (qz_okS_t (qz_okS_t hS)) g rfl
      have hf : qz_ok ph (qz_na μ) f := qz_okS_h (qz_okS_t (qz_okS_t (qz_okS_t (qz_okS_t hS)))) f rfl
      have hrm : pz_rm My 18 (qz_cS ph r) = true := by
        unfold pz_rm
        rw [hF, qz_wt_cS, hw]
        rfl
      have i1 := qz_is_ok R hf h3 (by omega)
      have i2 := qz_is_ok R hg h4 (by omega)
      have m1 : pz_mm σ (qz_cr ph f).1 (qz_cr ph f).2 = qz_im μ f.1 f.2.1 f.2.2 := funext fun j => (R.2.2.2.1 f hf j).1
      have m2 : pz_mm σ (qz_cr ph g).1 (qz_cr ph g).2 = qz_im μ g.1 g.2.1 g.2.2 := funext fun j => (R.2.2.2.1 g hg j).1
      refine ⟨_, Lc, fun m out ho => ⟨m + 1, ?_⟩, hR, qz_Rel_wC R hg _, hL, qz_okS_t (qz_okS_t (qz_okS_t (qz_okS_t (qz_okS_t hS)))), hl, Nat.le_refl _⟩
      rw [qz_run_bi hI hT rfl]
      refine (pz_bi_e3 (n := n) (dp := dp) (sp := sp) (f := qz_cr ph f) (g := qz_cr ph g) (q := qz_cS ph r)).trans ?_
      rw [if_pos ⟨by rw [hrm, i1, i2]; rfl, by rw [(qz_sh_ok R hf).2, (qz_sh_ok R hg).2]; exact h2⟩, m1, m2, ← ho, hq]
    · cases h
  · cases h
theorem ok_oi {idx n9 b W : Nat} (hI : I y = some My) (hT : T y pc = some (.invokespecial idx, n9, 10004, b)) (hF : Nat.ble 1 (pz_mF My) = true) (hW : W = pz_mW My) (hq : q = pc + 3) : qz_Ok ph T I y My ls pc q (qn_oi W) := by
  intro L st μ e σ Lc h R hR hL hS hl
  subst hW
  unfold qn_oi at h
  split at h
  · rename_i f r hst
    dsimp only at hst
    subst hst
    obtain ⟨hw, h⟩ := qz_cnd_t h (by intro q; cases q)
    cases h
    have hrm : pz_rm My 12 (qz_cS ph r) = true := by
      unfold pz_rm
      rw [hF, qz_wt_cS, hw]
      rfl
    refine ⟨σ, Lc, fun m out ho => ⟨m + 1, ?_⟩, hR, R, hL, qz_okS_t hS, hl, Nat.le_refl _⟩
    rw [pz_run_s]
    unfold pz_body
    rw [hI]
    dsimp only
    rw [hT]
    show (bif pz_rm My 12 (qz_cS ph r) then _ else _) = _
    rw [hrm, ← ho, hq]
    rfl
  · cases h
end QO
