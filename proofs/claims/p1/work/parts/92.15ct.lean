/-! a run's contract, and runs by one more -/
section CT
variable {l : Launch} {T : pz_Tb} {I : pz_Ib}
theorem pz_go_le {rec : pz_Rc} {y : Nat} {σ σ1 : pz_S} {o : pz_O} {x : pz_P} (hx : ∀ pc' L' st' σ', x = some (pc', L', st', σ') → pz_le σ σ') (hr : ∀ y pc L st σ σ1 o, rec y pc L st σ = some (σ1, o) → pz_le σ σ1) (h : pz_go rec y x = some (σ1, o)) : pz_le σ σ1 := by
  unfold pz_go at h
  split at h
  · exact pz_le_tr (hx _ _ _ _ rfl) (hr _ _ _ _ _ _ _ h)
  · cases h
theorem pz_scl_le {pc pc' : Nat} {L L' : pz_L} {st st' : List pz_V} {σ σ' : pz_S} (h : pz_scl pc L st σ = some (pc', L', st', σ')) : σ' = σ ∧ L' = L := by
  unfold pz_scl at h
  repeat' split at h
  all_goals first | (cases h; exact ⟨rfl, rfl⟩) | cases h
theorem pz_scn_le {pc pc' : Nat} {L L' : pz_L} {st st' : List pz_V} {σ σ' : pz_S} (h : pz_scn pc L st σ = some (pc', L', st', σ')) : σ' = σ ∧ L' = L := by
  unfold pz_scn at h
  repeat' split at h
  all_goals first | (cases h; exact ⟨rfl, rfl⟩) | cases h
theorem pz_back_le {rec : pz_Rc} {My : pz_M} {y pc k : Nat} {L : pz_L} {rest : List pz_V} {σ σ1 : pz_S} {o : pz_O} {r : pz_Rt} (hx : ∀ σ2 o2, r = some (σ2, o2) → pz_le σ σ2) (hr : ∀ y pc L st σ σ1 o, rec y pc L st σ = some (σ1, o) → pz_le σ σ1) (h : pz_back rec My y pc L rest k r = some (σ1, o)) : pz_le σ σ1 := by
  unfold pz_back at h
  split at h
  · cases h
  · exact pz_le_tr (hx _ _ rfl) (hr _ _ _ _ _ _ _ h)
  · exact pz_le_tr (hx _ _ rfl) (hr _ _ _ _ _ _ _ h)
  · rw [cond_eq_ite] at h
    split at h
    · cases h
    · split at h
      · exact pz_le_tr (hx _ _ rfl) (pz_le_tr pz_le_al (hr _ _ _ _ _ _ _ h))
      · split at h
        · cases h
          exact hx _ _ rfl
        · cases h
theorem pz_inv_le {rec : pz_Rc} {My : pz_M} {y pc a k : Nat} {L : pz_L} {st : List pz_V} {σ σ1 : pz_S} {o : pz_O} (hr : ∀ y pc L st σ σ1 o, rec y pc L st σ = some (σ1, o) → pz_le σ σ1) (h : pz_inv I rec My y pc L st σ a k = some (σ1, o)) : pz_le σ σ1 := by
  unfold pz_inv at h
  split at h
  · cases h
  · rw [cond_eq_ite] at h
    split at h
    · split at h
      · cases h
      · rw [cond_eq_ite] at h
        split at h
        · exact pz_back_le (fun σ2 o2 h2 => hr _ _ _ _ _ _ _ h2) hr h
        · cases h
    · cases h
theorem pz_bi_le {rec : pz_Rc} {My : pz_M} {y pc a : Nat} {L : pz_L} {st : List pz_V} {σ σ1 : pz_S} {o : pz_O} (hr : ∀ y pc L st σ σ1 o, rec y pc L st σ = some (σ1, o) → pz_le σ σ1) (h : pz_bi rec My y pc L st σ a = some (σ1, o)) : pz_le σ σ1 := by
  unfold pz_bi at h
  simp only [cond_eq_ite] at h
  repeat' split at h
  all_goals first | (exact hr _ _ _ _ _ _ _ h) | (cases h; done) | skip
  rename_i hc
  simp only [Bool.and_eq_true] at hc
  exact pz_le_tr (pz_le_wC (pz_is_t hc.1.2.2 (by decide))) (hr _ _ _ _ _ _ _ h)
theorem pz_run_le (hT : pz_Tok T I) : ∀ (n y pc : Nat) (L : pz_L) (st : List pz_V) (σ σ1 : pz_S) (o : pz_O), pz_run T I n y pc L st σ = some (σ1, o) → pz_le σ σ1
  | 0, y, pc, L, st, σ, σ1, o => fun h => by rw [pz_run_0] at h; cases h
  | n + 1, y, pc, L, st, σ, σ1, o => fun h => by
    have hr := pz_run_le hT n
    rw [pz_run_s] at h
    unfold pz_body at h
    split at h
    · cases h
    · rename_i My hI
      split at h
      · cases h
      · rename_i i n9 a b hTy
        obtain ⟨⟨hd, hns, hsp⟩, -⟩ := hT.2 _ _ _ _ _ _ _ hI hTy
        rw [cond_eq_ite] at h
        split at h
        · unfold pz_spc at h
          split at h
          all_goals try (unfold pz_rtn at h; split at h <;> cases h; exact pz_le_rf)
          · rw [cond_eq_ite] at h
            split at h
            · exact pz_inv_le hr h
            · exact pz_bi_le hr h
          · exact pz_inv_le hr h
          · rw [cond_eq_ite] at h
            split at h
            · exact pz_inv_le hr h
            · unfold pz_oi at h
              split at h
              · rw [cond_eq_ite] at h
                split at h
                · exact hr _ _ _ _ _ _ _ h
                · cases h
              · cases h
          · rw [cond_eq_ite] at h
            split at h
            · exact pz_go_le (fun _ _ _ _ hs => pz_step_le (fun k hk => by cases hk) hs) hr h
            · unfold pz_thr at h
              split at h
              · rw [cond_eq_ite] at h
                split at h
                · cases h
                  exact ⟨Nat.le_refl _, ⟨Nat.le_succ _, Nat.le_add_right _ _⟩, fun _ _ => rfl, fun _ _ _ => rfl⟩
                · cases h
              · cases h
          · rw [cond_eq_ite] at h
            split at h
            · exact pz_go_le (fun _ _ _ _ hs => by rw [(pz_scl_le hs).1]; exact pz_le_rf) hr h
            · exact pz_go_le (fun _ _ _ _ hs => pz_step_le (fun k hk => by cases hk) hs) hr h
          · rw [cond_eq_ite] at h
            split at h
            · exact pz_go_le (fun _ _ _ _ hs => by rw [(pz_scn_le hs).1]; exact pz_le_rf) hr h
            · exact pz_go_le (fun _ _ _ _ hs => pz_step_le (fun k hk => by cases hk) hs) hr h
          · cases h
        · rename_i hf
          exact pz_go_le (fun _ _ _ _ hs => pz_step_le (hns (by cases hq : pz_sp i; rfl; exact absurd hq hf)).2.2 hs) hr h
theorem pz_ct_ok {n a : Nat} {Ma : pz_M} {as : List pz_V} {σ σ1 : pz_S} {o : pz_O} (hT : pz_Tok T I) (G : pz_Gl) (hst : l.stackTraces = false) (hS : pz_Snd l T I n) (hI : I a = some Ma) (ha : a ≠ 632) (hfit : (pz_es as).length ≤ pz_mL Ma) (h : pz_run T I n a 0 (pz_ent as (pz_mL Ma)) [] σ = some (σ1, o)) : pz_Ct l Ma as σ σ1 o := by
  intro D ad ws tys sz hwd hok
  obtain ⟨hMok, hhok⟩ := hT.1 _ _ hI
  have hMok := hMok ha
  have hle := pz_run_le hT _ _ _ _ _ _ _ _ h
  have main : ∀ (p : Program) (e : Env) (s : State) (m : MethodId) (args : Array Value) (below : List Frame) (meth : Method) (c : Code) (s₁ : State) (Rm : Room), Rm = pz_Rm Ma (pz_kc σ1 - pz_kc σ) (pz_ks σ1 - pz_ks σ) → BodyLoose p l (pz_mN Ma) (headSpec (pz_ws Ma) Rm) (pz_mB Ma) (pz_mL Ma) (pz_mR Ma) e s m args below meth c s₁ → c.maxLocals = pz_mL Ma → c.exceptionTable.toList = tableOf (pz_mH Ma) → va_Pc (as.map (pz_cv ad)) (pz_Bp D ws tys sz) args s →
      W p l e Rm s m args below meth c s.heap [] 0 0 (vx_MQ below (pz_Qc D (va_A ws sz) σ.1 ad σ1 o) (pz_Xc D (va_A ws sz) σ.1 ad σ1 o) args s (pz_kc σ1 - pz_kc σ) (pz_ks σ1 - pz_ks σ) (va_A ws sz)) (entryFrame m args (pz_mL Ma)) := by
    intro p e s m args below meth c s₁ Rm hRm B hml htab hP
    obtain ⟨rfl, hsz, hP, hK, hD, hF⟩ := hP
    have hpre : ∀ w ∈ wsL_law, w.before ((as.map (pz_cv ad)).toArray) s = true := fun w hw => atoms_spec (ws := pz_ws Ma) B.pre w (by unfold pz_ws; exact List.mem_cons_of_mem _ hw)
    have hA : ∀ q, s.heap.size ≤ q → va_A ws sz q := fun q hq => Or.inr (by omega)
    have hC : pz_Cx l p Rm s m ((as.map (pz_cv ad)).toArray) meth c (va_A ws sz) Ma :=
      ⟨hst, B.exec, B.bytes, hml, findClass_of_methodNamed B.named, hpre, hA, hF, B.returns, B.notSynchronized, by rw [hRm]; exact Nat.le_refl _, by rw [hRm]; exact Nat.le_refl _, htab, fun hk => by
        obtain ⟨-, hc, hn, -, -⟩ := hMok.2.2.2.2.2.2.2 hk
        refine ⟨?_, hc⟩
        rw [← hn]
        exact (name_of_methodNamed B.named B.method).1⟩
    rw [lg_entry_eq]
    have hcap : pz_kc σ1 ≤ pz_kc σ + Rm.cells ∧ pz_ks σ1 ≤ pz_ks σ + Rm.slots := by
      rw [hRm]
      exact ⟨by show _ ≤ pz_kc σ + (pz_kc σ1 - pz_kc σ); omega, by show _ ≤ pz_ks σ + (pz_ks σ1 - pz_ks σ); omega⟩
    exact hS p e Rm s m _ below meth c _ D (va_A ws sz) (pz_kc σ) (pz_ks σ) σ.1 ad a Ma σ1 o 0 (pz_ent as (pz_mL Ma)) [] σ ⟨hI, hC, hcap, pz_ret_ok hC, pz_thr_ok G hst hC hcap, pz_out_ok hC⟩ (pz_ent_len hfit) (Nat.le_refl _) (fun h => absurd h ha) h
      ad _ s.heap [] 0 0 pz_ag_rf ⟨ws, tys, hK, hP, hD.self, va_S.rf, hwd, rfl, rfl⟩ (pz_ent_lr hfit) (pz_ent_ok hok) (fun v hv => by cases hv)
  cases hH : pz_mH Ma with
  | nil =>
    refine vx_ofW (cc := pz_mB Ma) (maxL := pz_mL Ma) (ret := pz_mR Ma) (ws' := wsL_law) hMok.1.1 (by unfold pz_ws; rw [hH]) ?_
    intro p e s m args below meth c s₁ B hml htab hP
    refine main p e s m args below meth c s₁ _ rfl B hml ?_ hP
    rw [hH]
    show _ = []
    exact List.eq_nil_iff_forall_not_mem.mpr htab
  | cons h9 r9 =>
    refine vx_ofWH (cc := pz_mB Ma) (maxL := pz_mL Ma) (ret := pz_mR Ma) (hh := pz_mH Ma) (ws' := wsL_law) hMok.1.1 (by unfold pz_ws; rw [hH]) ?_
    intro p e s m args below meth c s₁ B hml hP
    refine main p e s m args below meth c s₁ _ rfl B hml ?_ hP
    exact vx_table (x := pz_mN Ma) B (bytes := pz_mB Ma) (maxL' := pz_mL Ma) (ret' := pz_mR Ma) (atoms_spec (ws := pz_ws Ma) B.pre _ (by unfold pz_ws; rw [hH]; exact List.mem_cons_self))
end CT
