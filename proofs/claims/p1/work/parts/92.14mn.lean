/-! THE PURE MACHINE'S RUNS ARE THE MACHINE'S: whole bodies. -/
theorem pz_kill_le (L : pz_L) (i : Nat) : (pz_kill L i).length = L.length := pz_kill_len L i
section PM2
variable {σ σ' : pz_S} {L L' : pz_L} {st st' : List pz_V} {pc pc' : Nat}
theorem pz_st1_len (L : pz_L) (i : Nat) (v : pz_V) : (pz_st1 L i v).length = L.length := by unfold pz_st1; rw [List.length_set, pz_kill_len]
theorem pz_st2_len (L : pz_L) (i : Nat) (v : pz_V) : (pz_st2 L i v).length = L.length := by unfold pz_st2; rw [List.length_set, List.length_set, pz_kill_len]
set_option maxHeartbeats 4000000 in
theorem pz_step_len {fin : Bool} {i : Instr} {a b : Nat} (hs : pz_step fin i a b pc L st σ = some (pc', L', st', σ')) : L'.length = L.length := by
  unfold pz_step at hs
  split at hs
  all_goals try (simp only [pz_push, pz_ldi, pz_ldl, pz_lda, pz_sti, pz_sta, pz_stl, pz_inc, pz_bin, pz_dv, pz_lbin, pz_ldv, pz_un, pz_if, pz_ic, pz_br, pz_sw, pz_get, pz_put, pz_ilo, pz_llo, pz_alo, pz_isto, pz_bsto, pz_lsto, pz_asto, pz_len, pz_newa, pz_mnew, pz_new, pz_dup, pz_pop, pz_dupx1, pz_dupx2, pz_dup2, cond_eq_ite] at hs)
  all_goals repeat' split at hs
  all_goals first | cases hs; done | (cases hs; first | rfl | exact pz_st1_len _ _ _ | exact pz_st2_len _ _ _)
end PM2
def pz_thrF (own : String) (cc : ByteArray) (pc E : Nat) : Prop := own = RX11 ∧ pz_isE E ∧ decode cc pc = .ok (.new (pz_tix E).1, 3) ∧ decode cc (pc + 3) = .ok (.dup, 1) ∧ decode cc (pc + 4) = .ok (.ldc_w (pz_tix E).2.1, 3) ∧ decode cc (pc + 7) = .ok (.invokespecial (pz_tix E).2.2, 3) ∧ decode cc (pc + 10) = .ok (.athrow, 1)
/-- what is known of a row of the table -/
def pz_Row (I : pz_Ib) (M : pz_M) (pc : Nat) (i : Instr) (n a b : Nat) : Prop := decode (pz_mB M) pc = .ok (i, n) ∧ (pz_sp i = false → pz_lk (pz_mN M).cls i a b ∧ (n = pz_il i ∨ ∃ d lo hi offs, i = .tableswitch d lo hi offs) ∧ ∀ k, i = .putfield k → a ≠ 60) ∧
  match i with
  | .ireturn | .lreturn | .areturn | .return_ | .iaload | .arraylength => n = 1
  | .invokestatic idx => n = 3 ∧ (∀ Ma, a < 10000 → I a = some Ma → pz_lkV (pz_mN M).cls idx 0 (pz_mN Ma) ∧ a ≠ 632) ∧ (a = 10000 → Cond.methodLink (pz_mN M).cls idx Lib.Math.min.name ∈ wsL_law) ∧ (a = 10001 → Cond.methodLink (pz_mN M).cls idx Lib.Math.max.name ∈ wsL_law) ∧
      (a = 10002 → Cond.methodLink (pz_mN M).cls idx Lib.MathLoose.max_long.x ∈ wsL_law) ∧ (a = 10003 → Cond.methodLink (pz_mN M).cls idx arraycopyName ∈ wsL_law)
  | .invokevirtual idx => n = 3 ∧ ∀ Ma, I a = some Ma → pz_lkV (pz_mN M).cls idx 1 (pz_mN Ma) ∧ a ≠ 632
  | .invokespecial idx => n = 3 ∧ (∀ Ma, a < 10000 → I a = some Ma → pz_lkV (pz_mN M).cls idx 2 (pz_mN Ma) ∧ a ≠ 632) ∧ (10000 ≤ a → Cond.methodLink (pz_mN M).cls idx Lib.objectInit ∈ wsL_law)
  | .new idx => n = 3 ∧ (a < 100 → pz_lk (pz_mN M).cls (.new idx) a b) ∧ (100 ≤ a → pz_thrF (pz_mN M).cls (pz_mB M) pc (a - 100))
  | _ => True
def pz_hok (M : pz_M) : Prop := ∀ h ∈ pz_mH M, (pz_mN M).cls ≠ RX11 ∧ pz_isE h.2.2.2 ∧ Cond.classLink (pz_mN M).cls h.2.2.2 (pz_exn h.2.2.2) ∈ wsL_law
def pz_Tok (T : pz_Tb) (I : pz_Ib) : Prop := (∀ y M, I y = some M → (y ≠ 632 → pz_Mok M) ∧ pz_hok M) ∧ ∀ y M pc i n a b, I y = some M → T y pc = some (i, n, a, b) → pz_Row I M pc i n a b ∧ (y ≠ 632 → (i = .iaload ∨ i = .arraylength) → a ≠ 60)
abbrev pz_sup : List String := ["java/lang/RuntimeException", "java/lang/Exception"]
/-- words of all methods -/
def pz_Gl : Prop := (Cond.arrayClass .int ∈ wsL_law ∧ Cond.arrayClass .long ∈ wsL_law ∧ Cond.arrayClass .boolean ∈ wsL_law) ∧
  (Cond.static Lib.Math.min.name ∈ wsL_law ∧ Cond.static Lib.Math.max.name ∈ wsL_law ∧ Cond.static Lib.MathLoose.max_long.x ∈ wsL_law ∧ Cond.initialized "java/lang/Math" ∈ wsL_law ∧ Cond.code Lib.Math.min.name Lib.Math.min.code 2 (some .int) ∈ wsL_law ∧ Cond.code Lib.Math.max.name Lib.Math.max.code 2 (some .int) ∈ wsL_law ∧ Cond.code Lib.MathLoose.max_long.x Lib.MathLoose.max_long.code 4 (some .long) ∈ wsL_law) ∧
  (Cond.native arraycopyName ∈ wsL_law ∧ Cond.static arraycopyName ∈ wsL_law ∧ Cond.initialized "java/lang/System" ∈ wsL_law) ∧
  (Cond.instanceMethod Lib.objectInit ∈ wsL_law ∧ Cond.code Lib.objectInit ⟨#[0xb1]⟩ 1 none ∈ wsL_law) ∧
  ∀ E, pz_isE E → Bundle.fit (pz_exn E) = true ∧ Cond.classLink RX11 (pz_tix E).1 (pz_exn E) ∈ wsL_law ∧ Cond.initialized (pz_exn E) ∈ wsL_law ∧ (∀ w ∈ (vx_atS RX11 (pz_tix E).2.2 (pz_exn E) pz_sup).filter goodWord, w ∈ wsL_law) ∧
    (∀ w ∈ (vx_atS RX11 (pz_tix E).2.2 (pz_exn E) pz_sup).filter (fun w => !goodWord w), w ∈ [Cond.castable (pz_exn E) (pz_exn E), Cond.declares (Bundle.initS "java/lang/RuntimeException"), Cond.declares (Bundle.initS "java/lang/Exception"), Cond.declares (Bundle.initS Bundle.tN)]) ∧
    ∀ w ∈ Cond.classLink RX11 (pz_tix E).1 (pz_exn E) :: Cond.initialized (pz_exn E) :: vx_atS RX11 (pz_tix E).2.2 (pz_exn E) pz_sup, vx_ot w = true
theorem pz_sup_fit : ∀ n ∈ pz_sup, Bundle.fit n = true := by decide +kernel
/-! a callee's locals -/
theorem pz_es_map (ad : pz_R → Nat) : ∀ as : List pz_V, (lg_sl (as.map (pz_cv ad))).length = (pz_es as).length ∧ ∀ (i : Nat) (v : pz_V), (pz_es as).getD i none = some v → (lg_sl (as.map (pz_cv ad)))[i]? = some (.val (pz_cv ad v))
  | [] => ⟨rfl, fun i v h => by simp [pz_es] at h⟩
  | v :: as => by
    obtain ⟨h1, h2⟩ := pz_es_map ad as
    have hc : ((pz_cv ad v).category = 2) = (pz_c2 v = true) := by
      rw [pz_cat]
      rcases v with x | x | r <;> simp [pz_w1, pz_c2]
    have e1 : pz_es (v :: as) = (bif pz_c2 v then [some v, none] else [some v]) ++ pz_es as := rfl
    have e2 : lg_sl ((v :: as).map (pz_cv ad)) = (if (pz_cv ad v).category = 2 then [.val (pz_cv ad v), .second] else [.val (pz_cv ad v)]) ++ lg_sl (as.map (pz_cv ad)) := rfl
    cases hv : pz_c2 v
    · rw [e1, e2, if_neg (by rw [hc, hv]; decide), hv]
      refine ⟨by simp [h1], fun i w hw => ?_⟩
      cases i with
      | zero => simp at hw; simp [hw]
      | succ i => simp at hw; simpa using h2 i w (by simpa using hw)
    · rw [e1, e2, if_pos (by rw [hc, hv]), hv]
      refine ⟨by simp [h1], fun i w hw => ?_⟩
      match i, hw with
      | 0, hw => simp at hw; simp [hw]
      | 1, hw => simp at hw
      | i + 2, hw => simp at hw; simpa using h2 i w (by simpa using hw)
theorem pz_ent_lr {ad : pz_R → Nat} {as : List pz_V} {n : Nat} (h : (pz_es as).length ≤ n) : pz_lr ad ((lg_sl (as.map (pz_cv ad)) ++ List.replicate (n - (lg_sl (as.map (pz_cv ad))).length) Slot.unset).toArray) (pz_ent as n) := by
  obtain ⟨h1, h2⟩ := pz_es_map ad as
  obtain ⟨a1, a2, -⟩ := lv_entry (as.map (pz_cv ad)) (n := n) (by rw [h1]; exact h)
  refine ⟨by rw [a1]; unfold pz_ent; simp; omega, a2, fun i v hv => ?_⟩
  unfold pz_ent at hv
  rw [List.getD_eq_getElem?_getD] at hv
  by_cases hi : i < (pz_es as).length
  · rw [List.getElem?_append_left hi, ← List.getD_eq_getElem?_getD] at hv
    have := h2 i v hv
    rw [List.getElem?_toArray, List.getElem?_append_left (by rw [h1]; exact hi)]
    exact this
  · rw [List.getElem?_append_right (by omega), List.getElem?_replicate] at hv
    split at hv <;> cases hv
theorem pz_ent_ok {n k : Nat} {as : List pz_V} (h : pz_okS n as) : pz_okL n (pz_ent as k) := by
  intro i v hv
  unfold pz_ent at hv
  rw [List.getD_eq_getElem?_getD] at hv
  by_cases hi : i < (pz_es as).length
  · rw [List.getElem?_append_left hi] at hv
    have hm : some v ∈ pz_es as := by
      cases hg : (pz_es as)[i]? with
      | none => rw [hg] at hv; cases hv
      | some z =>
        rw [hg] at hv
        have := List.mem_of_getElem? hg
        rw [show z = some v from hv] at this
        exact this
    unfold pz_es at hm
    obtain ⟨w, hw, hz⟩ := List.mem_flatMap.mp hm
    cases hc : pz_c2 w <;> rw [hc] at hz <;> simp at hz <;> exact hz ▸ h w hw
  · rw [List.getElem?_append_right (by omega), List.getElem?_replicate] at hv
    split at hv <;> cases hv
theorem pz_ent_len {as : List pz_V} {n : Nat} (h : (pz_es as).length ≤ n) : (pz_ent as n).length = n := by unfold pz_ent; simp; omega
/-! what a body owes at its ends -/
/-- what law reads: a script array -/
def pz_Sc (s : State) (A : Nat → Prop) (n0 : Nat) (ad0 : pz_R → Nat) (σ : pz_S) : Prop := ∃ (b len : Nat) (xs : Nat → Int32), va_X b len xs s s.heap ∧ b < s.heap.size ∧ ¬ A b ∧ 0 < n0 ∧ ad0 (0, 0) = b ∧ 0 < σ.1 ∧ pz_sh σ 0 = (60, 1, len) ∧ pz_mm σ 0 0 = xs
theorem pz_Sc_le {s : State} {A : Nat → Prop} {n0 : Nat} {ad0 : pz_R → Nat} {σ σ' : pz_S} (h : pz_Sc s A n0 ad0 σ) (hl : pz_le σ σ') : pz_Sc s A n0 ad0 σ' := by
  obtain ⟨b, len, xs, h1, h2, h3, h4, h5, h6, h7, h8⟩ := h
  obtain ⟨l1, -, l3, l4⟩ := hl
  exact ⟨b, len, xs, h1, h2, h3, h4, h5, Nat.lt_of_lt_of_le h6 l1, by rw [l3 0 h6, h7], by rw [l4 0 h6 (by rw [h7]), h8]⟩
section PE
variable (p : Program) (l : Launch) (e : Env) (R : Room) (s : State) (m : MethodId) (args : Array Value) (below : List Frame) (meth : Method) (c : Code) (Q : State → Prop)
variable (D : va_G) (A : Nat → Prop) (kc0 ks0 n0 : Nat) (ad0 : pz_R → Nat) (T : pz_Tb) (I : pz_Ib) (y : Nat) (My : pz_M) (σ1 : pz_S) (o : pz_O)
def pz_Hr : Prop := ∀ (i : Instr) (pc : Nat) (L : pz_L) (st : List pz_V) (v : Option pz_V), decode (pz_mB My) pc = .ok (i, 1) → pz_rt i My st = some v → o = .inl v → pz_W p l e R s m args below meth c Q D A kc0 ks0 n0 ad0 (pc) (L) (st) (σ1)
def pz_Hx : Prop := ∀ (pc : Nat) (L : pz_L) (st : List pz_V) (σ : pz_S) (E : Nat), pz_thrF (pz_mN My).cls (pz_mB My) pc E → pz_thr My L st σ E = some (σ1, o) → n0 ≤ σ.1 → pz_W p l e R s m args below meth c Q D A kc0 ks0 n0 ad0 (pc) (L) (st) (σ)
def pz_Ho : Prop := ∀ (E pc : Nat) (ad : pz_R → Nat) (ls : Array Slot) (H : Heap) (locs : List Loc) (cells slots : Nat) (rest : List Value) (ce : Cell) (q : Nat), o = .inr E → pz_isE E → pz_mH My = [] → n0 ≤ σ1.1 → pz_ag n0 ad0 ad → pz_E D s A kc0 ks0 ad σ1 H locs cells slots →
  H[q]? = some ce → ce.vm = .none → s.vm.findClass (pz_exn E) = some ce.cls → vx_W p l e R s m args below meth c H locs cells slots Q (F0 m pc ls rest) q
def pz_Hy : Prop := I y = some My ∧ pz_Cx l p R s m args meth c A My ∧ (pz_kc σ1 ≤ kc0 + R.cells ∧ pz_ks σ1 ≤ ks0 + R.slots) ∧ pz_Hr p l e R s m args below meth c Q D A kc0 ks0 n0 ad0 My σ1 o ∧ pz_Hx p l e R s m args below meth c Q D A kc0 ks0 n0 ad0 My σ1 o ∧ pz_Ho p l e R s m args below meth c Q D A kc0 ks0 n0 ad0 My σ1 o
end PE
/-- runs of n are the machine's -/
def pz_Snd (l : Launch) (T : pz_Tb) (I : pz_Ib) (n : Nat) : Prop := ∀ (p : Program) (e : Env) (R : Room) (s : State) (m : MethodId) (args : Array Value) (below : List Frame) (meth : Method) (c : Code) (Q : State → Prop) (D : va_G) (A : Nat → Prop) (kc0 ks0 n0 : Nat) (ad0 : pz_R → Nat) (y : Nat) (My : pz_M) (σ1 : pz_S) (o : pz_O) (pc : Nat) (L : pz_L) (st : List pz_V) (σ : pz_S),
  pz_Hy p l e R s m args below meth c Q D A kc0 ks0 n0 ad0 I y My σ1 o → L.length = pz_mL My → n0 ≤ σ.1 → (y = 632 → pz_Sc s A n0 ad0 σ) → pz_run T I n y pc L st σ = some (σ1, o) → pz_W p l e R s m args below meth c Q D A kc0 ks0 n0 ad0 (pc) (L) (st) (σ)
/-! a callee's ends -/
section PD
variable {p : Program} {l : Launch} {e : Env} {R : Room} {s : State} {m : MethodId} {args : Array Value} {below : List Frame} {meth : Method} {c : Code} {Q : State → Prop}
variable {D : va_G} {A : Nat → Prop} {kc0 ks0 n0 : Nat} {ad0 : pz_R → Nat}
variable {σ σ1 : pz_S} {L : pz_L} {st as rest : List pz_V} {pc : Nat} {o : pz_O} {My Ma : pz_M}
theorem pz_endQ {ad : pz_R → Nat} {H : Heap} {locs : List Loc} {cells slots : Nat} {t : State} (E : pz_E D s A kc0 ks0 ad σ1 H locs cells slots) (ha : pz_ag n0 ad0 ad) (ht : t.heap = H) (hW : s.vm.Alike t.vm) : pz_En D A n0 ad0 σ1 ad t ∧ va_F A s t := by
  obtain ⟨ws, tys, hK, hP, hD, hS, hwd, -, -⟩ := E
  exact ⟨⟨ha, ws, tys, by rw [ht]; exact hP, va_K.moved hW hK, hD, hwd⟩, va_S.F hS ht⟩
theorem pz_ret_ok (C : pz_Cx l p R s m args meth c A My) : pz_Hr p l e R s m args below meth c (vx_MQ below (pz_Qc D A n0 ad0 σ1 o) (pz_Xc D A n0 ad0 σ1 o) args s (pz_kc σ1 - kc0) (pz_ks σ1 - ks0) A) D A kc0 ks0 n0 ad0 My σ1 o := by
  intro i pc L st v hd hv ho ad ls H locs cells slots ha E hl hL hS
  obtain ⟨hst, hx, hb, hml, hown, hts, hA, hF, hret, hlk, -⟩ := C
  have hkc : pz_kc σ1 - kc0 = cells := by obtain ⟨_, _, _, _, _, _, _, h, _⟩ := E; omega
  have hks : pz_ks σ1 - ks0 = slots := by obtain ⟨_, _, _, _, _, _, _, _, h⟩ := E; omega
  have hlc : ∀ q ∈ locs, A q.base := by obtain ⟨_, _, _, _, _, h, _⟩ := E; exact h.2.2
  have hq : ∀ w : Option pz_V, v = w → (∀ x, w = some x → pz_ok σ1.1 x) → ∀ t : State, t.heap = H → s.WarmedH t.vm → pz_Qc D A n0 ad0 σ1 o args s (.returned (w.map (pz_cv ad))) t := fun w hw hx t h1 h2 => by
    obtain ⟨e1, e2⟩ := pz_endQ E ha h1 h2.alike
    exact ⟨⟨ad, w, by rw [ho, hw], rfl, hx, e1⟩, e2⟩
  rw [hkc, hks]
  refine vx_ret ?_
  unfold pz_rt at hv
  split at hv
  · split at hv
    · rename_i x
      split at hv
      · rename_i hr
        cases hv
        have hq2 := hq _ rfl (fun y hy => by cases hy; trivial)
        rcases hr with hr | ⟨hr, hx01⟩
        · exact W.iret hx hb (hret.trans hr) hq2 hlc hd hlk
        · exact W.zret hx hb (hret.trans hr) (by rcases hx01 with rfl | rfl <;> rfl) hq2 hlc hd hlk
      · cases hv
    · cases hv
  · split at hv
    · rename_i x
      split at hv
      · rename_i hr
        cases hv
        exact W.lret hx hb (hret.trans hr) (hq _ rfl (fun y hy => by cases hy; trivial)) hlc hd hlk
      · cases hv
    · cases hv
  · split at hv
    · rename_i x
      split at hv
      · rename_i rt hr
        split at hv
        · rename_i hk
          cases hv
          have hrt : (∃ n, rt = .object n) ∨ ∃ t, rt = .array t := by
            cases rt <;> simp [pz_kd] at hk
            · exact Or.inl ⟨_, rfl⟩
            · exact Or.inr ⟨_, rfl⟩
          exact W.aret hx hb (hret.trans hr) hrt (by cases x; exact Or.inl rfl; exact Or.inr ⟨_, rfl⟩) (hq _ rfl (fun y hy => by cases hy; exact hS _ List.mem_cons_self)) hlc hd hlk
        · cases hv
      · cases hv
    · cases hv
  · split at hv
    · split at hv
      · rename_i hr
        cases hv
        exact W.vret hx hb (hret.trans hr) (hq _ rfl (fun y hy => by cases hy)) hlc hd hlk
      · cases hv
    · cases hv
  · cases hv
theorem pz_thr_ok (G : pz_Gl) (hst : l.stackTraces = false) (C : pz_Cx l p R s m args meth c A My) (hcap : pz_kc σ1 ≤ kc0 + R.cells ∧ pz_ks σ1 ≤ ks0 + R.slots) : pz_Hx p l e R s m args below meth c (vx_MQ below (pz_Qc D A n0 ad0 σ1 o) (pz_Xc D A n0 ad0 σ1 o) args s (pz_kc σ1 - kc0) (pz_ks σ1 - ks0) A) D A kc0 ks0 n0 ad0 My σ1 o := by
  intro pc L st σ E hF hthr hn0 ad ls H locs cells slots ha hE hl hL hS
  obtain ⟨hst, hx, hb, hml, hown, hts, hA, hFs, hret, hlk, hfr, hlo, htab, -⟩ := C
  obtain ⟨hcl, hisE, d0, d3, d4, d7, d10⟩ := hF
  obtain ⟨⟨f1, f2, f3, f4⟩, f5, f6, f9, f7, f8⟩ := hFs
  obtain ⟨hca, sa, hstr⟩ := f5 E hisE
  obtain ⟨g1, g2, g3, g4, g5, g6⟩ := G.2.2.2.2 E hisE
  unfold pz_thr at hthr
  split at hthr
  · rename_i hH
    rw [cond_eq_ite] at hthr
    split at hthr
    · rename_i hc
      simp only [Bool.and_eq_true] at hc
      obtain ⟨c1, c2, c3⟩ := hc
      have c1 := Nat.le_of_ble_eq_true c1
      have c2 := Nat.le_of_ble_eq_true c2
      have c3 := Nat.eq_of_beq_eq_true c3
      cases hthr
      obtain ⟨ws, tys, hK, hP, hD, hVS, hwd, hk1, hk2⟩ := hE
      have hkc : pz_kc σ + 1 - kc0 = cells + 1 := by omega
      have hks : pz_ks σ + 6 - ks0 = slots + 6 := by omega
      have hcap1 : pz_kc σ + 1 ≤ kc0 + R.cells := hcap.1
      have hcap2 : pz_ks σ + 6 ≤ ks0 + R.slots := hcap.2
      have hno : ∀ x ∈ c.exceptionTable.toList, covers x (pc + 10) = false := by
        rw [htab, hH]
        intro x hx9
        cases hx9
      refine vx_throwSW (names := pz_sup) (cls := pz_exn E) (text := pz_ext E) (ik := (pz_tix E).1) (is := (pz_tix E).2.1) (ic := (pz_tix E).2.2) (sa := sa) (own := RX11) (cc := pz_mB My) (A := A) hx hb hst (by rw [← hcl]; exact hown) g1 pz_sup_fit (hts _ g2) (hts _ g3) hstr
        (vx_hat (fun w hw => hts _ (g4 w hw)) g5 (vx_c (va_Nw.use rfl hca) (vx_c (va_Nw.use rfl (f9 _ (by simp [pz_dcl]))) (vx_c (va_Nw.use rfl (f9 _ (by simp [pz_dcl]))) (vx_c (va_Nw.use rfl (f9 _ (by simp [pz_dcl]))) vx_n))))) g6 f7 f8 hVS (by rw [hml]; exact hl.1.trans c3) d0 d3 d4 d7 d10 hno (by show 2 + 3 < R.frames; omega) (by rw [pz_wt_map]; show _ + 82 ≤ _; omega) (by omega) (by omega) hlk ?_ hVS.2.2 (by show cells + 1 ≤ pz_kc σ + 1 - kc0; omega) (by show slots + 6 ≤ pz_ks σ + 6 - ks0; omega)
      intro t hal hsz hkp
      have hP1 : va_P D pz_cls ws t.heap := va_P.kept hP (fun k q hk => hkp _ (vx_lt hP hk))
      refine ⟨⟨ad, E, rfl, hisE, rfl, ha, ws, tys, hP1, va_K.moved hal hK, hD, hwd⟩, Nat.le_trans hVS.1 hsz, fun q h1 h2 => ?_⟩
      rw [hkp q (Nat.lt_of_lt_of_le h1 hVS.1)]
      exact hVS.2.1 q h1 h2
    · cases hthr
  · cases hthr
theorem pz_out_ok (C : pz_Cx l p R s m args meth c A My) : pz_Ho p l e R s m args below meth c (vx_MQ below (pz_Qc D A n0 ad0 σ1 o) (pz_Xc D A n0 ad0 σ1 o) args s (pz_kc σ1 - kc0) (pz_ks σ1 - ks0) A) D A kc0 ks0 n0 ad0 My σ1 o := by
  intro E pc ad ls H locs cells slots rest ce q ho hisE hH hn0 ha hE hce hcv hcl
  obtain ⟨hst, hx, hb, hml, hown, hts, hA, hFs, hret, hlk, hfr, hlo, htab, -⟩ := C
  have hkc : pz_kc σ1 - kc0 = cells := by obtain ⟨_, _, _, _, _, _, _, h, _⟩ := hE; omega
  have hks : pz_ks σ1 - ks0 = slots := by obtain ⟨_, _, _, _, _, _, _, _, h⟩ := hE; omega
  have hlc : ∀ q ∈ locs, A q.base := by obtain ⟨_, _, _, _, _, h, _⟩ := hE; exact h.2.2
  refine vx_out (E := pz_exn E) (by rw [htab, hH]; intro x hx9; cases hx9) hlk hce hcv hcl (fun t ht hal => ?_) hlc (Nat.le_of_eq hkc.symm) (Nat.le_of_eq hks.symm)
  obtain ⟨e1, e2⟩ := pz_endQ hE ha ht hal
  exact ⟨⟨ad, E, ho, hisE, rfl, e1⟩, e2⟩
end PD

/-! a run's contract, and runs by one more -/
section CT
variable {l : Launch} {T : pz_Tb} {I : pz_Ib}
theorem pz_go_le {rec : pz_Rc} {y : Nat} {σ σ1 : pz_S} {o : pz_O} {x : pz_P} (hx : ∀ pc' L' st' σ', x = some (pc', L', st', σ') → pz_le σ σ') (hr : ∀ y pc L st σ σ1 o, rec y pc L st σ = some (σ1, o) → pz_le σ σ1) (h : pz_go rec y x = some (σ1, o)) : pz_le σ σ1 := by
  unfold pz_go at h
  split at h
  · exact pz_le_tr (hx _ _ _ _ rfl) (hr _ _ _ _ _ _ _ h)
  · cases h
theorem pz_scl_le {pc pc' : Nat} {L L' : pz_L} {st st' : List pz_V} {σ σ' : pz_S} (h : pz_scl pc L st σ = some (pc', L', st', σ')) : σ' = σ ∧ L' = L := by
  unfold pz_scl at h
  repeat' split at h
  all_goals first | (cases h; exact ⟨rfl, rfl⟩) | cases h
theorem pz_scn_le {pc pc' : Nat} {L L' : pz_L} {st st' : List pz_V} {σ σ' : pz_S} (h : pz_scn pc L st σ = some (pc', L', st', σ')) : σ' = σ ∧ L' = L := by
  unfold pz_scn at h
  repeat' split at h
  all_goals first | (cases h; exact ⟨rfl, rfl⟩) | cases h
theorem pz_back_le {rec : pz_Rc} {My : pz_M} {y pc k : Nat} {L : pz_L} {rest : List pz_V} {σ σ1 : pz_S} {o : pz_O} {r : pz_Rt} (hx : ∀ σ2 o2, r = some (σ2, o2) → pz_le σ σ2) (hr : ∀ y pc L st σ σ1 o, rec y pc L st σ = some (σ1, o) → pz_le σ σ1) (h : pz_back rec My y pc L rest k r = some (σ1, o)) : pz_le σ σ1 := by
  unfold pz_back at h
  split at h
  · cases h
  · exact pz_le_tr (hx _ _ rfl) (hr _ _ _ _ _ _ _ h)
  · exact pz_le_tr (hx _ _ rfl) (hr _ _ _ _ _ _ _ h)
  · rw [cond_eq_ite] at h
    split at h
    · cases h
    · split at h
      · exact pz_le_tr (hx _ _ rfl) (pz_le_tr pz_le_al (hr _ _ _ _ _ _ _ h))
      · split at h
        · cases h
          exact hx _ _ rfl
        · cases h
theorem pz_inv_le {rec : pz_Rc} {My : pz_M} {y pc a k : Nat} {L : pz_L} {st : List pz_V} {σ σ1 : pz_S} {o : pz_O} (hr : ∀ y pc L st σ σ1 o, rec y pc L st σ = some (σ1, o) → pz_le σ σ1) (h : pz_inv I rec My y pc L st σ a k = some (σ1, o)) : pz_le σ σ1 := by
  unfold pz_inv at h
  split at h
  · cases h
  · rw [cond_eq_ite] at h
    split at h
    · split at h
      · cases h
      · rw [cond_eq_ite] at h
        split at h
        · exact pz_back_le (fun σ2 o2 h2 => hr _ _ _ _ _ _ _ h2) hr h
        · cases h
    · cases h
theorem pz_bi_le {rec : pz_Rc} {My : pz_M} {y pc a : Nat} {L : pz_L} {st : List pz_V} {σ σ1 : pz_S} {o : pz_O} (hr : ∀ y pc L st σ σ1 o, rec y pc L st σ = some (σ1, o) → pz_le σ σ1) (h : pz_bi rec My y pc L st σ a = some (σ1, o)) : pz_le σ σ1 := by
  unfold pz_bi at h
  simp only [cond_eq_ite] at h
  repeat' split at h
  all_goals first | (exact hr _ _ _ _ _ _ _ h) | (cases h; done) | skip
  rename_i hc
  simp only [Bool.and_eq_true] at hc
  exact pz_le_tr (pz_le_wC (pz_is_t hc.1.2.2 (by decide))) (hr _ _ _ _ _ _ _ h)
theorem pz_run_le (hT : pz_Tok T I) : ∀ (n y pc : Nat) (L : pz_L) (st : List pz_V) (σ σ1 : pz_S) (o : pz_O), pz_run T I n y pc L st σ = some (σ1, o) → pz_le σ σ1
  | 0, y, pc, L, st, σ, σ1, o => fun h => by rw [pz_run_0] at h; cases h
  | n + 1, y, pc, L, st, σ, σ1, o => fun h => by
    have hr := pz_run_le hT n
    rw [pz_run_s] at h
    unfold pz_body at h
    split at h
    · cases h
    · rename_i My hI
      split at h
      · cases h
      · rename_i i n9 a b hTy
        obtain ⟨⟨hd, hns, hsp⟩, -⟩ := hT.2 _ _ _ _ _ _ _ hI hTy
        rw [cond_eq_ite] at h
        split at h
        · unfold pz_spc at h
          split at h
          all_goals try (unfold pz_rtn at h; split at h <;> cases h; exact pz_le_rf)
          · rw [cond_eq_ite] at h
            split at h
            · exact pz_inv_le hr h
            · exact pz_bi_le hr h
          · exact pz_inv_le hr h
          · rw [cond_eq_ite] at h
            split at h
            · exact pz_inv_le hr h
            · unfold pz_oi at h
              split at h
              · rw [cond_eq_ite] at h
                split at h
                · exact hr _ _ _ _ _ _ _ h
                · cases h
              · cases h
          · rw [cond_eq_ite] at h
            split at h
            · exact pz_go_le (fun _ _ _ _ hs => pz_step_le (fun k hk => by cases hk) hs) hr h
            · unfold pz_thr at h
              split at h
              · rw [cond_eq_ite] at h
                split at h
                · cases h
                  exact ⟨Nat.le_refl _, ⟨Nat.le_succ _, Nat.le_add_right _ _⟩, fun _ _ => rfl, fun _ _ _ => rfl⟩
                · cases h
              · cases h
          · rw [cond_eq_ite] at h
            split at h
            · exact pz_go_le (fun _ _ _ _ hs => by rw [(pz_scl_le hs).1]; exact pz_le_rf) hr h
            · exact pz_go_le (fun _ _ _ _ hs => pz_step_le (fun k hk => by cases hk) hs) hr h
          · rw [cond_eq_ite] at h
            split at h
            · exact pz_go_le (fun _ _ _ _ hs => by rw [(pz_scn_le hs).1]; exact pz_le_rf) hr h
            · exact pz_go_le (fun _ _ _ _ hs => pz_step_le (fun k hk => by cases hk) hs) hr h
          · cases h
        · rename_i hf
          exact pz_go_le (fun _ _ _ _ hs => pz_step_le (hns (by cases hq : pz_sp i; rfl; exact absurd hq hf)).2.2 hs) hr h
theorem pz_ct_ok {n a : Nat} {Ma : pz_M} {as : List pz_V} {σ σ1 : pz_S} {o : pz_O} (hT : pz_Tok T I) (G : pz_Gl) (hst : l.stackTraces = false) (hS : pz_Snd l T I n) (hI : I a = some Ma) (ha : a ≠ 632) (hfit : (pz_es as).length ≤ pz_mL Ma) (h : pz_run T I n a 0 (pz_ent as (pz_mL Ma)) [] σ = some (σ1, o)) : pz_Ct l Ma as σ σ1 o := by
  intro D ad ws tys sz hwd hok
  obtain ⟨hMok, hhok⟩ := hT.1 _ _ hI
  have hMok := hMok ha
  have hle := pz_run_le hT _ _ _ _ _ _ _ _ h
  have main : ∀ (p : Program) (e : Env) (s : State) (m : MethodId) (args : Array Value) (below : List Frame) (meth : Method) (c : Code) (s₁ : State) (Rm : Room), Rm = pz_Rm Ma (pz_kc σ1 - pz_kc σ) (pz_ks σ1 - pz_ks σ) → BodyLoose p l (pz_mN Ma) (headSpec (pz_ws Ma) Rm) (pz_mB Ma) (pz_mL Ma) (pz_mR Ma) e s m args below meth c s₁ → c.maxLocals = pz_mL Ma → c.exceptionTable.toList = tableOf (pz_mH Ma) → va_Pc (as.map (pz_cv ad)) (pz_Bp D ws tys sz) args s →
      W p l e Rm s m args below meth c s.heap [] 0 0 (vx_MQ below (pz_Qc D (va_A ws sz) σ.1 ad σ1 o) (pz_Xc D (va_A ws sz) σ.1 ad σ1 o) args s (pz_kc σ1 - pz_kc σ) (pz_ks σ1 - pz_ks σ) (va_A ws sz)) (entryFrame m args (pz_mL Ma)) := by
    intro p e s m args below meth c s₁ Rm hRm B hml htab hP
    obtain ⟨rfl, hsz, hP, hK, hD, hF⟩ := hP
    have hpre : ∀ w ∈ wsL_law, w.before ((as.map (pz_cv ad)).toArray) s = true := fun w hw => atoms_spec (ws := pz_ws Ma) B.pre w (by unfold pz_ws; exact List.mem_cons_of_mem _ hw)
    have hA : ∀ q, s.heap.size ≤ q → va_A ws sz q := fun q hq => Or.inr (by omega)
    have hC : pz_Cx l p Rm s m ((as.map (pz_cv ad)).toArray) meth c (va_A ws sz) Ma :=
      ⟨hst, B.exec, B.bytes, hml, findClass_of_methodNamed B.named, hpre, hA, hF, B.returns, B.notSynchronized, by rw [hRm]; exact Nat.le_refl _, by rw [hRm]; exact Nat.le_refl _, htab, fun hk => by
        obtain ⟨-, hc, hn, -, -⟩ := hMok.2.2.2.2.2.2.2 hk
        refine ⟨?_, hc⟩
        rw [← hn]
        exact (name_of_methodNamed B.named B.method).1⟩
    rw [lg_entry_eq]
    have hcap : pz_kc σ1 ≤ pz_kc σ + Rm.cells ∧ pz_ks σ1 ≤ pz_ks σ + Rm.slots := by
      rw [hRm]
      exact ⟨by show _ ≤ pz_kc σ + (pz_kc σ1 - pz_kc σ); omega, by show _ ≤ pz_ks σ + (pz_ks σ1 - pz_ks σ); omega⟩
    exact hS p e Rm s m _ below meth c _ D (va_A ws sz) (pz_kc σ) (pz_ks σ) σ.1 ad a Ma σ1 o 0 (pz_ent as (pz_mL Ma)) [] σ ⟨hI, hC, hcap, pz_ret_ok hC, pz_thr_ok G hst hC hcap, pz_out_ok hC⟩ (pz_ent_len hfit) (Nat.le_refl _) (fun h => absurd h ha) h
      ad _ s.heap [] 0 0 pz_ag_rf ⟨ws, tys, hK, hP, hD.self, va_S.rf, hwd, rfl, rfl⟩ (pz_ent_lr hfit) (pz_ent_ok hok) (fun v hv => by cases hv)
  cases hH : pz_mH Ma with
  | nil =>
    refine vx_ofW (cc := pz_mB Ma) (maxL := pz_mL Ma) (ret := pz_mR Ma) (ws' := wsL_law) hMok.1.1 (by unfold pz_ws; rw [hH]) ?_
    intro p e s m args below meth c s₁ B hml htab hP
    refine main p e s m args below meth c s₁ _ rfl B hml ?_ hP
    rw [hH]
    show _ = []
    exact List.eq_nil_iff_forall_not_mem.mpr htab
  | cons h9 r9 =>
    refine vx_ofWH (cc := pz_mB Ma) (maxL := pz_mL Ma) (ret := pz_mR Ma) (hh := pz_mH Ma) (ws' := wsL_law) hMok.1.1 (by unfold pz_ws; rw [hH]) ?_
    intro p e s m args below meth c s₁ B hml hP
    refine main p e s m args below meth c s₁ _ rfl B hml ?_ hP
    exact vx_table (x := pz_mN Ma) B (bytes := pz_mB Ma) (maxL' := pz_mL Ma) (ret' := pz_mR Ma) (atoms_spec (ws := pz_ws Ma) B.pre _ (by unfold pz_ws; rw [hH]; exact List.mem_cons_self))
end CT

/-! calls, and runs by one more: the machine's -/
theorem pz_hnd_sp {pc E h : Nat} : ∀ {hh : List (Nat × Nat × Nat × Nat)}, pz_hnd hh pc E = some h → ∃ pre a b suf, hh = pre ++ (a, b, h, E) :: suf ∧ (a ≤ pc ∧ pc < b) ∧ ∀ z ∈ pre, ¬ ((z.1 ≤ pc ∧ pc < z.2.1) ∧ z.2.2.2 = E)
  | [], hx => by cases hx
  | (a, b, h', k) :: r, hx => by
    unfold pz_hnd at hx
    split at hx
    · rename_i hc
      cases hx
      obtain ⟨hc, rfl⟩ := hc
      exact ⟨[], a, b, r, rfl, hc, fun z hz => by cases hz⟩
    · rename_i hc
      obtain ⟨pre, a', b', suf, e, h1, h2⟩ := pz_hnd_sp hx
      exact ⟨(a, b, h', k) :: pre, a', b', suf, by rw [e]; rfl, h1, fun z hz => by
        rcases List.mem_cons.mp hz with rfl | hz
        · exact hc
        · exact h2 z hz⟩
theorem pz_cov {a b h k pc : Nat} (hc : ¬ (a ≤ pc ∧ pc < b)) : covers ⟨a, b, h, k⟩ pc = false := by
  unfold covers
  simp
  omega
theorem pz_cov2 {a b h k pc : Nat} (hc : a ≤ pc ∧ pc < b) : covers ⟨a, b, h, k⟩ pc = true := by
  unfold covers
  simp
  omega
theorem pz_wd_99 {ad : pz_R → Nat} {σ : pz_S} {ws : va_W} {tys : List (ClassId × FieldType)} {q : Nat} {A : Nat → Prop} (hD : va_D A ws) (hW : pz_wd ad σ ws tys) : pz_wd (pz_adn ad σ.1 (fun _ => q)) (pz_al σ 99 0 0 0 0 (fun _ _ => none)) ws tys :=
  pz_wd_new hW hD (fun _ _ h => h) (fun _ _ h => h) (fun i j hi => by omega) (fun i hi => by omega) (fun i j r h => by cases h)
section SN
variable {p : Program} {l : Launch} {e : Env} {R : Room} {s : State} {m : MethodId} {args : Array Value} {below : List Frame} {meth : Method} {c : Code} {Q : State → Prop}
variable {D : va_G} {A : Nat → Prop} {kc0 ks0 n0 : Nat} {ad0 : pz_R → Nat} {T : pz_Tb} {I : pz_Ib} {y : Nat}
variable {σ σ1 : pz_S} {L : pz_L} {st : List pz_V} {pc : Nat} {o : pz_O} {My : pz_M} {n : Nat}
set_option maxHeartbeats 2000000 in
theorem pz_inv_ok {a k idx : Nat} {ins : Instr} (hT : pz_Tok T I) (G : pz_Gl) (hst : l.stackTraces = false) (hS : pz_Snd l T I n) (Y : pz_Hy p l e R s m args below meth c Q D A kc0 ks0 n0 ad0 I y My σ1 o) (hL : L.length = pz_mL My) (hn0 : n0 ≤ σ.1) (hSc : y = 632 → pz_Sc s A n0 ad0 σ)
    (hi : (k = 0 ∧ ins = .invokestatic idx) ∨ (k = 1 ∧ ins = .invokevirtual idx) ∨ (k = 2 ∧ ins = .invokespecial idx)) (hdg : decode (pz_mB My) pc = .ok (ins, 3)) (hlk : ∀ Ma, I a = some Ma → pz_lkV (pz_mN My).cls idx k (pz_mN Ma) ∧ a ≠ 632) (h : pz_inv I (pz_run T I n) My y pc L st σ a k = some (σ1, o)) : pz_W p l e R s m args below meth c Q D A kc0 ks0 n0 ad0 (pc) (L) (st) (σ) := by
  have Y0 := Y
  obtain ⟨hI, C, hcap, Hr, Hx, Ho⟩ := Y
  obtain ⟨hMyok, hMyh⟩ := hT.1 _ _ hI
  unfold pz_inv at h
  split at h
  · cases h
  rename_i Ma hIa
  obtain ⟨hlk, hne⟩ := hlk Ma hIa
  obtain ⟨hMok, hhok⟩ := hT.1 _ _ hIa
  have hMok := hMok hne
  rw [cond_eq_ite] at h
  split at h
  rotate_left
  · cases h
  rename_i hk
  have hk := Nat.eq_of_beq_eq_true hk
  split at h
  · cases h
  rename_i as rest has
  obtain ⟨rfl, hlen⟩ := pz_args_sp has
  rw [cond_eq_ite] at h
  split at h
  rotate_left
  · cases h
  rename_i hc
  rw [Bool.and_eq_true] at hc
  obtain ⟨hfit, hrc⟩ := hc
  have hfl := (pz_fit_sp hfit).2.2.2
  have hrc' : k ≠ 0 → pz_rcv σ (pz_mT Ma) as = true := fun hk0 => by
    rcases Bool.or_eq_true_iff.mp hrc with h9 | h9
    · exact absurd (Nat.eq_of_beq_eq_true h9) hk0
    · exact h9
  have hlen' : as.length = pz_mP Ma + (if k = 0 then 0 else 1) := by
    rw [hlen]
    by_cases hk0 : k = 0
    · subst hk0; rfl
    · rw [if_neg hk0]
      have : Nat.beq k 0 = false := by
        cases hb : Nat.beq k 0
        · rfl
        · exact absurd (Nat.eq_of_beq_eq_true hb) hk0
      rw [this]; rfl
  cases hr : pz_run T I n a 0 (pz_ent as (pz_mL Ma)) [] σ with
  | none => rw [hr] at h; cases h
  | some q9 =>
  obtain ⟨σ2, o2⟩ := q9
  rw [hr] at h
  have hct := pz_ct_ok hT G hst hS hIa hne hfl hr
  have le1 := pz_run_le hT _ _ _ _ _ _ _ _ hr
  have le2 : pz_le σ2 σ1 := pz_back_le (fun _ _ h2 => by cases h2; exact pz_le_rf) (pz_run_le hT n) h
  have ko : k = 2 → ∃ v, o2 = .inl v := fun hk2 => by
    subst hk2
    rcases o2 with v | E
    · exact ⟨v, rfl⟩
    · cases h
  have hi' : (k = 0 ∧ ins = .invokestatic idx) ∨ (k = 1 ∧ ins = .invokevirtual idx) ∨ (k = 2 ∧ ins = .invokespecial idx ∧ ∃ v, o2 = .inl v) := by
    rcases hi with h9 | h9 | ⟨h9, h8⟩
    · exact Or.inl h9
    · exact Or.inr (Or.inl h9)
    · exact Or.inr (Or.inr ⟨h9, h8, ko h9⟩)
  intro ad ls H locs cells slots hag hE hl hokL hokS
  obtain ⟨ws, tys, hK, hP, hD, hVS, hwd, hkc, hks⟩ := hE
  have hokA : pz_okS σ.1 as := fun v hv => hokS v (List.mem_append_left _ (List.mem_reverse.mpr hv))
  have hokR : pz_okS σ.1 rest := fun v hv => hokS v (List.mem_append_right _ hv)
  have l1 := le1.2.1
  have l2 := le2.2.1
  have hA' : ∀ q, va_A ws H.size q → A q := fun q hq => hq.elim (fun ⟨k9, e9, h9⟩ => hD.2 k9 _ h9) (fun h9 => C.2.2.2.2.2.2.1 q (Nat.le_trans hVS.1 h9))
  have hcall := pz_call (rest := rest) (idx := idx) (k := k) (ins := ins) (ad := ad) (ls := ls) (e := e) (below := below) (cells := cells) (slots := slots) C hMok hk hlk hi' hdg hfit hlen' hrc' hct (hl.1.trans hL) hK hP hD hVS hwd hokA (by omega)
  intro T0 hT0 X
  rcases hcall T0 hT0 X with ⟨v, st₀, t, T', Lc, h0, X', hLc, e1, e2, ⟨⟨ad1, w, ho2, hv, hokw, hag1, ws1, tys1, hP1, hK1, hD1, hwd1⟩, hF⟩, step⟩ | ⟨q, st₀, t, T', Lc, E, ce, h0, X', hLc, e1, e2, ⟨⟨ad1, k9, ho2, hisE, hEe, hag1, ws1, tys1, hP1, hK1, hD1, hwd1⟩, hF⟩, hce, hcv, hcl, step⟩
  · obtain ⟨k1, k2, k3⟩ := vx_keep h0 e1 hVS (fun q _ hq => hA' q hq) hA' hLc hF
    have hal : t.vm.Alike s.vm := by rw [← e2]; exact X'.warmed.alike.symm
    have hE2 : pz_E D s A kc0 ks0 ad1 σ2 T'.heap (locs ++ Lc) (cells + (pz_kc σ2 - pz_kc σ)) (slots + (pz_ks σ2 - pz_ks σ)) :=
      ⟨ws1, tys1, va_K.moved hal hK1, by rw [e1]; exact hP1, hD1.weaken (fun _ _ _ hq => hA' _ hq), k3, hwd1, by omega, by omega⟩
    have hag2 : pz_ag n0 ad0 ad1 := pz_ag_tr hag hag1 hn0
    have hn2 : n0 ≤ σ2.1 := Nat.le_trans hn0 le1.1
    cases ho2
    cases hv
    rcases w with _ | w
    · have kk := hS p e R s m args below meth c Q D A kc0 ks0 n0 ad0 y My σ1 o (pc + 3) L rest σ2 Y0 hL hn2 (fun hy => pz_Sc_le (hSc hy) le1) h
        ad1 ls T'.heap (locs ++ Lc) _ _ hag2 hE2 (pz_lr_ag hag1 hokL hl) (pz_okL_mono le1.1 hokL) (pz_okS_mono le1.1 hokR)
      rw [pz_map_ag hag1 hokR] at kk
      obtain ⟨t2, a1, b1⟩ := kk T' rfl X'
      exact ⟨t2, step t2 a1, b1⟩
    · have kk := hS p e R s m args below meth c Q D A kc0 ks0 n0 ad0 y My σ1 o (pc + 3) L (w :: rest) σ2 Y0 hL hn2 (fun hy => pz_Sc_le (hSc hy) le1) h
        ad1 ls T'.heap (locs ++ Lc) _ _ hag2 hE2 (pz_lr_ag hag1 hokL hl) (pz_okL_mono le1.1 hokL) (pz_okS_c (hokw w rfl) (pz_okS_mono le1.1 hokR))
      rw [List.map_cons, pz_map_ag hag1 hokR] at kk
      obtain ⟨t2, a1, b1⟩ := kk T' rfl X'
      exact ⟨t2, step t2 a1, b1⟩
  · obtain ⟨k1, k2, k3⟩ := vx_keep h0 e1 hVS (fun q _ hq => hA' q hq) hA' hLc hF
    have hal : t.vm.Alike s.vm := by rw [← e2]; exact X'.warmed.alike.symm
    have hE2 : pz_E D s A kc0 ks0 ad1 σ2 T'.heap (locs ++ Lc) (cells + (pz_kc σ2 - pz_kc σ)) (slots + (pz_ks σ2 - pz_ks σ)) :=
      ⟨ws1, tys1, va_K.moved hal hK1, by rw [e1]; exact hP1, hD1.weaken (fun _ _ _ hq => hA' _ hq), k3, hwd1, by omega, by omega⟩
    have hag2 : pz_ag n0 ad0 ad1 := pz_ag_tr hag hag1 hn0
    have hn2 : n0 ≤ σ2.1 := Nat.le_trans hn0 le1.1
    have hce' : T'.heap[q]? = some ce := by rw [e1]; exact hce
    subst hEe
    cases ho2
    have goal : vx_W p l e R s m args below meth c T'.heap (locs ++ Lc) (cells + (pz_kc σ2 - pz_kc σ)) (slots + (pz_ks σ2 - pz_ks σ)) Q (F0 m pc ls (rest.map (pz_cv ad))) q := by
      unfold pz_back at h
      dsimp only at h
      rw [cond_eq_ite] at h
      split at h
      · cases h
      split at h
      · rename_i hd hhd
        obtain ⟨pre, a5, b5, suf, hsp, hcov, hpass⟩ := pz_hnd_sp hhd
        obtain ⟨hst9, hx, hb, hml, hown, hts, hA, hFs, hret, hlk9, hfr, hlo, htab, -⟩ := C
        have hm5 := hMyh (a5, b5, hd, k9) (by rw [hsp]; exact List.mem_append_right _ List.mem_cons_self)
        have h90 : ∀ z, pz_isE z → z ≠ 0 := fun z hz => by rcases hz with rfl | rfl | rfl <;> decide
        have kk := hS p e R s m args below meth c Q D A kc0 ks0 n0 ad0 y My σ1 o hd L [.inr (.inr (some (σ2.1, 0)))] (pz_al σ2 99 0 0 0 0 (fun _ _ => none)) Y0 hL (Nat.le_succ_of_le hn2) (fun hy => pz_Sc_le (hSc hy) (pz_le_tr le1 pz_le_al)) h
          (pz_adn ad1 σ2.1 (fun _ => q)) ls T'.heap (locs ++ Lc) (cells + (pz_kc σ2 - pz_kc σ)) (slots + (pz_ks σ2 - pz_ks σ)) (pz_ag_tr hag2 pz_adn_ag hn2)
          ⟨ws1, tys1, va_K.moved hal hK1, by rw [e1]; exact hP1, hD1.weaken (fun _ _ _ hq => hA' _ hq), k3, pz_wd_99 hD1 hwd1, by show pz_kc σ2 + 0 = _; omega, by show pz_ks σ2 + 0 = _; omega⟩
          (pz_lr_ag pz_adn_ag (pz_okL_mono le1.1 hokL) (pz_lr_ag hag1 hokL hl)) (pz_okL_mono (Nat.le_succ_of_le le1.1) hokL) (pz_okS_c (Nat.lt_succ_self _) (fun v hv => by cases hv))
        have hq : (pz_adn ad1 σ2.1 (fun _ => q)) (σ2.1, 0) = q := if_pos rfl
        refine vx_catch (name := pz_exn k9) (E := pz_exn k9) hown (tableOf pre) ⟨a5, b5, hd, k9⟩ (tableOf suf) (by rw [htab, hsp]; simp [tableOf]) (fun z hz => ?_) (pz_cov2 hcov) (h90 _ hm5.2.1) (hts _ hm5.2.2) (va_Nw.use rfl (hFs.2.1 k9 hisE).1) hce' hcv hcl ?_
        · obtain ⟨x, hx9, rfl⟩ := List.mem_map.mp hz
          have hx5 := hMyh x (by rw [hsp]; exact List.mem_append_left _ hx9)
          by_cases hcv9 : x.1 ≤ pc ∧ pc < x.2.1
          · refine Or.inr ⟨h90 _ hx5.2.1, pz_exn x.2.2.2, hts _ hx5.2.2, ?_⟩
            exact hFs.2.2.1 k9 x.2.2.2 hisE hx5.2.1 (fun e9 => hpass x hx9 ⟨hcv9, e9.symm⟩)
          · exact Or.inl (pz_cov hcv9)
        · have kk' := kk
          rw [List.map_cons, List.map_nil] at kk'
          show W p l e R s m args below meth c T'.heap (locs ++ Lc) _ _ Q (F0 m hd ls [.ref q])
          have e9 : pz_cv (pz_adn ad1 σ2.1 (fun _ => q)) (.inr (.inr (some (σ2.1, 0)))) = .ref q := by
            show va_rf (some ((pz_adn ad1 σ2.1 (fun _ => q)) (σ2.1, 0))) = _
            rw [hq]; rfl
          rw [e9] at kk'
          exact kk'
      · split at h
        · rename_i hH
          cases h
          exact Ho k9 pc ad1 ls T'.heap (locs ++ Lc) _ _ _ ce q rfl hisE hH hn2 hag2 hE2 hce' hcv hcl
        · cases h
    obtain ⟨t2, a1, b1⟩ := goal T' rfl X'
    exact ⟨t2, step.trans a1, b1⟩
end SN

/-! the rest of a run, and all runs -/
theorem pz_nfw : nativeFrameWords "java/lang/System" "arraycopy" 5 + 11 ≤ 18 := by decide +kernel
theorem pz_oth_C {ad : pz_R → Nat} {σ : pz_S} {f i : Nat} {v : Nat → Int32} : ∀ g j, ¬ (g = f ∧ j = i) → (∀ t, pz_fs ad (pz_wC σ f i v) t g j = pz_fs ad σ t g j) ∧ ∀ t, pz_ac ad (pz_wC σ f i v) t g j = pz_ac ad σ t g j := by
  intro g j hn
  have e : pz_mm (pz_wC σ f i v) g j = pz_mm σ g j := if_neg hn
  refine ⟨fun t => ?_, fun t => ?_⟩
  · refine List.map_congr_left fun k _ => ?_
    unfold pz_fv
    rw [e]
    rfl
  · unfold pz_ac
    rw [e]
    rfl
section SX
variable {p : Program} {l : Launch} {e : Env} {R : Room} {s : State} {m : MethodId} {args : Array Value} {below : List Frame} {meth : Method} {c : Code} {Q : State → Prop}
variable {D : va_G} {A : Nat → Prop} {kc0 ks0 n0 : Nat} {ad0 : pz_R → Nat} {T : pz_Tb} {I : pz_Ib} {y : Nat}
variable {σ σ1 : pz_S} {L : pz_L} {st : List pz_V} {pc : Nat} {o : pz_O} {My : pz_M} {n : Nat}
theorem pz_rm_sp {k : Nat} {r : List pz_V} (h : pz_rm My k r = true) (C : pz_Cx l p R s m args meth c A My) {ad : pz_R → Nat} : 1 ≤ R.frames ∧ ((r.map (pz_cv ad)).map fun v => v.category).sum + k ≤ R.locals := by
  unfold pz_rm at h
  rw [Bool.and_eq_true] at h
  obtain ⟨h1, h2⟩ := h
  obtain ⟨hst, hx, hb, hml, hown, hts, hA, hFs, hret, hlk, hfr, hlo, htab, -⟩ := C
  rw [pz_wt_map]
  exact ⟨Nat.le_trans (Nat.le_of_ble_eq_true h1) hfr, Nat.le_trans (Nat.le_of_ble_eq_true h2) hlo⟩
set_option maxHeartbeats 2000000 in
theorem pz_bi_ok {a idx : Nat} (hT : pz_Tok T I) (G : pz_Gl) (hS : pz_Snd l T I n) (Y : pz_Hy p l e R s m args below meth c Q D A kc0 ks0 n0 ad0 I y My σ1 o) (hL : L.length = pz_mL My) (hn0 : n0 ≤ σ.1) (hSc : y = 632 → pz_Sc s A n0 ad0 σ) (hdg : decode (pz_mB My) pc = .ok (.invokestatic idx, 3))
    (h0 : a = 10000 → Cond.methodLink (pz_mN My).cls idx Lib.Math.min.name ∈ wsL_law) (h1 : a = 10001 → Cond.methodLink (pz_mN My).cls idx Lib.Math.max.name ∈ wsL_law) (h2 : a = 10002 → Cond.methodLink (pz_mN My).cls idx Lib.MathLoose.max_long.x ∈ wsL_law) (h3 : a = 10003 → Cond.methodLink (pz_mN My).cls idx arraycopyName ∈ wsL_law)
    (h : pz_bi (pz_run T I n) My y pc L st σ a = some (σ1, o)) : pz_W p l e R s m args below meth c Q D A kc0 ks0 n0 ad0 (pc) (L) (st) (σ) := by
  have Y0 := Y
  have C0 := Y.2.1
  obtain ⟨hI, ⟨hst, hx, hb, hml, hown, hts, hA, hFs, hret, hlk, hfr, hlo, htab, -⟩, hcap, Hr, Hx, Ho⟩ := Y
  obtain ⟨-, ⟨m1, m2, m3, m4, m5, m6, m7⟩, ⟨a1, a2, a3⟩, -, -⟩ := G
  have go : ∀ (L' : pz_L) (st' : List pz_V) (σ' : pz_S), L'.length = pz_mL My → pz_le σ σ' → pz_run T I n y (pc + 3) L' st' σ' = some (σ1, o) → pz_W p l e R s m args below meth c Q D A kc0 ks0 n0 ad0 (pc + 3) (L') (st') (σ') := fun L' st' σ' hL' hle hr =>
    hS p e R s m args below meth c Q D A kc0 ks0 n0 ad0 y My σ1 o (pc + 3) L' st' σ' Y0 hL' (Nat.le_trans hn0 hle.1) (fun hy => pz_Sc_le (hSc hy) hle) hr
  unfold pz_bi at h
  simp only [cond_eq_ite] at h
  split at h
  · rename_i ha
    have hlk0 := h0 (Nat.eq_of_beq_eq_true ha)
    split at h
    · split at h
      · rename_i v u r hrm
        have kk := go _ _ _ hL pz_le_rf h
        have le := pz_run_le hT _ _ _ _ _ _ _ _ h
        have l1 := le.2.1
        intro ad ls H locs cells slots hag hE hl hokL hokS
        obtain ⟨ws, tys, hK, hP, hD, hVS, hwd, hkc, hks⟩ := id hE
        obtain ⟨r1, r2⟩ := pz_rm_sp hrm C0 (ad := ad)
        exact va_mmin hx hb (hml.trans (hL.symm.trans hl.1.symm)) hown (hts _ hlk0) (hts _ m1) (hts _ m4) (hts _ m5) r1 r2 (by omega) (by omega) hdg (by
          have k9 := kk ad ls H locs cells slots hag hE hl hokL (pz_okS_c trivial (pz_okS_t (pz_okS_t hokS)))
          exact k9)
      · cases h
    · cases h
  split at h
  · rename_i ha
    have hlk0 := h1 (Nat.eq_of_beq_eq_true ha)
    split at h
    · split at h
      · rename_i v u r hrm
        have kk := go _ _ _ hL pz_le_rf h
        have le := pz_run_le hT _ _ _ _ _ _ _ _ h
        have l1 := le.2.1
        intro ad ls H locs cells slots hag hE hl hokL hokS
        obtain ⟨ws, tys, hK, hP, hD, hVS, hwd, hkc, hks⟩ := id hE
        obtain ⟨r1, r2⟩ := pz_rm_sp hrm C0 (ad := ad)
        exact va_mmax hx hb (hml.trans (hL.symm.trans hl.1.symm)) hown (hts _ hlk0) (hts _ m2) (hts _ m4) (hts _ m6) r1 r2 (by omega) (by omega) hdg (by
          have k9 := kk ad ls H locs cells slots hag hE hl hokL (pz_okS_c trivial (pz_okS_t (pz_okS_t hokS)))
          exact k9)
      · cases h
    · cases h
  split at h
  · rename_i ha
    have hlk0 := h2 (Nat.eq_of_beq_eq_true ha)
    split at h
    · split at h
      · rename_i v u r hrm
        have kk := go _ _ _ hL pz_le_rf h
        have le := pz_run_le hT _ _ _ _ _ _ _ _ h
        have l1 := le.2.1
        intro ad ls H locs cells slots hag hE hl hokL hokS
        obtain ⟨ws, tys, hK, hP, hD, hVS, hwd, hkc, hks⟩ := id hE
        obtain ⟨r1, r2⟩ := pz_rm_sp hrm C0 (ad := ad)
        exact va_mmax_long hx hb (hml.trans (hL.symm.trans hl.1.symm)) hown (hts _ hlk0) (hts _ m3) (hts _ m4) (hts _ m7) r1 r2 (by omega) (by omega) hdg (by
          have k9 := kk ad ls H locs cells slots hag hE hl hokL (pz_okS_c trivial (pz_okS_t (pz_okS_t hokS)))
          exact k9)
      · cases h
    · cases h
  split at h
  · rename_i ha
    have hlk0 := h3 (Nat.eq_of_beq_eq_true ha)
    split at h
    · split at h
      · rename_i n9 dp g j sp f i r hc
        obtain ⟨hc0, c1, c2, c3, c4, c5⟩ := hc
        simp only [Bool.and_eq_true] at hc0
        obtain ⟨hrm, his, hjs⟩ := hc0
        have hle := pz_le_wC (σ := σ) (i := j) (v := va_cpy (pz_mm σ f i) (pz_mm σ g j) sp.toNatClampNeg dp.toNatClampNeg n9.toNatClampNeg) (pz_is_t hjs (by decide))
        have kk := go _ _ _ hL hle h
        intro ad ls H locs cells slots hag hE hl hokL hokS
        obtain ⟨ws, tys, hK, hP, hD, hVS, hwd, hkc, hks⟩ := id hE
        obtain ⟨r1, r2⟩ := pz_rm_sp hrm C0 (ad := ad)
        have hin := pz_is_in his (Or.inr rfl)
        have hjn := pz_is_in hjs (Or.inr rfl)
        obtain ⟨htag, -⟩ := pz_is_sp his
        obtain ⟨htag2, -⟩ := pz_is_sp hjs
        obtain ⟨q0, t0, cA, hq0, ht0⟩ := (hwd.2.1 f i hin).2 (by rw [htag]; rfl)
        obtain ⟨q1, t1, cB, hq1, ht1⟩ := (hwd.2.1 g j hjn).2 (by rw [htag2]; rfl)
        rw [htag] at hq0 ht0
        rw [htag2] at hq1 ht1
        refine va_copyi hx hb (hml.trans (hL.symm.trans hl.1.symm)) hown (hts _ hlk0) (hts _ a1) (hts _ a2) (hts _ a3) hK hP hD hVS q0 q1 t0 t1 hq0 hq1 ht0 ht1 rfl c1 c2 c3 c4 c5 (fun _ _ => rfl) r1 (Nat.le_trans (Nat.add_le_add_left pz_nfw _) r2) hdg fun H1 locs1 hP1 hD1 hS1 =>
          kk ad ls H1 locs1 cells slots hag ⟨_, tys, hK, hP1, hD1, hS1, ?_, hkc, hks⟩ hl hokL (pz_okS_t (pz_okS_t (pz_okS_t (pz_okS_t (pz_okS_t hokS)))))
        refine pz_wd_set (σ' := pz_wC σ g j (va_cpy (pz_mm σ f i) (pz_mm σ g j) sp.toNatClampNeg dp.toNatClampNeg n9.toNatClampNeg)) hwd rfl rfl hjn hq1 (fun h => ?_) (fun _ => ⟨t1, cB, ?_, by rw [htag2]; exact ht1⟩) pz_oth_C hwd.2.2.2
        · rw [htag2] at h; omega
        · rw [htag2]
          exact congrArg (fun z => Sum.inl (cB, (pz_sh σ g).2.2, Sum.inl z)) (if_pos ⟨rfl, rfl⟩).symm
      · cases h
    · cases h
  · cases h
theorem pz_oi_ok {idx : Nat} (hT : pz_Tok T I) (G : pz_Gl) (hS : pz_Snd l T I n) (Y : pz_Hy p l e R s m args below meth c Q D A kc0 ks0 n0 ad0 I y My σ1 o) (hL : L.length = pz_mL My) (hn0 : n0 ≤ σ.1) (hSc : y = 632 → pz_Sc s A n0 ad0 σ) (hdg : decode (pz_mB My) pc = .ok (.invokespecial idx, 3))
    (h0 : Cond.methodLink (pz_mN My).cls idx Lib.objectInit ∈ wsL_law) (h : pz_oi (pz_run T I n) My y pc L st σ = some (σ1, o)) : pz_W p l e R s m args below meth c Q D A kc0 ks0 n0 ad0 (pc) (L) (st) (σ) := by
  have Y0 := Y
  have C0 := Y.2.1
  obtain ⟨hI, ⟨hst, hx, hb, hml, hown, hts, hA, hFs, hret, hlk, hfr, hlo, htab, -⟩, hcap, Hr, Hx, Ho⟩ := Y
  obtain ⟨-, -, -, ⟨o1, o2⟩, -⟩ := G
  unfold pz_oi at h
  split at h
  · rw [cond_eq_ite] at h
    split at h
    · rename_i x r hrm
      have kk := hS p e R s m args below meth c Q D A kc0 ks0 n0 ad0 y My σ1 o (pc + 3) L r σ Y0 hL hn0 hSc h
      intro ad ls H locs cells slots hag hE hl hokL hokS
      obtain ⟨r1, r2⟩ := pz_rm_sp hrm C0 (ad := ad)
      exact W.objInit hx hb hown (hts _ h0) (hts _ o1) (hts _ o2) (g := F0 m pc ls (((.inr (.inr (some x)) : pz_V) :: r).map (pz_cv ad))) rfl (by rw [hml]; exact hl.1.trans hL) rfl hdg r1 (by show 2 * 0 + _ + 12 ≤ _; omega)
        (kk ad ls H locs cells slots hag hE hl hokL (pz_okS_t hokS))
    · cases h
  · cases h
theorem pz_go_ok {fin : Bool} {i : Instr} {n9 a b : Nat} (hT : pz_Tok T I) (G : pz_Gl) (hS : pz_Snd l T I n) (Y : pz_Hy p l e R s m args below meth c Q D A kc0 ks0 n0 ad0 I y My σ1 o) (hL : L.length = pz_mL My) (hn0 : n0 ≤ σ.1) (hSc : y = 632 → pz_Sc s A n0 ad0 σ) (hdg : decode (pz_mB My) pc = .ok (i, n9))
    (hlk : pz_lk (pz_mN My).cls i a b) (hn : n9 = pz_il i ∨ ∃ d lo hi offs, i = .tableswitch d lo hi offs) (h60 : ∀ k, i = .putfield k → a ≠ 60) (hfin : fin = true → pz_mK My = 2 ∧ pz_mT My = a) (h : pz_go (pz_run T I n) y (pz_step fin i a b pc L st σ) = some (σ1, o)) : pz_W p l e R s m args below meth c Q D A kc0 ks0 n0 ad0 (pc) (L) (st) (σ) := by
  have Y0 := Y
  obtain ⟨hI, ⟨hst, hx, hb, hml, hown, hts, hA, hFs, hret, hlk9, hfr, hlo, htab, hctor⟩, hcap, Hr, Hx, Ho⟩ := Y
  unfold pz_go at h
  split at h
  · rename_i pc' L' st' σ' hs
    have hle := pz_step_le h60 hs
    have le := pz_run_le hT _ _ _ _ _ _ _ _ h
    have l1 := le.2.1
    have kk := hS p e R s m args below meth c Q D A kc0 ks0 n0 ad0 y My σ1 o pc' L' st' σ' Y0 ((pz_step_len hs).trans hL) (Nat.le_trans hn0 hle.1) (fun hy => pz_Sc_le (hSc hy) hle) h
    refine pz_step_ok (own := (pz_mN My).cls) hx hb hown hts hA G.1.1 G.1.2.1 G.1.2.2 hFs.1.1 hFs.1.2.1 hlk (fun hf => ?_) hdg hn hs (by omega) hn0 kk
    obtain ⟨f1, f2⟩ := hfin hf
    obtain ⟨c1, c2⟩ := hctor f1
    exact ⟨c1, by rw [← f2]; exact c2⟩
  · cases h
theorem pz_scl_ok (hS : pz_Snd l T I n) (Y : pz_Hy p l e R s m args below meth c Q D A kc0 ks0 n0 ad0 I y My σ1 o) (hL : L.length = pz_mL My) (hn0 : n0 ≤ σ.1) (hy : y = 632) (hSc : pz_Sc s A n0 ad0 σ) (hdg : decode (pz_mB My) pc = .ok (.iaload, 1))
    (h : pz_go (pz_run T I n) y (pz_scl pc L st σ) = some (σ1, o)) : pz_W p l e R s m args below meth c Q D A kc0 ks0 n0 ad0 (pc) (L) (st) (σ) := by
  have Y0 := Y
  obtain ⟨hI, ⟨hst, hx, hb, hml, hown, hts, hA, hFs, hret, hlk9, hfr, hlo, htab, hctor⟩, hcap, Hr, Hx, Ho⟩ := Y
  unfold pz_go at h
  split at h
  · rename_i pc' L' st' σ' hs
    unfold pz_scl at hs
    split at hs
    · rename_i j f i r
      split at hs
      · rename_i hc
        obtain ⟨hc0, ho⟩ := hc
        rw [Bool.and_eq_true] at hc0
        obtain ⟨hf0, his⟩ := hc0
        have hf0 := Nat.eq_of_beq_eq_true hf0
        subst hf0
        cases hs
        have kk := hS p e R s m args below meth c Q D A kc0 ks0 n0 ad0 y My σ1 o _ _ _ _ Y0 hL hn0 (fun _ => hSc) h
        obtain ⟨b, len, xs, x1, x2, x3, x4, x5, x6, x7, x8⟩ := hSc
        intro ad ls H locs cells slots hag hE hl hokL hokS
        obtain ⟨ws, tys, hK, hP, hD, hVS, hwd, hkc, hks⟩ := id hE
        obtain ⟨-, hi0⟩ := pz_is_sp his
        rw [x7] at hi0 ho
        have hi0 : i = 0 := by have : i < 1 := hi0; omega
        subst hi0
        have hb0 : ad (0, 0) = b := by rw [hag (0, 0) x4, x5]
        have k9 := kk ad ls H locs cells slots hag hE hl hokL (pz_okS_c trivial (pz_okS_t (pz_okS_t hokS)))
        rw [List.map_cons] at k9
        show W p l e R s m args below meth c H locs cells slots Q (F0 m pc ls (.int j :: .ref (ad (0, 0)) :: r.map (pz_cv ad)))
        rw [hb0]
        refine va_sld (xs := xs) hx hb x1 x2 x3 hVS (pz_out_sp ho) hdg ?_
        rw [← x8]
        exact k9
      · cases hs
    · cases hs
  · cases h
theorem pz_scn_ok (hS : pz_Snd l T I n) (Y : pz_Hy p l e R s m args below meth c Q D A kc0 ks0 n0 ad0 I y My σ1 o) (hL : L.length = pz_mL My) (hn0 : n0 ≤ σ.1) (hy : y = 632) (hSc : pz_Sc s A n0 ad0 σ) (hdg : decode (pz_mB My) pc = .ok (.arraylength, 1))
    (h : pz_go (pz_run T I n) y (pz_scn pc L st σ) = some (σ1, o)) : pz_W p l e R s m args below meth c Q D A kc0 ks0 n0 ad0 (pc) (L) (st) (σ) := by
  have Y0 := Y
  obtain ⟨hI, ⟨hst, hx, hb, hml, hown, hts, hA, hFs, hret, hlk9, hfr, hlo, htab, hctor⟩, hcap, Hr, Hx, Ho⟩ := Y
  unfold pz_go at h
  split at h
  · rename_i pc' L' st' σ' hs
    unfold pz_scn at hs
    split at hs
    · rename_i f i r
      split at hs
      · rename_i hc0
        rw [Bool.and_eq_true] at hc0
        obtain ⟨hf0, his⟩ := hc0
        have hf0 := Nat.eq_of_beq_eq_true hf0
        subst hf0
        cases hs
        have kk := hS p e R s m args below meth c Q D A kc0 ks0 n0 ad0 y My σ1 o _ _ _ _ Y0 hL hn0 (fun _ => hSc) h
        obtain ⟨b, len, xs, x1, x2, x3, x4, x5, x6, x7, x8⟩ := hSc
        intro ad ls H locs cells slots hag hE hl hokL hokS
        obtain ⟨ws, tys, hK, hP, hD, hVS, hwd, hkc, hks⟩ := id hE
        obtain ⟨-, hi0⟩ := pz_is_sp his
        rw [x7] at hi0
        have hi0 : i = 0 := by have : i < 1 := hi0; omega
        subst hi0
        have hb0 : ad (0, 0) = b := by rw [hag (0, 0) x4, x5]
        have k9 := kk ad ls H locs cells slots hag hE hl hokL (pz_okS_c trivial (pz_okS_t hokS))
        rw [List.map_cons, x7] at k9
        show W p l e R s m args below meth c H locs cells slots Q (F0 m pc ls (.ref (ad (0, 0)) :: r.map (pz_cv ad)))
        rw [hb0]
        exact va_slen hx hb x1 x2 x3 hVS hdg k9
      · cases hs
    · cases hs
  · cases h
end SX
/-- THE PURE MACHINE IS SOUND. -/
theorem pz_snd {l : Launch} {T : pz_Tb} {I : pz_Ib} (hT : pz_Tok T I) (G : pz_Gl) (hst : l.stackTraces = false) : ∀ n, pz_Snd l T I n
  | 0 => fun p e R s m args below meth c Q D A kc0 ks0 n0 ad0 y My σ1 o pc L st σ _ _ _ _ h => by rw [pz_run_0] at h; cases h
  | n + 1 => by
    have hS := pz_snd hT G hst n
    intro p e R s m args below meth c Q D A kc0 ks0 n0 ad0 y My σ1 o pc L st σ Y hL hn0 hSc h
    have Y0 := Y
    obtain ⟨hI, C, hcap, Hr, Hx, Ho⟩ := Y
    rw [pz_run_s] at h
    unfold pz_body at h
    rw [hI] at h
    dsimp only at h
    split at h
    · cases h
    rename_i i n9 a b hTy
    obtain ⟨⟨hd, hns, hrow⟩, h60⟩ := hT.2 _ _ _ _ _ _ _ hI hTy
    have ret : ∀ i', i = i' → n9 = 1 → pz_rtn σ (pz_rt i' My st) = some (σ1, o) → pz_W p l e R s m args below meth c Q D A kc0 ks0 n0 ad0 (pc) (L) (st) (σ) := fun i' hi h1 h9 => by
      subst hi
      subst h1
      unfold pz_rtn at h9
      split at h9
      · rename_i v hv
        cases h9
        exact Hr i pc L st v hd hv rfl
      · cases h9
    rw [cond_eq_ite] at h
    split at h
    · unfold pz_spc at h
      split at h
      · exact ret _ rfl hrow h
      · exact ret _ rfl hrow h
      · exact ret _ rfl hrow h
      · exact ret _ rfl hrow h
      · rename_i idx
        obtain ⟨rfl, r1, r2, r3, r4, r5⟩ := hrow
        rw [cond_eq_ite] at h
        split at h
        · rename_i hlt
          exact pz_inv_ok hT G hst hS Y0 hL hn0 hSc (Or.inl ⟨rfl, rfl⟩) hd (fun Ma hM => r1 Ma (Nat.le_of_ble_eq_true hlt) hM) h
        · exact pz_bi_ok hT G hS Y0 hL hn0 hSc hd r2 r3 r4 r5 h
      · rename_i idx
        obtain ⟨rfl, r1⟩ := hrow
        exact pz_inv_ok hT G hst hS Y0 hL hn0 hSc (Or.inr (Or.inl ⟨rfl, rfl⟩)) hd r1 h
      · rename_i idx
        obtain ⟨rfl, r1, r2⟩ := hrow
        rw [cond_eq_ite] at h
        split at h
        · rename_i hlt
          exact pz_inv_ok hT G hst hS Y0 hL hn0 hSc (Or.inr (Or.inr ⟨rfl, rfl⟩)) hd (fun Ma hM => r1 Ma (Nat.le_of_ble_eq_true hlt) hM) h
        · rename_i hge
          exact pz_oi_ok hT G hS Y0 hL hn0 hSc hd (r2 (Nat.le_of_not_lt fun hq => hge (Nat.ble_eq_true_of_le hq))) h
      · rename_i idx
        obtain ⟨rfl, r1, r2⟩ := hrow
        rw [cond_eq_ite] at h
        split at h
        · rename_i hlt
          exact pz_go_ok hT G hS Y0 hL hn0 hSc hd (r1 (Nat.le_of_ble_eq_true hlt)) (Or.inl rfl) (fun k hk => by cases hk) (fun hf => by cases hf) h
        · rename_i hge
          exact Hx pc L st σ (a - 100) (r2 (Nat.le_of_not_lt fun hq => hge (Nat.ble_eq_true_of_le hq))) h hn0
      · have hrow : n9 = 1 := hrow
        subst hrow
        rw [cond_eq_ite] at h
        split at h
        · rename_i ha
          have ha := Nat.eq_of_beq_eq_true ha
          have hy : y = 632 := Nat.decEq y 632 |>.byContradiction fun hy => h60 hy (Or.inl rfl) ha
          exact pz_scl_ok hS Y0 hL hn0 hy (hSc hy) hd h
        · exact pz_go_ok hT G hS Y0 hL hn0 hSc hd trivial (Or.inl rfl) (fun k hk => by cases hk) (fun hf => by cases hf) h
      · have hrow : n9 = 1 := hrow
        subst hrow
        rw [cond_eq_ite] at h
        split at h
        · rename_i ha
          have ha := Nat.eq_of_beq_eq_true ha
          have hy : y = 632 := Nat.decEq y 632 |>.byContradiction fun hy => h60 hy (Or.inr rfl) ha
          exact pz_scn_ok hS Y0 hL hn0 hy (hSc hy) hd h
        · exact pz_go_ok hT G hS Y0 hL hn0 hSc hd trivial (Or.inl rfl) (fun k hk => by cases hk) (fun hf => by cases hf) h
      · cases h
    · rename_i hf
      obtain ⟨s1, s2, s3⟩ := hns (by cases hq : pz_sp i; rfl; exact absurd hq hf)
      exact pz_go_ok hT G hS Y0 hL hn0 hSc hd s1 s2 s3 (fun hf => by
        rw [Bool.and_eq_true] at hf
        exact ⟨Nat.eq_of_beq_eq_true hf.1, Nat.eq_of_beq_eq_true hf.2⟩) h

/-! TABLES: how they lie, and what a check of them says. -/
theorem pz_fnd_mem {pc : Nat} {r : Instr × Nat × Nat × Nat} : ∀ {l : List pz_Rw}, pz_fnd pc l = some r → (pc, r) ∈ l
  | [], h => by cases h
  | x :: l, h => by
    unfold pz_fnd at h
    rw [cond_eq_ite] at h
    split at h
    · rename_i hb
      cases h
      have := Nat.eq_of_beq_eq_true hb
      subst this
      exact List.mem_cons_self
    · exact List.mem_cons_of_mem _ (pz_fnd_mem h)
theorem pz_getD_mem {α : Type} {l : List (List α)} {k : Nat} {x : α} (h : x ∈ l.getD k []) : ∃ c ∈ l, x ∈ c := by
  rw [List.getD_eq_getElem?_getD] at h
  cases hk : l[k]? with
  | none => rw [hk] at h; cases h
  | some c => rw [hk] at h; exact ⟨c, List.mem_of_getElem? hk, h⟩
theorem pz_atE_mem {tb : pz_All} {y : Nat} {e : pz_Ey} (h : pz_atE tb y = some e) : ∃ c, tb[y / 16]? = some c ∧ c[y % 16]? = some e := by
  unfold pz_atE at h
  rw [List.getD_eq_getElem?_getD] at h
  cases hk : tb[y / 16]? with
  | none => rw [hk] at h; cases h
  | some c => rw [hk] at h; exact ⟨c, rfl, h⟩
theorem pz_fl_mem {idx : Nat} {r : Nat × Nat} : ∀ {l : List (Nat × Nat × Nat)}, pz_fl idx l = some r → (idx, r) ∈ l
  | [], h => by cases h
  | x :: l, h => by
    unfold pz_fl at h
    rw [cond_eq_ite] at h
    split at h
    · rename_i hb
      cases h
      have := Nat.eq_of_beq_eq_true hb
      subst this
      exact List.mem_cons_self
    · exact List.mem_cons_of_mem _ (pz_fl_mem h)
theorem pz_lt_mem {t : pz_Lt} {idx a b : Nat} (h : pz_lt t idx a b = true) : ∃ c ∈ t, (idx, a, b) ∈ c := by
  unfold pz_lt at h
  split at h
  · rename_i x y hx
    rw [Bool.and_eq_true] at h
    obtain ⟨rfl, rfl⟩ : x = a ∧ y = b := ⟨Nat.eq_of_beq_eq_true h.1, Nat.eq_of_beq_eq_true h.2⟩
    exact pz_getD_mem (pz_fl_mem hx)
  · cases h
def pz_lbk (own : String) (idx a : Nat) : Prop := (a = 10000 → Cond.methodLink own idx Lib.Math.min.name ∈ wsL_law) ∧ (a = 10001 → Cond.methodLink own idx Lib.Math.max.name ∈ wsL_law) ∧ (a = 10002 → Cond.methodLink own idx Lib.MathLoose.max_long.x ∈ wsL_law) ∧ (a = 10003 → Cond.methodLink own idx arraycopyName ∈ wsL_law) ∧ (a = 10004 → Cond.methodLink own idx Lib.objectInit ∈ wsL_law)
def pz_lmk (I : pz_Ib) (own : String) (x : Nat × Nat × Nat) : Prop := (∀ Ma, x.2.1 < 10000 → I x.2.1 = some Ma → Cond.methodLink own x.1 (pz_mN Ma) ∈ wsL_law) ∧ pz_lbk own x.1 x.2.1
def pz_lck (own : String) (x : Nat × Nat × Nat) : Prop := (x.2.1 < 6 → Cond.classLink own x.1 (pz_C x.2.1) ∈ wsL_law ∧ Cond.instantiable (pz_C x.2.1) (pz_n x.2.1) ∈ wsL_law ∧ Cond.initialized (pz_C x.2.1) ∈ wsL_law) ∧ (x.2.1 = 50 → Cond.classLink own x.1 RX6 ∈ wsL_law) ∧ (x.2.1 = 51 → Cond.classLink own x.1 "[[I" ∈ wsL_law)
def pz_lvk (own : String) (x : Nat × Nat × Nat) : Prop := (x.2.2 = 0 → Cond.constant own x.1 (Int32.ofNat x.2.1) ∈ wsL_law) ∧ (x.2.2 = 1 → Cond.constantLong own x.1 (pz_lcs.getD x.2.1 0) ∈ wsL_law)
def pz_Lok (I : pz_Ib) (own : String) (t : pz_Ls) : Prop := (∀ c ∈ t.1, ∀ x ∈ c, pz_lkF own x.1 x.2.1 x.2.2) ∧ (∀ c ∈ t.2.1, ∀ x ∈ c, pz_lmk I own x) ∧ (∀ c ∈ t.2.2.1, ∀ x ∈ c, pz_lck own x) ∧ ∀ c ∈ t.2.2.2, ∀ x ∈ c, pz_lvk own x
theorem pz_beq {a b : Nat} (h : Nat.beq a b = true) : a = b := Nat.eq_of_beq_eq_true h
theorem pz_bne {a b : Nat} (h : (!Nat.beq a b) = true) : a ≠ b := fun e => by subst e; simp at h
set_option maxHeartbeats 2000000 in
theorem pz_cki_ok {q y4 y9 : Nat} {t : pz_Ls} {I : pz_Ib} {M : pz_M} {pc : Nat} {i : Instr} {n a b : Nat} (ht : pz_Lok I (pz_mN M).cls t) (hq : q = 11 → (pz_mN M).cls = RX11) (h4 : ∀ Ma, I y4 = some Ma → pz_mN Ma = yX4_init) (h9 : ∀ Ma, I y9 = some Ma → pz_mN Ma = yX9_init)
    (hd : decode (pz_mB M) pc = .ok (i, n)) (h : pz_cki q y4 y9 t (pz_mB M) pc i n a b = true) : pz_Row I M pc i n a b := by
  obtain ⟨t1, t2, t3, t4⟩ := ht
  refine ⟨hd, fun hs => ?_, ?_⟩
  · unfold pz_cki at h
    split at h
    all_goals first | (cases hs; done) | skip
    all_goals try simp only [Bool.and_eq_true] at h
    · obtain ⟨k1, k2⟩ := h
      obtain ⟨c, hc, hx⟩ := pz_lt_mem k2
      exact ⟨t1 c hc _ hx, Or.inl (pz_beq k1), fun k hk => by cases hk⟩
    · obtain ⟨k1, k2, k3⟩ := h
      obtain ⟨c, hc, hx⟩ := pz_lt_mem k2
      exact ⟨t1 c hc _ hx, Or.inl (pz_beq k1), fun k hk => pz_bne k3⟩
    · obtain ⟨k1, k2⟩ := h
      obtain ⟨c, hc, hx⟩ := pz_lt_mem k2
      exact ⟨(t4 c hc _ hx).1 rfl, Or.inl (pz_beq k1), fun k hk => by cases hk⟩
    · obtain ⟨k1, k2⟩ := h
      obtain ⟨c, hc, hx⟩ := pz_lt_mem k2
      exact ⟨(t4 c hc _ hx).1 rfl, Or.inl (pz_beq k1), fun k hk => by cases hk⟩
    · obtain ⟨k1, k2⟩ := h
      obtain ⟨c, hc, hx⟩ := pz_lt_mem k2
      exact ⟨(t4 c hc _ hx).2 rfl, Or.inl (pz_beq k1), fun k hk => by cases hk⟩
    · obtain ⟨k1, k2⟩ := h
      obtain ⟨c, hc, hx⟩ := pz_lt_mem k2
      exact ⟨((t3 c hc _ hx).1 (show (1 : Nat) < 6 by decide)).1, Or.inl (pz_beq k1), fun k hk => by cases hk⟩
    · obtain ⟨k1, k2, k3⟩ := h
      obtain ⟨c, hc, hx⟩ := pz_lt_mem k3
      exact ⟨⟨pz_beq k2, (t3 c hc _ hx).2.2 rfl⟩, Or.inl (pz_beq k1), fun k hk => by cases hk⟩
    · exact ⟨trivial, Or.inr ⟨_, _, _, _, rfl⟩, fun k hk => by cases hk⟩
    · refine ⟨?_, Or.inl (pz_beq h), fun k hk => ?_⟩
      · unfold pz_lk
        split
        all_goals first | trivial | (exfalso; rename_i n1 n2 n3 n4 n5 n6 n7 n8 n9 n10 n11 n12 n13; first | exact n1 _ rfl | exact n2 _ rfl | exact n3 _ rfl | exact n4 _ rfl | exact n5 _ rfl | exact n6 _ rfl | exact n7 _ rfl | exact n8 _ rfl | exact n9 _ rfl | exact n10 _ rfl | exact n11 _ rfl | exact n12 _ _ rfl | exact n13 _ _ rfl | simp_all)
      · subst hk; simp_all
  · unfold pz_cki at h
    split
    all_goals try dsimp only at h
    all_goals try exact pz_beq h
    all_goals try simp only [Bool.and_eq_true] at h
    · obtain ⟨k1, k2, k3⟩ := h
      obtain ⟨c, hc, hx⟩ := pz_lt_mem k2
      obtain ⟨x1, x2⟩ := t2 c hc _ hx
      exact ⟨pz_beq k1, fun Ma hlt hI => ⟨Or.inl (x1 Ma hlt hI), pz_bne k3⟩, x2.1, x2.2.1, x2.2.2.1, x2.2.2.2.1⟩
    · obtain ⟨k1, k2, k4, k3⟩ := h
      obtain ⟨c, hc, hx⟩ := pz_lt_mem k2
      obtain ⟨x1, x2⟩ := t2 c hc _ hx
      exact ⟨pz_beq k1, fun Ma hI => ⟨Or.inl (x1 Ma (Nat.le_of_ble_eq_true k4) hI), pz_bne k3⟩⟩
    · obtain ⟨k1, k3, k2⟩ := h
      rcases Bool.or_eq_true_iff.mp k2 with k2 | k2
      · simp only [Bool.and_eq_true] at k2
        obtain ⟨⟨k2, k5⟩, k6⟩ := k2
        obtain ⟨c, hc, hx⟩ := pz_lt_mem k2
        obtain ⟨x1, x2⟩ := t2 c hc _ hx
        refine ⟨pz_beq k1, fun Ma hlt hI => ⟨Or.inl (x1 Ma hlt hI), pz_bne k3⟩, fun hge => ?_⟩
        rcases Bool.or_eq_true_iff.mp k6 with k6 | k6
        · exact absurd (Nat.le_of_ble_eq_true k6) (by omega)
        · exact x2.2.2.2.2 (pz_beq k6)
      · simp only [Bool.and_eq_true] at k2
        obtain ⟨k2, k7, k4⟩ := k2
        refine ⟨pz_beq k1, fun Ma hlt hI => ⟨Or.inr ⟨rfl, hq (pz_beq k2), ?_⟩, pz_bne k3⟩, fun hge => ?_⟩
        · rcases Bool.or_eq_true_iff.mp k4 with m4 | m4
          · obtain ⟨m5, m6⟩ := Bool.and_eq_true_iff.mp m4
            exact Or.inl ⟨pz_beq m5, h4 Ma (by rw [← pz_beq m6]; exact hI)⟩
          · obtain ⟨m5, m6⟩ := Bool.and_eq_true_iff.mp m4
            exact Or.inr ⟨pz_beq m5, h9 Ma (by rw [← pz_beq m6]; exact hI)⟩
        · exact absurd (Nat.le_of_ble_eq_true k7) (by omega)
    · obtain ⟨k1, k2⟩ := h
      rw [cond_eq_ite] at k2
      split at k2
      · rename_i hlt
        rw [Bool.and_eq_true] at k2
        obtain ⟨c, hc, hx⟩ := pz_lt_mem k2.2
        have hlt := Nat.le_of_ble_eq_true hlt
        exact ⟨pz_beq k1, fun _ => (t3 c hc _ hx).1, fun hge => by omega⟩
      · rename_i hge
        refine ⟨pz_beq k1, fun hlt => absurd (Nat.ble_eq_true_of_le hlt) hge, fun _ => ?_⟩
        unfold pz_ckt pz_dec at k2
        simp only [Bool.and_eq_true, decide_eq_true_eq] at k2
        obtain ⟨e1, e2, e3, e4, e5, e6, e7⟩ := k2
        exact ⟨hq (pz_beq e1), e2, e3, e4, e5, e6, e7⟩
    · trivial

/-! how the tables' facts are put together -/
def wl_ll : List (List Cond) := [wsL_law0_r1, wsL_law0_r2, wsL_law0_r3, wsL_law0_r4, wsL_law0_r5, wsL_law0_r6, wsL_law0_r7, wsL_law0_r8, wsL_law0_r9, wsL_law0_r10, wsL_law0_r11, wsL_law0_r12, wsL_law0_r13, wsL_law0_r14, wsL_law0_r15, wsL_law0_r16, wsL_law0_r17, wsL_law0_r18, wsL_law0_r19, wsL_law0_r20, wsL_law0_r21, wsL_law0_r22, wsL_law0_r23, wsL_law0_r24, wsL_law0_r25, wsL_law0_r26, wsL_law0_r27, wsL_law0_r28, wsL_law0_r29, wsL_law0_r30, wsL_law0_r31, wsL_law0_r32, wsL_law0_r33, wsL_law0_r34, wsL_law0_r35, wsL_law0_r36, wsL_law0_r37, wsL_law0_r38, wsL_law0_r39, wsL_law0_r40, wsL_law0_r41, wsL_law0_r42, wsL_law0_r43, wsL_law0_r44, wsL_law0_r45, wsL_law0_r46, wsL_law0_r47, wsL_law0_r48, wsL_law0_r49, wsL_law0_r50, wsL_law0_r51, wsL_law0_r52, wsL_law0_r53, wsL_law0_r54, wsL_law0_r55, wsL_law0_r56, wsL_law0_r57, wsL_law0_r58, wsL_law0_r59, wsL_law0_r60, wsL_law0_r61, wsL_law0_r62, wsL_law0_r63, wsL_law0_r64, wsL_law0_r65, wsL_law0_r66, wsL_law0_r67, wsL_law0_r68, wsL_law0_r69, wsL_law0_r70, wsL_law0_r71, wsL_law0_r72, wsL_law0_r73, wsL_law0_r74, wsL_law0_r75, wsL_law0_r76, wsL_law0_r77, wsL_law0_r78, wsL_law0_r79, wsL_law0_r80, wsL_law0_r81, wsL_law0_r82, wsL_law0_r83, wsL_law0_r84, wsL_law0_r85, wsL_law0_r86, wsL_law0_r87, wsL_law0_r88, wsL_law0_r89, wsL_law0_r90, wsL_law0_r91, wsL_law0_r92, wsL_law0_r93, wsL_law0_r94, wsL_law0_r95, wsL_law0_r96, wsL_law0_r97, wsL_law0_r98, wsL_law0_r99, wsL_law0_r100, wsL_law0_r101, wsL_law0_r102, wsL_law0_r103, wsL_law0_r104, wsL_law0_r105, wsL_law0_r106, wsL_law0_r107, wsL_law0_r108, wsL_law0_r109, wsL_law0_r110, wsL_law0_r111, wsL_law0_r112, wsL_law0_r113, wsL_law0_r114]
theorem wl_flat : ∀ (ll : List (List Cond)) (k : Nat) (l : List Cond), ll[k]? = some l → ∀ w ∈ l, w ∈ ll.flatten := fun ll k l h w hw => List.mem_flatten.mpr ⟨l, List.mem_of_getElem? h, hw⟩
theorem wl_at0 {k : Nat} {l : List Cond} (h : wl_ll[k]? = some l) : ∀ w ∈ l, w ∈ wsL_law := fun w hw => by
  have h1 : w ∈ wl_ll.flatten := wl_flat _ k l h w hw
  have h2 : wl_ll.flatten = wl_big := by
    unfold wl_ll wl_big
    simp only [List.flatten_cons, List.flatten_nil, List.append_nil]
  rw [h2] at h1
  exact List.mem_append_left _ (List.mem_append_left _ (List.mem_append_left _ (List.mem_append_left _ (List.mem_append_left _ (List.mem_append_left _ (List.mem_append_left _ (List.mem_append_left _ (List.mem_append_left _ (List.mem_append_left _ h1)))))))))
def pz_al1 {α : Type} (P : Nat → α → Prop) : Nat → List α → Prop
  | _, [] => True
  | n, x :: r => P n x ∧ pz_al1 P (n + 1) r
def pz_al2 {α : Type} (P : Nat → α → Prop) : Nat → List (List α) → Prop
  | _, [] => True
  | n, c :: r => pz_al1 P (16 * n) c ∧ pz_al2 P (n + 1) r
theorem pz_al1_get {α : Type} {P : Nat → α → Prop} : ∀ {l : List α} {n j : Nat} {e : α}, pz_al1 P n l → l[j]? = some e → P (n + j) e
  | [], n, j, e, _, h => by simp at h
  | x :: r, n, 0, e, hp, h => by
    simp at h
    subst h
    exact hp.1
  | x :: r, n, j + 1, e, hp, h => by
    have := pz_al1_get (j := j) hp.2 (by simpa using h)
    rw [show n + (j + 1) = n + 1 + j by omega]
    exact this
theorem pz_al2_get {α : Type} {P : Nat → α → Prop} : ∀ {l : List (List α)} {n k : Nat} {c : List α}, pz_al2 P n l → l[k]? = some c → pz_al1 P (16 * (n + k)) c
  | [], n, k, c, _, h => by simp at h
  | x :: r, n, 0, c, hp, h => by
    simp at h
    subst h
    exact hp.1
  | x :: r, n, k + 1, c, hp, h => by
    have := pz_al2_get (k := k) hp.2 (by simpa using h)
    rw [show n + (k + 1) = n + 1 + k by omega]
    exact this
def pz_Py (I : pz_Ib) (y : Nat) (e : pz_Ey) : Prop := ((y ≠ 632 → pz_Mok e.1) ∧ pz_hok e.1) ∧ ∀ c ∈ e.2, ∀ x ∈ c, pz_Row I e.1 x.1 x.2.1 x.2.2.1 x.2.2.2.1 x.2.2.2.2 ∧ (y ≠ 632 → (x.2.1 = .iaload ∨ x.2.1 = .arraylength) → x.2.2.2.1 ≠ 60)
theorem pz_Tok_of {tb : pz_All} (h : pz_al2 (pz_Py (pz_II tb)) 0 tb) : pz_Tok (pz_TT tb) (pz_II tb) := by
  have key : ∀ y e, pz_atE tb y = some e → pz_Py (pz_II tb) y e := fun y e he => by
    obtain ⟨c, h1, h2⟩ := pz_atE_mem he
    have := pz_al1_get (pz_al2_get h h1) h2
    rw [show 16 * (0 + y / 16) + y % 16 = y by omega] at this
    exact this
  refine ⟨fun y M hI => ?_, fun y M pc i n a b hI hT => ?_⟩
  · unfold pz_II at hI
    split at hI
    · rename_i e he
      cases hI
      exact (key y e he).1
    · cases hI
  · unfold pz_II at hI
    unfold pz_TT at hT
    split at hI
    · rename_i e he
      cases hI
      rw [he] at hT
      dsimp only at hT
      unfold pz_look at hT
      obtain ⟨c, hc, hx⟩ := pz_getD_mem (pz_fnd_mem hT)
      have h5 := (key y e he).2 c hc (pc, i, n, a, b) hx
      dsimp only at h5
      exact h5
    · cases hI
theorem pz_Py_of {I : pz_Ib} {y q y4 y9 : Nat} {ls : pz_Ls} {M : pz_M} {rs : List (List pz_Rw)} (hM : y ≠ 632 → pz_Mok M) (hh : pz_hok M) (hl : pz_Lok I (pz_mN M).cls ls) (hq : q = 11 → (pz_mN M).cls = RX11) (h4 : ∀ Ma, I y4 = some Ma → pz_mN Ma = yX4_init) (h9 : ∀ Ma, I y9 = some Ma → pz_mN Ma = yX9_init)
    (hck : pz_ckm q y4 y9 ls (pz_mB M) rs = true) (h60 : y ≠ 632 → pz_c60 rs = true) : pz_Py I y (M, rs) := by
  refine ⟨⟨hM, hh⟩, fun c hc x hx => ⟨?_, fun hy hi ha => ?_⟩⟩
  · unfold pz_ckm at hck
    have h1 := List.all_eq_true.mp (List.all_eq_true.mp hck c hc) x hx
    unfold pz_ckr at h1
    rw [Bool.and_eq_true] at h1
    unfold pz_dec at h1
    exact pz_cki_ok hl hq h4 h9 (of_decide_eq_true h1.1) h1.2
  · have h1 := List.all_eq_true.mp (List.all_eq_true.mp (show (rs.all fun c => c.all pz_n60) = true from h60 hy) c hc) x hx
    unfold pz_n60 at h1
    rcases hi with hi | hi <;> rw [hi] at h1 <;> exact pz_bne h1 ha
theorem pz_h0 {M : pz_M} (h : pz_mH M = []) : pz_hok M := fun x hx => by rw [h] at hx; cases hx
theorem pz_hL {M : pz_M} (h : (pz_mH M).all (fun h => decide (h.2.2.2 = 24 ∨ h.2.2.2 = 13 ∨ h.2.2.2 = 15)) = true) (hc : (pz_mN M).cls = RL) (hr : RL ≠ RX11) (e : ∀ E, pz_isE E → Cond.classLink RL E (pz_exn E) ∈ wsL_law) : pz_hok M := fun x hx => by
  have h1 := of_decide_eq_true (List.all_eq_true.mp h x hx)
  rw [hc]
  exact ⟨hr, h1, e _ h1⟩
theorem pz_Mok_s {M : pz_M} (h1 : plainName (pz_mN M).cls = true ∧ ((pz_mN M).cls ≠ "java/lang/invoke/MethodHandle" ∧ (pz_mN M).cls ≠ "java/lang/invoke/VarHandle")) (h2 : (parseMethodDescriptor (pz_mN M).desc).map (fun d => d.parameters.length) = some (pz_mP M)) (h3 : Cond.initialized (pz_mN M).cls ∈ wsL_law) (hH : pz_mH M = []) (hc : Cond.code (pz_mN M) (pz_mB M) (pz_mL M) (pz_mR M) ∈ wsL_law) (hK : pz_mK M = 0) (hs : Cond.static (pz_mN M) ∈ wsL_law) : pz_Mok M :=
  ⟨h1, h2, h3, fun _ => hc, fun h => absurd hH h, fun _ => hs, fun h => (by rw [hK] at h; cases h), fun h => (by rw [hK] at h; cases h)⟩
theorem pz_Mok_h {M : pz_M} (h1 : plainName (pz_mN M).cls = true ∧ ((pz_mN M).cls ≠ "java/lang/invoke/MethodHandle" ∧ (pz_mN M).cls ≠ "java/lang/invoke/VarHandle")) (h2 : (parseMethodDescriptor (pz_mN M).desc).map (fun d => d.parameters.length) = some (pz_mP M)) (h3 : Cond.initialized (pz_mN M).cls ∈ wsL_law) (hH : pz_mH M ≠ []) (hc : Cond.codeWith (pz_mN M) (pz_mB M) (pz_mL M) (pz_mR M) (pz_mH M) ∈ wsL_law) (hK : pz_mK M = 0) (hs : Cond.static (pz_mN M) ∈ wsL_law) : pz_Mok M :=
  ⟨h1, h2, h3, fun h => absurd h hH, fun _ => hc, fun _ => hs, fun h => (by rw [hK] at h; cases h), fun h => (by rw [hK] at h; cases h)⟩
theorem pz_Mok_v {M : pz_M} (h1 : plainName (pz_mN M).cls = true ∧ ((pz_mN M).cls ≠ "java/lang/invoke/MethodHandle" ∧ (pz_mN M).cls ≠ "java/lang/invoke/VarHandle")) (h2 : (parseMethodDescriptor (pz_mN M).desc).map (fun d => d.parameters.length) = some (pz_mP M)) (h3 : Cond.initialized (pz_mN M).cls ∈ wsL_law) (hH : pz_mH M = []) (hc : Cond.code (pz_mN M) (pz_mB M) (pz_mL M) (pz_mR M) ∈ wsL_law) (hK : pz_mK M = 1) (hC : (pz_mN M).cls = pz_C (pz_mT M)) (hi : Cond.instanceMethod (pz_mN M) ∈ wsL_law) (hs : Cond.selects (pz_mN M).cls (pz_mN M) (pz_mN M) ∈ wsL_law) : pz_Mok M :=
  ⟨h1, h2, h3, fun _ => hc, fun h => absurd hH h, fun h => (by rw [hK] at h; cases h), fun _ => ⟨hH, hC, hi, hs⟩, fun h => (by rw [hK] at h; cases h)⟩
theorem pz_Mok_c {M : pz_M} (h1 : plainName (pz_mN M).cls = true ∧ ((pz_mN M).cls ≠ "java/lang/invoke/MethodHandle" ∧ (pz_mN M).cls ≠ "java/lang/invoke/VarHandle")) (h2 : (parseMethodDescriptor (pz_mN M).desc).map (fun d => d.parameters.length) = some (pz_mP M)) (h3 : Cond.initialized (pz_mN M).cls ∈ wsL_law) (hH : pz_mH M = []) (hc : Cond.code (pz_mN M) (pz_mB M) (pz_mL M) (pz_mR M) ∈ wsL_law) (hK : pz_mK M = 2) (hC : (pz_mN M).cls = pz_C (pz_mT M)) (hn : (pz_mN M).name = "<init>") (hR : pz_mR M = none) (hi : Cond.instanceMethod (pz_mN M) ∈ wsL_law) : pz_Mok M :=
  ⟨h1, h2, h3, fun _ => hc, fun h => absurd hH h, fun h => (by rw [hK] at h; cases h), fun h => (by rw [hK] at h; cases h), fun _ => ⟨hH, hC, hn, hR, hi⟩⟩
theorem pz_lmk_of {I : pz_Ib} {own : String} {idx a b : Nat} {M : pz_M} (hI : I a = some M) (ha : a < 10000) (hm : Cond.methodLink own idx (pz_mN M) ∈ wsL_law) : pz_lmk I own (idx, a, b) :=
  ⟨fun Ma _ h => by cases hI.symm.trans h; exact hm, fun h => (by have : a = 10000 := h; omega), fun h => (by have : a = 10001 := h; omega), fun h => (by have : a = 10002 := h; omega), fun h => (by have : a = 10003 := h; omega), fun h => (by have : a = 10004 := h; omega)⟩
theorem pz_lmk_b {I : pz_Ib} {own : String} {idx a b : Nat} (ha : 10000 ≤ a) (h : pz_lbk own idx a) : pz_lmk I own (idx, a, b) := ⟨fun Ma h => absurd h (Nat.not_lt.mpr ha), h⟩
theorem pz_lb0 {own : String} {idx : Nat} (h : Cond.methodLink own idx Lib.Math.min.name ∈ wsL_law) : pz_lbk own idx 10000 := ⟨fun _ => h, fun h => (by cases h), fun h => (by cases h), fun h => (by cases h), fun h => (by cases h)⟩
theorem pz_lb1 {own : String} {idx : Nat} (h : Cond.methodLink own idx Lib.Math.max.name ∈ wsL_law) : pz_lbk own idx 10001 := ⟨fun h => (by cases h), fun _ => h, fun h => (by cases h), fun h => (by cases h), fun h => (by cases h)⟩
theorem pz_lb2 {own : String} {idx : Nat} (h : Cond.methodLink own idx Lib.MathLoose.max_long.x ∈ wsL_law) : pz_lbk own idx 10002 := ⟨fun h => (by cases h), fun h => (by cases h), fun _ => h, fun h => (by cases h), fun h => (by cases h)⟩
theorem pz_lb3 {own : String} {idx : Nat} (h : Cond.methodLink own idx arraycopyName ∈ wsL_law) : pz_lbk own idx 10003 := ⟨fun h => (by cases h), fun h => (by cases h), fun h => (by cases h), fun _ => h, fun h => (by cases h)⟩
theorem pz_lb4 {own : String} {idx : Nat} (h : Cond.methodLink own idx Lib.objectInit ∈ wsL_law) : pz_lbk own idx 10004 := ⟨fun h => (by cases h), fun h => (by cases h), fun h => (by cases h), fun h => (by cases h), fun _ => h⟩
theorem pz_lc0 {own : String} {idx t b : Nat} (ht : t < 6) (h : Cond.classLink own idx (pz_C t) ∈ wsL_law) (h2 : Cond.instantiable (pz_C t) (pz_n t) ∈ wsL_law) (h3 : Cond.initialized (pz_C t) ∈ wsL_law) : pz_lck own (idx, t, b) := ⟨fun _ => ⟨h, h2, h3⟩, fun h => (by have : t = 50 := h; omega), fun h => (by have : t = 51 := h; omega)⟩
theorem pz_lc50 {own : String} {idx b : Nat} (h : Cond.classLink own idx RX6 ∈ wsL_law) : pz_lck own (idx, 50, b) := ⟨fun h => absurd (show (50 : Nat) < 6 from h) (by decide), fun _ => h, fun h => (by cases h)⟩
theorem pz_lc51 {own : String} {idx b : Nat} (h : Cond.classLink own idx "[[I" ∈ wsL_law) : pz_lck own (idx, 51, b) := ⟨fun h => absurd (show (51 : Nat) < 6 from h) (by decide), fun h => (by cases h), fun _ => h⟩
theorem pz_lv0 {own : String} {idx a : Nat} (h : Cond.constant own idx (Int32.ofNat a) ∈ wsL_law) : pz_lvk own (idx, a, 0) := ⟨fun _ => h, fun h => (by cases h)⟩
theorem pz_lv1 {own : String} {idx a : Nat} (h : Cond.constantLong own idx (pz_lcs.getD a 0) ∈ wsL_law) : pz_lvk own (idx, a, 1) := ⟨fun h => (by cases h), fun _ => h⟩
