/-! THE PURE MACHINE'S RUNS ARE THE MACHINE'S: whole bodies. -/
theorem pz_kill_le (L : pz_L) (i : Nat) : (pz_kill L i).length = L.length := pz_kill_len L i
section PM2
variable {σ σ' : pz_S} {L L' : pz_L} {st st' : List pz_V} {pc pc' : Nat}
theorem pz_st1_len (L : pz_L) (i : Nat) (v : pz_V) : (pz_st1 L i v).length = L.length := by unfold pz_st1; rw [List.length_set, pz_kill_len]
theorem pz_st2_len (L : pz_L) (i : Nat) (v : pz_V) : (pz_st2 L i v).length = L.length := by unfold pz_st2; rw [List.length_set, List.length_set, pz_kill_len]
set_option maxHeartbeats 4000000 in
theorem pz_step_len {fin : Bool} {i : Instr} {a b : Nat} (hs : pz_step fin i a b pc L st σ = some (pc', L', st', σ')) : L'.length = L.length := by
  unfold pz_step at hs
  split at hs
  all_goals try (simp only [pz_push, pz_ldi, pz_ldl, pz_lda, pz_sti, pz_sta, pz_stl, pz_inc, pz_bin, pz_dv, pz_lbin, pz_ldv, pz_un, pz_if, pz_ic, pz_br, pz_sw, pz_get, pz_put, pz_ilo, pz_llo, pz_alo, pz_isto, pz_bsto, pz_lsto, pz_asto, pz_len, pz_newa, pz_mnew, pz_new, pz_dup, pz_pop, pz_dupx1, pz_dupx2, pz_dup2, cond_eq_ite] at hs)
  all_goals repeat' split at hs
  all_goals first | cases hs; done | (cases hs; first | rfl | exact pz_st1_len _ _ _ | exact pz_st2_len _ _ _)
end PM2
def pz_thrF (own : String) (cc : ByteArray) (pc E : Nat) : Prop := own = RX11 ∧ pz_isE E ∧ decode cc pc = .ok (.new (pz_tix E).1, 3) ∧ decode cc (pc + 3) = .ok (.dup, 1) ∧ decode cc (pc + 4) = .ok (.ldc_w (pz_tix E).2.1, 3) ∧ decode cc (pc + 7) = .ok (.invokespecial (pz_tix E).2.2, 3) ∧ decode cc (pc + 10) = .ok (.athrow, 1)
/-- what is known of a row of the table -/
def pz_Row (I : pz_Ib) (M : pz_M) (pc : Nat) (i : Instr) (n a b : Nat) : Prop := decode (pz_mB M) pc = .ok (i, n) ∧ (pz_sp i = false → pz_lk (pz_mN M).cls i a b ∧ (n = pz_il i ∨ ∃ d lo hi offs, i = .tableswitch d lo hi offs) ∧ ∀ k, i = .putfield k → a ≠ 60) ∧
  match i with
  | .ireturn | .lreturn | .areturn | .return_ | .iaload | .arraylength => n = 1
  | .invokestatic idx => n = 3 ∧ (∀ Ma, a < 10000 → I a = some Ma → pz_lkV (pz_mN M).cls idx 0 (pz_mN Ma) ∧ a ≠ 632) ∧ (a = 10000 → Cond.methodLink (pz_mN M).cls idx Lib.Math.min.name ∈ wsL_law) ∧ (a = 10001 → Cond.methodLink (pz_mN M).cls idx Lib.Math.max.name ∈ wsL_law) ∧
      (a = 10002 → Cond.methodLink (pz_mN M).cls idx Lib.MathLoose.max_long.x ∈ wsL_law) ∧ (a = 10003 → Cond.methodLink (pz_mN M).cls idx arraycopyName ∈ wsL_law)
  | .invokevirtual idx => n = 3 ∧ ∀ Ma, I a = some Ma → pz_lkV (pz_mN M).cls idx 1 (pz_mN Ma) ∧ a ≠ 632
  | .invokespecial idx => n = 3 ∧ (∀ Ma, a < 10000 → I a = some Ma → pz_lkV (pz_mN M).cls idx 2 (pz_mN Ma) ∧ a ≠ 632) ∧ (10000 ≤ a → Cond.methodLink (pz_mN M).cls idx Lib.objectInit ∈ wsL_law)
  | .new idx => n = 3 ∧ (a < 100 → pz_lk (pz_mN M).cls (.new idx) a b) ∧ (100 ≤ a → pz_thrF (pz_mN M).cls (pz_mB M) pc (a - 100))
  | _ => True
def pz_hok (M : pz_M) : Prop := ∀ h ∈ pz_mH M, (pz_mN M).cls ≠ RX11 ∧ pz_isE h.2.2.2 ∧ Cond.classLink (pz_mN M).cls h.2.2.2 (pz_exn h.2.2.2) ∈ wsL_law
def pz_Tok (T : pz_Tb) (I : pz_Ib) : Prop := (∀ y M, I y = some M → (y ≠ 632 → pz_Mok M) ∧ pz_hok M) ∧ ∀ y M pc i n a b, I y = some M → T y pc = some (i, n, a, b) → pz_Row I M pc i n a b ∧ (y ≠ 632 → (i = .iaload ∨ i = .arraylength) → a ≠ 60)
abbrev pz_sup : List String := ["java/lang/RuntimeException", "java/lang/Exception"]
/-- words of all methods -/
def pz_Gl : Prop := (Cond.arrayClass .int ∈ wsL_law ∧ Cond.arrayClass .long ∈ wsL_law ∧ Cond.arrayClass .boolean ∈ wsL_law) ∧
  (Cond.static Lib.Math.min.name ∈ wsL_law ∧ Cond.static Lib.Math.max.name ∈ wsL_law ∧ Cond.static Lib.MathLoose.max_long.x ∈ wsL_law ∧ Cond.initialized "java/lang/Math" ∈ wsL_law ∧ Cond.code Lib.Math.min.name Lib.Math.min.code 2 (some .int) ∈ wsL_law ∧ Cond.code Lib.Math.max.name Lib.Math.max.code 2 (some .int) ∈ wsL_law ∧ Cond.code Lib.MathLoose.max_long.x Lib.MathLoose.max_long.code 4 (some .long) ∈ wsL_law) ∧
  (Cond.native arraycopyName ∈ wsL_law ∧ Cond.static arraycopyName ∈ wsL_law ∧ Cond.initialized "java/lang/System" ∈ wsL_law) ∧
  (Cond.instanceMethod Lib.objectInit ∈ wsL_law ∧ Cond.code Lib.objectInit ⟨#[0xb1]⟩ 1 none ∈ wsL_law) ∧
  ∀ E, pz_isE E → Bundle.fit (pz_exn E) = true ∧ Cond.classLink RX11 (pz_tix E).1 (pz_exn E) ∈ wsL_law ∧ Cond.initialized (pz_exn E) ∈ wsL_law ∧ (∀ w ∈ (vx_atS RX11 (pz_tix E).2.2 (pz_exn E) pz_sup).filter goodWord, w ∈ wsL_law) ∧
    (∀ w ∈ (vx_atS RX11 (pz_tix E).2.2 (pz_exn E) pz_sup).filter (fun w => !goodWord w), w ∈ [Cond.castable (pz_exn E) (pz_exn E), Cond.declares (Bundle.initS "java/lang/RuntimeException"), Cond.declares (Bundle.initS "java/lang/Exception"), Cond.declares (Bundle.initS Bundle.tN)]) ∧
    ∀ w ∈ Cond.classLink RX11 (pz_tix E).1 (pz_exn E) :: Cond.initialized (pz_exn E) :: vx_atS RX11 (pz_tix E).2.2 (pz_exn E) pz_sup, vx_ot w = true
theorem pz_sup_fit : ∀ n ∈ pz_sup, Bundle.fit n = true := by decide +kernel
/-! a callee's locals -/
theorem pz_es_map (ad : pz_R → Nat) : ∀ as : List pz_V, (lg_sl (as.map (pz_cv ad))).length = (pz_es as).length ∧ ∀ (i : Nat) (v : pz_V), (pz_es as).getD i none = some v → (lg_sl (as.map (pz_cv ad)))[i]? = some (.val (pz_cv ad v))
  | [] => ⟨rfl, fun i v h => by simp [pz_es] at h⟩
  | v :: as => by
    obtain ⟨h1, h2⟩ := pz_es_map ad as
    have hc : ((pz_cv ad v).category = 2) = (pz_c2 v = true) := by
      rw [pz_cat]
      rcases v with x | x | r <;> simp [pz_w1, pz_c2]
    have e1 : pz_es (v :: as) = (bif pz_c2 v then [some v, none] else [some v]) ++ pz_es as := rfl
    have e2 : lg_sl ((v :: as).map (pz_cv ad)) = (if (pz_cv ad v).category = 2 then [.val (pz_cv ad v), .second] else [.val (pz_cv ad v)]) ++ lg_sl (as.map (pz_cv ad)) := rfl
    cases hv : pz_c2 v
    · rw [e1, e2, if_neg (by rw [hc, hv]; decide), hv]
      refine ⟨by simp [h1], fun i w hw => ?_⟩
      cases i with
      | zero => simp at hw; simp [hw]
      | succ i => simp at hw; simpa using h2 i w (by simpa using hw)
    · rw [e1, e2, if_pos (by rw [hc, hv]), hv]
      refine ⟨by simp [h1], fun i w hw => ?_⟩
      match i, hw with
      | 0, hw => simp at hw; simp [hw]
      | 1, hw => simp at hw
      | i + 2, hw => simp at hw; simpa using h2 i w (by simpa using hw)
theorem pz_ent_lr {ad : pz_R → Nat} {as : List pz_V} {n : Nat} (h : (pz_es as).length ≤ n) : pz_lr ad ((lg_sl (as.map (pz_cv ad)) ++ List.replicate (n - (lg_sl (as.map (pz_cv ad))).length) Slot.unset).toArray) (pz_ent as n) := by
  obtain ⟨h1, h2⟩ := pz_es_map ad as
  obtain ⟨a1, a2, -⟩ := lv_entry (as.map (pz_cv ad)) (n := n) (by rw [h1]; exact h)
  refine ⟨by rw [a1]; unfold pz_ent; simp; omega, a2, fun i v hv => ?_⟩
  unfold pz_ent at hv
  rw [List.getD_eq_getElem?_getD] at hv
  by_cases hi : i < (pz_es as).length
  · rw [List.getElem?_append_left hi, ← List.getD_eq_getElem?_getD] at hv
    have := h2 i v hv
    rw [List.getElem?_toArray, List.getElem?_append_left (by rw [h1]; exact hi)]
    exact this
  · rw [List.getElem?_append_right (by omega), List.getElem?_replicate] at hv
    split at hv <;> cases hv
theorem pz_ent_ok {n k : Nat} {as : List pz_V} (h : pz_okS n as) : pz_okL n (pz_ent as k) := by
  intro i v hv
  unfold pz_ent at hv
  rw [List.getD_eq_getElem?_getD] at hv
  by_cases hi : i < (pz_es as).length
  · rw [List.getElem?_append_left hi] at hv
    have hm : some v ∈ pz_es as := by
      cases hg : (pz_es as)[i]? with
      | none => rw [hg] at hv; cases hv
      | some z =>
        rw [hg] at hv
        have := List.mem_of_getElem? hg
        rw [show z = some v from hv] at this
        exact this
    unfold pz_es at hm
    obtain ⟨w, hw, hz⟩ := List.mem_flatMap.mp hm
    cases hc : pz_c2 w <;> rw [hc] at hz <;> simp at hz <;> exact hz ▸ h w hw
  · rw [List.getElem?_append_right (by omega), List.getElem?_replicate] at hv
    split at hv <;> cases hv
theorem pz_ent_len {as : List pz_V} {n : Nat} (h : (pz_es as).length ≤ n) : (pz_ent as n).length = n := by unfold pz_ent; simp; omega
/-! what a body owes at its ends -/
/-- what law reads: a script array -/
def pz_Sc (s : State) (A : Nat → Prop) (n0 : Nat) (ad0 : pz_R → Nat) (σ : pz_S) : Prop := ∃ (b len : Nat) (xs : Nat → Int32), va_X b len xs s s.heap ∧ b < s.heap.size ∧ ¬ A b ∧ 0 < n0 ∧ ad0 (0, 0) = b ∧ 0 < σ.1 ∧ pz_sh σ 0 = (60, 1, len) ∧ pz_mm σ 0 0 = xs
theorem pz_Sc_le {s : State} {A : Nat → Prop} {n0 : Nat} {ad0 : pz_R → Nat} {σ σ' : pz_S} (h : pz_Sc s A n0 ad0 σ) (hl : pz_le σ σ') : pz_Sc s A n0 ad0 σ' := by
  obtain ⟨b, len, xs, h1, h2, h3, h4, h5, h6, h7, h8⟩ := h
  obtain ⟨l1, -, l3, l4⟩ := hl
  exact ⟨b, len, xs, h1, h2, h3, h4, h5, Nat.lt_of_lt_of_le h6 l1, by rw [l3 0 h6, h7], by rw [l4 0 h6 (by rw [h7]), h8]⟩
section PE
variable (p : Program) (l : Launch) (e : Env) (R : Room) (s : State) (m : MethodId) (args : Array Value) (below : List Frame) (meth : Method) (c : Code) (Q : State → Prop)
variable (D : va_G) (A : Nat → Prop) (kc0 ks0 n0 : Nat) (ad0 : pz_R → Nat) (T : pz_Tb) (I : pz_Ib) (y : Nat) (My : pz_M) (σ1 : pz_S) (o : pz_O)
def pz_Hr : Prop := ∀ (i : Instr) (pc : Nat) (L : pz_L) (st : List pz_V) (v : Option pz_V), decode (pz_mB My) pc = .ok (i, 1) → pz_rt i My st = some v → o = .inl v → pz_W p l e R s m args below meth c Q D A kc0 ks0 n0 ad0 (pc) (L) (st) (σ1)
def pz_Hx : Prop := ∀ (pc : Nat) (L : pz_L) (st : List pz_V) (σ : pz_S) (E : Nat), pz_thrF (pz_mN My).cls (pz_mB My) pc E → pz_thr My L st σ E = some (σ1, o) → n0 ≤ σ.1 → pz_W p l e R s m args below meth c Q D A kc0 ks0 n0 ad0 (pc) (L) (st) (σ)
def pz_Ho : Prop := ∀ (E pc : Nat) (ad : pz_R → Nat) (ls : Array Slot) (H : Heap) (locs : List Loc) (cells slots : Nat) (rest : List Value) (ce : Cell) (q : Nat), o = .inr E → pz_isE E → pz_mH My = [] → n0 ≤ σ1.1 → pz_ag n0 ad0 ad → pz_E D s A kc0 ks0 ad σ1 H locs cells slots →
  H[q]? = some ce → ce.vm = .none → s.vm.findClass (pz_exn E) = some ce.cls → vx_W p l e R s m args below meth c H locs cells slots Q (F0 m pc ls rest) q
def pz_Hy : Prop := I y = some My ∧ pz_Cx l p R s m args meth c A My ∧ (pz_kc σ1 ≤ kc0 + R.cells ∧ pz_ks σ1 ≤ ks0 + R.slots) ∧ pz_Hr p l e R s m args below meth c Q D A kc0 ks0 n0 ad0 My σ1 o ∧ pz_Hx p l e R s m args below meth c Q D A kc0 ks0 n0 ad0 My σ1 o ∧ pz_Ho p l e R s m args below meth c Q D A kc0 ks0 n0 ad0 My σ1 o
end PE
/-- runs of n are the machine's -/
def pz_Snd (l : Launch) (T : pz_Tb) (I : pz_Ib) (n : Nat) : Prop := ∀ (p : Program) (e : Env) (R : Room) (s : State) (m : MethodId) (args : Array Value) (below : List Frame) (meth : Method) (c : Code) (Q : State → Prop) (D : va_G) (A : Nat → Prop) (kc0 ks0 n0 : Nat) (ad0 : pz_R → Nat) (y : Nat) (My : pz_M) (σ1 : pz_S) (o : pz_O) (pc : Nat) (L : pz_L) (st : List pz_V) (σ : pz_S),
  pz_Hy p l e R s m args below meth c Q D A kc0 ks0 n0 ad0 I y My σ1 o → L.length = pz_mL My → n0 ≤ σ.1 → (y = 632 → pz_Sc s A n0 ad0 σ) → pz_run T I n y pc L st σ = some (σ1, o) → pz_W p l e R s m args below meth c Q D A kc0 ks0 n0 ad0 (pc) (L) (st) (σ)
/-! a callee's ends -/
section PD
variable {p : Program} {l : Launch} {e : Env} {R : Room} {s : State} {m : MethodId} {args : Array Value} {below : List Frame} {meth : Method} {c : Code} {Q : State → Prop}
variable {D : va_G} {A : Nat → Prop} {kc0 ks0 n0 : Nat} {ad0 : pz_R → Nat}
variable {σ σ1 : pz_S} {L : pz_L} {st as rest : List pz_V} {pc : Nat} {o : pz_O} {My Ma : pz_M}
theorem pz_endQ {ad : pz_R → Nat} {H : Heap} {locs : List Loc} {cells slots : Nat} {t : State} (E : pz_E D s A kc0 ks0 ad σ1 H locs cells slots) (ha : pz_ag n0 ad0 ad) (ht : t.heap = H) (hW : s.vm.Alike t.vm) : pz_En D A n0 ad0 σ1 ad t ∧ va_F A s t := by
  obtain ⟨ws, tys, hK, hP, hD, hS, hwd, -, -⟩ := E
  exact ⟨⟨ha, ws, tys, by rw [ht]; exact hP, va_K.moved hW hK, hD, hwd⟩, va_S.F hS ht⟩
theorem pz_ret_ok (C : pz_Cx l p R s m args meth c A My) : pz_Hr p l e R s m args below meth c (vx_MQ below (pz_Qc D A n0 ad0 σ1 o) (pz_Xc D A n0 ad0 σ1 o) args s (pz_kc σ1 - kc0) (pz_ks σ1 - ks0) A) D A kc0 ks0 n0 ad0 My σ1 o := by
  intro i pc L st v hd hv ho ad ls H locs cells slots ha E hl hL hS
  obtain ⟨hst, hx, hb, hml, hown, hts, hA, hF, hret, hlk, -⟩ := C
  have hkc : pz_kc σ1 - kc0 = cells := by obtain ⟨_, _, _, _, _, _, _, h, _⟩ := E; omega
  have hks : pz_ks σ1 - ks0 = slots := by obtain ⟨_, _, _, _, _, _, _, _, h⟩ := E; omega
  have hlc : ∀ q ∈ locs, A q.base := by obtain ⟨_, _, _, _, _, h, _⟩ := E; exact h.2.2
  have hq : ∀ w : Option pz_V, v = w → (∀ x, w = some x → pz_ok σ1.1 x) → ∀ t : State, t.heap = H → s.WarmedH t.vm → pz_Qc D A n0 ad0 σ1 o args s (.returned (w.map (pz_cv ad))) t := fun w hw hx t h1 h2 => by
    obtain ⟨e1, e2⟩ := pz_endQ E ha h1 h2.alike
    exact ⟨⟨ad, w, by rw [ho, hw], rfl, hx, e1⟩, e2⟩
  rw [hkc, hks]
  refine vx_ret ?_
  unfold pz_rt at hv
  split at hv
  · split at hv
    · rename_i x
      split at hv
      · rename_i hr
        cases hv
        have hq2 := hq _ rfl (fun y hy => by cases hy; trivial)
        rcases hr with hr | ⟨hr, hx01⟩
        · exact W.iret hx hb (hret.trans hr) hq2 hlc hd hlk
        · exact W.zret hx hb (hret.trans hr) (by rcases hx01 with rfl | rfl <;> rfl) hq2 hlc hd hlk
      · cases hv
    · cases hv
  · split at hv
    · rename_i x
      split at hv
      · rename_i hr
        cases hv
        exact W.lret hx hb (hret.trans hr) (hq _ rfl (fun y hy => by cases hy; trivial)) hlc hd hlk
      · cases hv
    · cases hv
  · split at hv
    · rename_i x
      split at hv
      · rename_i rt hr
        split at hv
        · rename_i hk
          cases hv
          have hrt : (∃ n, rt = .object n) ∨ ∃ t, rt = .array t := by
            cases rt <;> simp [pz_kd] at hk
            · exact Or.inl ⟨_, rfl⟩
            · exact Or.inr ⟨_, rfl⟩
          exact W.aret hx hb (hret.trans hr) hrt (by cases x; exact Or.inl rfl; exact Or.inr ⟨_, rfl⟩) (hq _ rfl (fun y hy => by cases hy; exact hS _ List.mem_cons_self)) hlc hd hlk
        · cases hv
      · cases hv
    · cases hv
  · split at hv
    · split at hv
      · rename_i hr
        cases hv
        exact W.vret hx hb (hret.trans hr) (hq _ rfl (fun y hy => by cases hy)) hlc hd hlk
      · cases hv
    · cases hv
  · cases hv
theorem pz_thr_ok (G : pz_Gl) (hst : l.stackTraces = false) (C : pz_Cx l p R s m args meth c A My) (hcap : pz_kc σ1 ≤ kc0 + R.cells ∧ pz_ks σ1 ≤ ks0 + R.slots) : pz_Hx p l e R s m args below meth c (vx_MQ below (pz_Qc D A n0 ad0 σ1 o) (pz_Xc D A n0 ad0 σ1 o) args s (pz_kc σ1 - kc0) (pz_ks σ1 - ks0) A) D A kc0 ks0 n0 ad0 My σ1 o := by
  intro pc L st σ E hF hthr hn0 ad ls H locs cells slots ha hE hl hL hS
  obtain ⟨hst, hx, hb, hml, hown, hts, hA, hFs, hret, hlk, hfr, hlo, htab, -⟩ := C
  obtain ⟨hcl, hisE, d0, d3, d4, d7, d10⟩ := hF
  obtain ⟨⟨f1, f2, f3, f4⟩, f5, f6, f9, f7, f8⟩ := hFs
  obtain ⟨hca, sa, hstr⟩ := f5 E hisE
  obtain ⟨g1, g2, g3, g4, g5, g6⟩ := G.2.2.2.2 E hisE
  unfold pz_thr at hthr
  split at hthr
  · rename_i hH
    rw [cond_eq_ite] at hthr
    split at hthr
    · rename_i hc
      simp only [Bool.and_eq_true] at hc
      obtain ⟨c1, c2, c3⟩ := hc
      have c1 := Nat.le_of_ble_eq_true c1
      have c2 := Nat.le_of_ble_eq_true c2
      have c3 := Nat.eq_of_beq_eq_true c3
      cases hthr
      obtain ⟨ws, tys, hK, hP, hD, hVS, hwd, hk1, hk2⟩ := hE
      have hkc : pz_kc σ + 1 - kc0 = cells + 1 := by omega
      have hks : pz_ks σ + 6 - ks0 = slots + 6 := by omega
      have hcap1 : pz_kc σ + 1 ≤ kc0 + R.cells := hcap.1
      have hcap2 : pz_ks σ + 6 ≤ ks0 + R.slots := hcap.2
      have hno : ∀ x ∈ c.exceptionTable.toList, covers x (pc + 10) = false := by
        rw [htab, hH]
        intro x hx9
        cases hx9
      refine vx_throwSW (names := pz_sup) (cls := pz_exn E) (text := pz_ext E) (ik := (pz_tix E).1) (is := (pz_tix E).2.1) (ic := (pz_tix E).2.2) (sa := sa) (own := RX11) (cc := pz_mB My) (A := A) hx hb hst (by rw [← hcl]; exact hown) g1 pz_sup_fit (hts _ g2) (hts _ g3) hstr
        (vx_hat (fun w hw => hts _ (g4 w hw)) g5 (vx_c (va_Nw.use rfl hca) (vx_c (va_Nw.use rfl (f9 _ (by simp [pz_dcl]))) (vx_c (va_Nw.use rfl (f9 _ (by simp [pz_dcl]))) (vx_c (va_Nw.use rfl (f9 _ (by simp [pz_dcl]))) vx_n))))) g6 f7 f8 hVS (by rw [hml]; exact hl.1.trans c3) d0 d3 d4 d7 d10 hno (by show 2 + 3 < R.frames; omega) (by rw [pz_wt_map]; show _ + 82 ≤ _; omega) (by omega) (by omega) hlk ?_ hVS.2.2 (by show cells + 1 ≤ pz_kc σ + 1 - kc0; omega) (by show slots + 6 ≤ pz_ks σ + 6 - ks0; omega)
      intro t hal hsz hkp
      have hP1 : va_P D pz_cls ws t.heap := va_P.kept hP (fun k q hk => hkp _ (vx_lt hP hk))
      refine ⟨⟨ad, E, rfl, hisE, rfl, ha, ws, tys, hP1, va_K.moved hal hK, hD, hwd⟩, Nat.le_trans hVS.1 hsz, fun q h1 h2 => ?_⟩
      rw [hkp q (Nat.lt_of_lt_of_le h1 hVS.1)]
      exact hVS.2.1 q h1 h2
    · cases hthr
  · cases hthr
theorem pz_out_ok (C : pz_Cx l p R s m args meth c A My) : pz_Ho p l e R s m args below meth c (vx_MQ below (pz_Qc D A n0 ad0 σ1 o) (pz_Xc D A n0 ad0 σ1 o) args s (pz_kc σ1 - kc0) (pz_ks σ1 - ks0) A) D A kc0 ks0 n0 ad0 My σ1 o := by
  intro E pc ad ls H locs cells slots rest ce q ho hisE hH hn0 ha hE hce hcv hcl
  obtain ⟨hst, hx, hb, hml, hown, hts, hA, hFs, hret, hlk, hfr, hlo, htab, -⟩ := C
  have hkc : pz_kc σ1 - kc0 = cells := by obtain ⟨_, _, _, _, _, _, _, h, _⟩ := hE; omega
  have hks : pz_ks σ1 - ks0 = slots := by obtain ⟨_, _, _, _, _, _, _, _, h⟩ := hE; omega
  have hlc : ∀ q ∈ locs, A q.base := by obtain ⟨_, _, _, _, _, h, _⟩ := hE; exact h.2.2
  refine vx_out (E := pz_exn E) (by rw [htab, hH]; intro x hx9; cases hx9) hlk hce hcv hcl (fun t ht hal => ?_) hlc (Nat.le_of_eq hkc.symm) (Nat.le_of_eq hks.symm)
  obtain ⟨e1, e2⟩ := pz_endQ hE ha ht hal
  exact ⟨⟨ad, E, ho, hisE, rfl, e1⟩, e2⟩
end PD
