/-! THE PURE MACHINE'S RUNS ARE THE MACHINE'S: contracts. -/
theorem wsL_law_gd : ∀ w ∈ wsL_law, ((w.onTables && w.keeps) = true ∨ ∃ ty, w = .arrayClass ty) := fun w h =>
  (List.mem_append.mp h).elim (fun h => (List.mem_append.mp h).elim (fun h => (List.mem_append.mp h).elim (wsL_law_gd0 w) (fun h => good_of_word (List.mem_filter.mp h).2)) (fun h => good_of_word (List.mem_filter.mp h).2)) (fun h => good_of_word (List.mem_filter.mp h).2)
def pz_exn (E : Nat) : String := if E = 24 then "java/lang/IndexOutOfBoundsException" else if E = 13 then "java/lang/IllegalArgumentException" else "java/lang/IllegalStateException"
def pz_ext (E : Nat) : String := if E = 24 then "there is no such thing" else if E = 13 then "an argument is out of its range" else "that can not be as things stand"
def pz_isE (E : Nat) : Prop := E = 24 ∨ E = 13 ∨ E = 15
/-- classes whose constructors the exceptions' own call -/
def pz_dcl : List String := ["java/lang/RuntimeException", "java/lang/Exception", Bundle.tN]
/-- what is known of the tables, the constants and the statics beside the words -/
def pz_F (A : Nat → Prop) (s : State) : Prop :=
  (va_AO RX6 s ∧ va_AOA .int s ∧ va_Nw (.methodLinkNest RX11 18 yX4_init RX11) s ∧ va_Nw (.methodLinkNest RX11 25 yX9_init RX11) s) ∧
  (∀ E, pz_isE E → va_Nw (.castable (pz_exn E) (pz_exn E)) s ∧ ∃ sa, vk_R RX11 (pz_tix E).2.1 (pz_ext E) sa s) ∧
  (∀ E E', pz_isE E → pz_isE E' → E ≠ E' → va_Nc (pz_exn E) (pz_exn E') s) ∧ (∀ Y ∈ pz_dcl, va_Nw (.declares (Bundle.initS Y)) s) ∧
  vx_Zq Bundle.tN "UNASSIGNED_STACK" Bundle.steD A s s.heap ∧ vx_Zq Bundle.tN "SUPPRESSED_SENTINEL" Bundle.listD A s s.heap
theorem pz_F_to {A A' : Nat → Prop} {s U : State} {H : Heap} {locs : List Loc} (h : pz_F A s) (hW : s.WarmedH U.vm) (hH : U.heap = H) (hS : va_S A s.heap H locs) (hA : ∀ q, A' q → A q) : pz_F A' U := by
  obtain ⟨⟨a1, a2, a3, a4⟩, b1, c1, e1, d1, d2⟩ := h
  refine ⟨⟨a1.moved hW.alike, a2.moved hW.alike, va_Nw.warmM hW a3, va_Nw.warmM hW a4⟩, fun E hE => ?_, fun E E' hE hE' hn => va_Nc.moved hW.alike (c1 E E' hE hE' hn), fun Y hY => va_Nw.warmD hW (e1 Y hY), ?_, ?_⟩
  · obtain ⟨q1, sa, q2⟩ := b1 E hE
    exact ⟨va_Nw.warmC hW q1, sa, vk_R.warm hW q2⟩
  · rw [hH]
    exact ((vx_Zq.moved hW.alike d1).kept hS.2.1).narrow hA
  · rw [hH]
    exact ((vx_Zq.moved hW.alike d2).kept hS.2.1).narrow hA
def pz_Mok (M : pz_M) : Prop :=
  (plainName (pz_mN M).cls = true ∧ ((pz_mN M).cls ≠ "java/lang/invoke/MethodHandle" ∧ (pz_mN M).cls ≠ "java/lang/invoke/VarHandle")) ∧ (parseMethodDescriptor (pz_mN M).desc).map (fun d => d.parameters.length) = some (pz_mP M) ∧ Cond.initialized (pz_mN M).cls ∈ wsL_law ∧
  (pz_mH M = [] → Cond.code (pz_mN M) (pz_mB M) (pz_mL M) (pz_mR M) ∈ wsL_law) ∧ (pz_mH M ≠ [] → Cond.codeWith (pz_mN M) (pz_mB M) (pz_mL M) (pz_mR M) (pz_mH M) ∈ wsL_law) ∧
  (pz_mK M = 0 → Cond.static (pz_mN M) ∈ wsL_law) ∧
  (pz_mK M = 1 → pz_mH M = [] ∧ (pz_mN M).cls = pz_C (pz_mT M) ∧ Cond.instanceMethod (pz_mN M) ∈ wsL_law ∧ Cond.selects (pz_mN M).cls (pz_mN M) (pz_mN M) ∈ wsL_law) ∧
  (pz_mK M = 2 → pz_mH M = [] ∧ (pz_mN M).cls = pz_C (pz_mT M) ∧ (pz_mN M).name = "<init>" ∧ pz_mR M = none ∧ Cond.instanceMethod (pz_mN M) ∈ wsL_law)
def pz_ws (M : pz_M) : List Cond := (match pz_mH M with | [] => Cond.code (pz_mN M) (pz_mB M) (pz_mL M) (pz_mR M) | _ => Cond.codeWith (pz_mN M) (pz_mB M) (pz_mL M) (pz_mR M) (pz_mH M)) :: wsL_law
theorem pz_ws_law {M : pz_M} (h : pz_Mok M) : ∀ w ∈ pz_ws M, w ∈ wsL_law := by
  intro w hw
  unfold pz_ws at hw
  rcases List.mem_cons.mp hw with e | e
  · obtain ⟨-, -, -, h1, h2, -⟩ := h
    subst e
    cases hh : pz_mH M with
    | nil => exact h1 hh
    | cons a r => rw [hh] at h2; exact h2 (by simp)
  · exact e
def pz_Bp (D : va_G) (ws : va_W) (tys : List (ClassId × FieldType)) (sz : Nat) (U : State) : Prop := U.heap.size = sz ∧ va_P D pz_cls ws U.heap ∧ va_K D pz_cls tys U ∧ va_D (fun _ => True) ws ∧ pz_F (va_A ws sz) U
def pz_En (D : va_G) (A : Nat → Prop) (n : Nat) (ad : pz_R → Nat) (σ1 : pz_S) (ad1 : pz_R → Nat) (t : State) : Prop :=
  pz_ag n ad ad1 ∧ ∃ (ws1 : va_W) (tys1 : List (ClassId × FieldType)), va_P D pz_cls ws1 t.heap ∧ va_K D pz_cls tys1 t ∧ va_D A ws1 ∧ pz_wd ad1 σ1 ws1 tys1
def pz_okO (n : Nat) (v : Option pz_V) : Prop := ∀ w, v = some w → pz_ok n w
def pz_Qc (D : va_G) (A : Nat → Prop) (n : Nat) (ad : pz_R → Nat) (σ1 : pz_S) (o : pz_O) : Array Value → State → Outcome → State → Prop := fun _ st oc t =>
  (∃ (ad1 : pz_R → Nat) (v : Option pz_V), o = .inl v ∧ oc = .returned (v.map (pz_cv ad1)) ∧ pz_okO σ1.1 v ∧ pz_En D A n ad σ1 ad1 t) ∧ va_F A st t
def pz_Xc (D : va_G) (A : Nat → Prop) (n : Nat) (ad : pz_R → Nat) (σ1 : pz_S) (o : pz_O) : String → State → State → Prop := fun E st t =>
  (∃ (ad1 : pz_R → Nat) (k : Nat), o = .inr k ∧ pz_isE k ∧ E = pz_exn k ∧ pz_En D A n ad σ1 ad1 t) ∧ va_F A st t
def pz_Rm (M : pz_M) (mc ms : Nat) : Room := { frames := pz_mF M, cells := mc, slots := ms, locals := pz_mW M }
def pz_Ct (l : Launch) (M : pz_M) (as : List pz_V) (σ σ1 : pz_S) (o : pz_O) : Prop := ∀ (D : va_G) (ad : pz_R → Nat) (ws : va_W) (tys : List (ClassId × FieldType)) (sz : Nat), pz_wd ad σ ws tys → pz_okS σ.1 as →
  vx_Met l (pz_mN M) (pz_ws M) (pz_Rm M (pz_kc σ1 - pz_kc σ) (pz_ks σ1 - pz_ks σ)) (va_Pc (as.map (pz_cv ad)) (pz_Bp D ws tys sz)) (pz_Qc D (va_A ws sz) σ.1 ad σ1 o) (pz_Xc D (va_A ws sz) σ.1 ad σ1 o) (pz_kc σ1 - pz_kc σ) (pz_ks σ1 - pz_ks σ) (va_A ws sz)
theorem pz_blind {as : List Value} {D : va_G} {ws : va_W} {tys : List (ClassId × FieldType)} {sz : Nat} : FrameBlind (va_Pc as (pz_Bp D ws tys sz)) := by
  intro a U g mk h
  obtain ⟨h0, h1, h2, h3, h4, h5⟩ := h
  exact ⟨h0, h1, h2, va_K.moved (u := U) (U := U.calling g mk a) (Vm.Alike.refl U.vm) h3, h4, pz_F_to (s := U) (U := U.calling g mk a) h5 (State.WarmedH.refl U) rfl va_S.rf (fun _ h => h)⟩
theorem pz_toMet {l : Launch} {y : MethodName} {ws : List Cond} {rm : Room} {Pc : Array Value → State → Prop} {Qc : Array Value → State → Outcome → State → Prop} {XC : String → State → State → Prop} {mc ms : Nat} {free : Addr → Prop} (h : vx_Met l y ws rm Pc Qc XC mc ms free) (hx : ∀ E st t, ¬ XC E st t) : Met l y ws rm Pc Qc mc ms free := by
  intro p e ha hc hk s m args below hf happ hP hK
  obtain ⟨n, o, h1, h2, h3, h4⟩ := h p e ha hc hk s m args below hf happ hP hK
  refine ⟨n, o, h1, h2, h3, ?_⟩
  rcases h4 with h4 | ⟨q, -, E, ce, L, h5, -⟩
  · exact h4
  · exact absurd h5 (hx _ _ _)
/-- what the machine knows of a method's body that it stands in -/
def pz_Cx (l : Launch) (p : Program) (R : Room) (s : State) (m : MethodId) (args : Array Value) (meth : Method) (c : Code) (A : Nat → Prop) (My : pz_M) : Prop :=
  l.stackTraces = false ∧ p.tables.exec = Jvm.exec ∧ c.code = pz_mB My ∧ c.maxLocals = pz_mL My ∧ s.vm.findClass (pz_mN My).cls = some m.cls ∧ (∀ w ∈ wsL_law, w.before args s = true) ∧ (∀ q, s.heap.size ≤ q → A q) ∧ pz_F A s ∧ meth.sig.returnType = pz_mR My ∧ meth.locks = false ∧
  pz_mF My ≤ R.frames ∧ pz_mW My ≤ R.locals ∧ c.exceptionTable.toList = tableOf (pz_mH My) ∧ (pz_mK My = 2 → meth.name = "<init>" ∧ (pz_mN My).cls = pz_C (pz_mT My))
/-- the link of a call: by its kind -/
def pz_lkV (own : String) (idx k : Nat) (N : MethodName) : Prop := Cond.methodLink own idx N ∈ wsL_law ∨ (k = 2 ∧ own = RX11 ∧ (idx = 18 ∧ N = yX4_init ∨ idx = 25 ∧ N = yX9_init))
section PC
variable {p : Program} {l : Launch} {e : Env} {R : Room} {s : State} {m : MethodId} {args : Array Value} {below : List Frame} {meth : Method} {c : Code} {Q : State → Prop}
variable {D : va_G} {A : Nat → Prop} {kc0 ks0 n0 : Nat} {ad0 : pz_R → Nat}
variable {σ σ1 : pz_S} {L : pz_L} {st as rest : List pz_V} {pc : Nat} {o : pz_O} {My Ma : pz_M}
theorem pz_fit_sp (h : pz_fit My Ma as rest = true) : pz_mF Ma + 1 ≤ pz_mF My ∧ 8 + (pz_mL Ma + 11) + pz_mW Ma ≤ pz_mW My ∧ pz_wt rest ≤ 8 ∧ (pz_es as).length ≤ pz_mL Ma := by
  unfold pz_fit at h
  simp only [Bool.and_eq_true] at h
  exact ⟨Nat.le_of_ble_eq_true h.1, Nat.le_of_ble_eq_true h.2.1, Nat.le_of_ble_eq_true h.2.2.1, Nat.le_of_ble_eq_true h.2.2.2⟩
theorem pz_args_sp {n : Nat} (h : pz_args n st = some (as, rest)) : st = as.reverse ++ rest ∧ as.length = n := by
  unfold pz_args at h
  split at h
  · rename_i hn
    cases h
    rw [List.reverse_reverse, List.take_append_drop]
    exact ⟨rfl, by rw [List.length_reverse, List.length_take]; omega⟩
  · cases h
/-- a call of the machine, for a contract of the pure one -/
theorem pz_call {idx k : Nat} {ins : Instr} {ad : pz_R → Nat} {ls : Array Slot} {H : Heap} {locs : List Loc} {cells slots : Nat} {ws : va_W} {tys : List (ClassId × FieldType)} (C : pz_Cx l p R s m args meth c A My) (ho : pz_Mok Ma) (hk : pz_mK Ma = k) (hl : pz_lkV (pz_mN My).cls idx k (pz_mN Ma))
    (hi : (k = 0 ∧ ins = .invokestatic idx) ∨ (k = 1 ∧ ins = .invokevirtual idx) ∨ (k = 2 ∧ ins = .invokespecial idx ∧ ∃ v, o = .inl v)) (hdg : decode (pz_mB My) pc = .ok (ins, 3)) (hfit : pz_fit My Ma as rest = true) (hlen : as.length = pz_mP Ma + (if k = 0 then 0 else 1)) (hrc : k ≠ 0 → pz_rcv σ (pz_mT Ma) as = true)
    (hct : pz_Ct l Ma as σ σ1 o) (hls : ls.size = pz_mL My) (hK : va_K D pz_cls tys s) (hP : va_P D pz_cls ws H) (hD : va_D A ws) (hS : va_S A s.heap H locs) (hW : pz_wd ad σ ws tys) (hok : pz_okS σ.1 as) (hcap : cells + (pz_kc σ1 - pz_kc σ) ≤ R.cells ∧ slots + (pz_ks σ1 - pz_ks σ) ≤ R.slots) :
    vx_Run p l e R s m args below meth c H locs cells slots (pz_kc σ1 - pz_kc σ) (pz_ks σ1 - pz_ks σ) (F0 m pc ls ((as.reverse ++ rest).map (pz_cv ad))) (rest.map (pz_cv ad)) (pz_Qc D (va_A ws H.size) σ.1 ad σ1 o (as.map (pz_cv ad)).toArray) (pz_Xc D (va_A ws H.size) σ.1 ad σ1 o) (va_A ws H.size) := by
  obtain ⟨hst, hx, hb, hml, hown, hts, hA, hF, -, -, hfr, hlo, -, -⟩ := C
  obtain ⟨f1, f2, f3, f4⟩ := pz_fit_sp hfit
  have hM := hct D ad ws tys H.size hW hok
  have hA' : ∀ q, va_A ws H.size q → A q := fun q hq => hq.elim (fun ⟨k9, e9, h9⟩ => hD.2 k9 _ h9) (fun h9 => hA q (Nat.le_trans hS.1 h9))
  have hPc : ∀ U : State, U.heap = H → s.WarmedH U.vm → va_Pc (as.map (pz_cv ad)) (pz_Bp D ws tys H.size) (as.map (pz_cv ad)).toArray U := fun U hU hWm =>
    ⟨rfl, by rw [hU], by rw [hU]; exact hP, va_K.moved hWm.alike hK, hD.weaken (fun _ _ _ _ => trivial), pz_F_to hF hWm hU hS hA'⟩
  have hws : ∀ w ∈ pz_ws Ma, ∀ (a' : Array Value) (U : State), s.WarmedH U.vm → w.before a' U = true := fun w hw a' U hWm => word_at hWm (wsL_law_gd w (pz_ws_law ho w hw)) (hts w (pz_ws_law ho w hw))
  have hwt : 2 * (F0 m pc ls ((as.reverse ++ rest).map (pz_cv ad))).monitorRoom + (((rest.map (pz_cv ad)).map fun v => v.category).sum) ≤ 8 := lv_room (by rw [pz_wt_map]; exact f3)
  obtain ⟨⟨hpl, hne⟩, hpar, hini, hco, hcw, hk0, hk1, hk2⟩ := ho
  have hsig : ∀ sig, parseMethodDescriptor (pz_mN Ma).desc = some sig → pz_mP Ma = sig.parameters.length := fun sig h => by
    rw [h] at hpar
    exact (Option.some.inj hpar).symm
  have hsz : (F0 m pc ls ((as.reverse ++ rest).map (pz_cv ad))).locals.size = pz_mL My := hls
  rcases hi with ⟨rfl, rfl⟩ | ⟨rfl, rfl⟩ | ⟨rfl, rfl, v, hv⟩
  · have hlk : Cond.methodLink (pz_mN My).cls idx (pz_mN Ma) ∈ wsL_law := hl.elim id (fun h => absurd h.1 (by omega))
    have hstk : (F0 m pc ls ((as.reverse ++ rest).map (pz_cv ad))).stack = (as.map (pz_cv ad)).reverse ++ rest.map (pz_cv ad) := by
      show (as.reverse ++ rest).map (pz_cv ad) = _
      rw [List.map_append, List.map_reverse]
    cases hh : pz_mH Ma with
    | nil =>
      have hcode := hco hh
      exact vx_runS (n := pz_mP Ma) (index := idx) (bytes := pz_mB Ma) (maxL := pz_mL Ma) (ret := pz_mR Ma) (Ts := wsL_law) ⟨hx, hb, hml, hown, hts⟩ hM ⟨⟨rfl, rfl, Nat.le_trans f1 hfr, Nat.le_trans f2 hlo, hws, by unfold pz_ws; rw [hh]; exact List.mem_cons_self, hts _ hcode, hts _ hini, hne, hsig, hts _ hlk⟩, hts _ (hk0 hk)⟩ ⟨pz_blind, hPc⟩ rfl (by rw [List.length_map]; exact hlen) hsz hstk hwt hdg hcap
    | cons h9 r9 =>
      have hcode := hcw (by rw [hh]; simp)
      exact vx_runSX (n := pz_mP Ma) (index := idx) (bytes := pz_mB Ma) (maxL := pz_mL Ma) (ret := pz_mR Ma) (hh := pz_mH Ma) (Ts := wsL_law) ⟨hx, hb, hml, hown, hts⟩ hM ⟨⟨rfl, rfl, Nat.le_trans f1 hfr, Nat.le_trans f2 hlo, hws, by unfold pz_ws; rw [hh]; exact List.mem_cons_self⟩, hts _ hcode, hts _ hini, hne, hsig, hts _ hlk, hts _ (hk0 hk)⟩ ⟨pz_blind, hPc⟩ rfl (by rw [List.length_map]; exact hlen) hsz hstk hwt hdg hcap
  · have hlk : Cond.methodLink (pz_mN My).cls idx (pz_mN Ma) ∈ wsL_law := hl.elim id (fun h => absurd h.1 (by omega))
    obtain ⟨hh, hcl, him, hsel⟩ := hk1 hk
    have hr := hrc (by omega)
    unfold pz_rcv at hr
    split at hr
    · rename_i f i as'
      rw [Bool.and_eq_true] at hr
      have ht6 : pz_mT Ma < 6 := Nat.le_of_ble_eq_true hr.2
      have hin := pz_is_in hr.1 (Or.inl ht6)
      obtain ⟨htag, -⟩ := pz_is_sp hr.1
      obtain ⟨q0, hq0⟩ := (hW.2.1 f i hin).1 (by rw [htag]; exact ht6)
      rw [htag] at hq0
      have hstk : (F0 m pc ls ((((.inr (.inr (some (f, i))) : pz_V) :: as').reverse ++ rest).map (pz_cv ad))).stack = (as'.map (pz_cv ad)).reverse ++ .ref (ad (f, i)) :: rest.map (pz_cv ad) := by
        show ((((.inr (.inr (some (f, i))) : pz_V) :: as').reverse ++ rest).map (pz_cv ad)) = _
        rw [List.map_append, List.reverse_cons, List.map_append, List.map_reverse, List.append_assoc]
        rfl
      have hcode := hco hh
      exact vx_runV (C := (pz_mN Ma).cls) (b := ad (f, i)) (As := as'.map (pz_cv ad)) (n := pz_mP Ma) (index := idx) (bytes := pz_mB Ma) (maxL := pz_mL Ma) (ret := pz_mR Ma) (Ts := wsL_law) ⟨hx, hb, hml, hown, hts⟩ hM
        ⟨⟨rfl, rfl, Nat.le_trans f1 hfr, Nat.le_trans f2 hlo, hws, by unfold pz_ws; rw [hh]; exact List.mem_cons_self, hts _ hcode, hts _ hini, hne, hsig, hts _ hlk⟩, hts _ him, hts _ hsel⟩ ⟨pz_blind, by rw [hcl]; exact va_recv hK hP (q0 := q0) (pz_cls_at ht6) hq0, hPc⟩ rfl (by rw [List.length_map]; rw [List.length_cons] at hlen; simp at hlen; exact hlen) hsz hstk hwt hdg hcap
    · cases hr
  · obtain ⟨hh, hcl, hnm, hrt, him⟩ := hk2 hk
    have hM2 := pz_toMet hM (fun E st t h => by obtain ⟨⟨a9, k9, e9, -⟩, -⟩ := h; rw [hv] at e9; cases e9)
    have hr := hrc (by omega)
    unfold pz_rcv at hr
    split at hr
    · rename_i f i as'
      have hstk : (F0 m pc ls ((((.inr (.inr (some (f, i))) : pz_V) :: as').reverse ++ rest).map (pz_cv ad))).stack = (as'.map (pz_cv ad)).reverse ++ .ref (ad (f, i)) :: rest.map (pz_cv ad) := by
        show ((((.inr (.inr (some (f, i))) : pz_V) :: as').reverse ++ rest).map (pz_cv ad)) = _
        rw [List.map_append, List.reverse_cons, List.map_append, List.map_reverse, List.append_assoc]
        rfl
      have hcode := hco hh
      rw [hrt] at hcode
      have hln : (as'.map (pz_cv ad)).length = pz_mP Ma := by rw [List.length_map]; rw [List.length_cons] at hlen; simp at hlen; exact hlen
      have hcm : Cond.code (pz_mN Ma) (pz_mB Ma) (pz_mL Ma) none ∈ pz_ws Ma := by unfold pz_ws; rw [hh, hrt]; exact List.mem_cons_self
      have run9 : va_Run p l e R s m args below meth c H locs cells slots (pz_kc σ1 - pz_kc σ) (pz_ks σ1 - pz_ks σ) (F0 m pc ls ((((.inr (.inr (some (f, i))) : pz_V) :: as').reverse ++ rest).map (pz_cv ad))) (rest.map (pz_cv ad)) (pz_Qc D (va_A ws H.size) σ.1 ad σ1 o ((.ref (ad (f, i)) :: as'.map (pz_cv ad) : List Value)).toArray) (va_A ws H.size) := by
        rcases hl with hl | ⟨-, ho2, hl⟩
        · exact va_runI (b := ad (f, i)) (As := as'.map (pz_cv ad)) (n := pz_mP Ma) (index := idx) (bytes := pz_mB Ma) (maxL := pz_mL Ma) (Ts := wsL_law) ⟨hx, hb, hml, hown, hts⟩ hM2
            ⟨⟨rfl, rfl, Nat.le_trans f1 hfr, Nat.le_trans f2 hlo, hws, hcm, hts _ hcode, hts _ hini, hne, hsig, hts _ hl⟩, hnm, hts _ him⟩ ⟨pz_blind, hPc⟩ rfl hln hsz hstk hwt hdg hcap
        · have hnest : (Cond.methodLinkNest (pz_mN My).cls idx (pz_mN Ma) RX11).before args s = true := by
            rw [ho2]
            rcases hl with ⟨rfl, hn⟩ | ⟨rfl, hn⟩
            · rw [hn]; exact va_Nw.use rfl hF.1.2.2.1
            · rw [hn]; exact va_Nw.use rfl hF.1.2.2.2
          exact va_runIN (b := ad (f, i)) (As := as'.map (pz_cv ad)) (n := pz_mP Ma) (index := idx) (bytes := pz_mB Ma) (maxL := pz_mL Ma) (host := RX11) (Ts := wsL_law) ⟨hx, hb, hml, hown, hts⟩ hM2
            ⟨⟨⟨rfl, rfl, Nat.le_trans f1 hfr, Nat.le_trans f2 hlo, hws, hcm⟩, hts _ hcode, hts _ hini, hne, hsig, hnest⟩, hnm, hts _ him⟩ ⟨pz_blind, hPc⟩ rfl hln hsz hstk hwt hdg hcap
      intro T hT X
      exact Or.inl (run9 T hT X)
    · cases hr
end PC
