/-! THE CLAIM OUT OF ONE WALK OF THE LAW'S BODY. Your part is whole_start (and what it stands on); all else here is the same for every law, but numbers. -/
def R_law : String := "MarketHallLaw"
def lw_P (b : Addr) (xs : List Int32) (args : Array Value) (s : State) : Prop := args = #[.ref b] ∧ s.IntsAt b xs ∧ xs.length ≤ 7 ∧ (Jvm.Cond.and given_1 narrow_1).before args s = true
def lw_Q (_ : Array Value) (s : State) (o : Outcome) (t : State) : Prop := o = .returned (some (.int 1)) ∧ Framed s o t [] 600002 7302232
def lw_Z (below : List Frame) (a : Array Value) (s : State) : State → Prop := fun t => ∃ o, t.status = .running ∧ Ended t below o ∧ lw_Q a s o t
/-- the law's own end, with 1 on the stack, nothing written that was there before, its room as the claim has it -/
theorem lw_ret {p : Program} {l : Launch} {e : Env} {s : State} {m : MethodId} {below : List Frame} {meth : Method} {c : Code} {b : Nat} (hx : p.tables.exec = Jvm.exec) (hb : c.code = code) (hr : meth.sig.returnType = ret) (hlocks : meth.locks = false) {pc : Nat} {H : Heap} {ls : Array Slot} (hdg : decode code pc = .ok (.ireturn, 1)) : W p l e room_1 s m #[Value.ref b] below meth c H [] 600002 7302232 (lw_Z below #[Value.ref b] s) (F0 m pc ls [.int 1]) := by
  intro T hT X
  obtain ⟨fs, hret, hrun, hended, hW, hframe⟩ := X.leave (v := some (.int 1)) (hlocks := hlocks) (fun h => by rw [hr] at h; cases h)
  have hmeth' : T.vm.method? m = some meth := X.method'
  refine ⟨T.setFrames fs, ?_, .returned (some (.int 1)), hrun, hended, rfl, ⟨_, rfl⟩, hW, hframe⟩
  jvm_step X.here [X.here.top, hx, hb, hdg, hmeth', hr, ret, narrow_b1]
  (try refine ⟨rfl, ?_⟩); (try refine ⟨rfl, ?_⟩)
  first | (intro acts; rw [hret _ acts rfl rfl rfl]) | rw [hret _ _ rfl rfl rfl]
  exact Steps.refl _
/-- what holds at the law's entry: the machine, the code, the tables' words (any of lw_tbl by 'hts w (by decide +kernel)'), the script of L ints xs at the cell b, what the Statement gives of the start (any of its parts by flat_of_before) -/
def lw_At (p : Program) (s : State) (m : MethodId) (meth : Method) (c : Code) (b L : Nat) (xs : Nat → Int32) : Prop :=
  p.tables.exec = Jvm.exec ∧ c.code = code ∧ meth.sig.returnType = ret ∧ c.maxLocals = 8 ∧ s.vm.findClass R_law = some m.cls ∧ (∀ w ∈ lw_tbl, w.before #[Value.ref b] s = true) ∧ va_X b L xs s s.heap ∧ b < s.heap.size ∧ meth.locks = false ∧ (Jvm.Cond.and given_1 narrow_1).before #[Value.ref b] s = true ∧ c.exceptionTable.toList = []
/-! law's start and end, in the pure machine's words -/
def pz_s0 (L : Nat) (xs : Nat → Int32) : pz_S := (3, fun f => if f = 0 then (60, 1, L) else (0, 0, 0), fun _ _ _ => none, fun f i => if f = 0 ∧ i = 0 then xs else fun _ => 0, fun _ _ _ => 0, 0, 0)
/-- WHAT IS LEFT: of a pure function. -/
def pz_goal : Prop := ∀ (L : Nat) (xs : Nat → Int32), L ≤ 7 → ∃ (n : Nat) (σ1 : pz_S), pz_run pz_Tt pz_I n 632 0 (pz_ent [.inr (.inr (some (0, 0)))] 8) [] (pz_s0 L xs) = some (σ1, .inl (some (.inl 1))) ∧ pz_kc σ1 ≤ 600002 ∧ pz_ks σ1 ≤ 7302232
theorem pz_flags {l : Launch} (h : l.flags = flags0) : l.stackTraces = false := by
  unfold Launch.stackTraces
  rw [h]
  decide
theorem pz_str {args : Array Value} {s : State} {own tx : String} {k cc : Nat} (hc : s.vm.findClass own = some cc) (h : (Cond.stringRef own k tx).before args s = true) : ∃ sa, vk_R own k tx sa s := by
  obtain ⟨-, -, -, a, -, -, -, -, -, h9⟩ := Cond.stringRef_spec hc h
  exact ⟨a, vk_R.of h h9⟩
theorem pz_F0 {s : State} {b : Nat} (hts : ∀ w ∈ lw_tbl, w.before #[Value.ref b] s = true) (hgv : (Jvm.Cond.and given_1 narrow_1).before #[Value.ref b] s = true) : pz_F (fun q : Nat => s.heap.size ≤ q) s := by
  have hs := flat_of_before _ hgv
  obtain ⟨cC, -, hcC, -⟩ := Cond.instantiable_spec (hts (.instantiable RX11 7) (wsL_law_in _ (wl_m_1 _ (List.mem_of_getElem? (i := 1) rfl))))
  have hA : ∀ a : Nat, a < s.heap.size → ¬ (fun q : Nat => s.heap.size ≤ q) a := fun a h => Nat.not_le.mpr h
  refine ⟨⟨va_AO.of (hts (.arrayOver (.object RX6)) (by decide +kernel)), hts (.arrayOver (.array .int)) (by decide +kernel), va_Nw.of rfl (hts (.methodLinkNest RX11 18 yX4_init RX11) (by decide +kernel)), va_Nw.of rfl (hts (.methodLinkNest RX11 25 yX9_init RX11) (by decide +kernel))⟩, fun E hE => ?_, fun E E' hE hE' hn => ?_, fun Y hY => ?_, ?_, ?_⟩
  · rcases hE with rfl | rfl | rfl
    · exact ⟨va_Nw.of rfl (hts (.castable (pz_exn 24) (pz_exn 24)) (by decide +kernel)), pz_str hcC (hts (.stringRef RX11 341 "there is no such thing") (by decide +kernel))⟩
    · exact ⟨va_Nw.of rfl (hts (.castable (pz_exn 13) (pz_exn 13)) (by decide +kernel)), pz_str hcC (hts (.stringRef RX11 348 "an argument is out of its range") (by decide +kernel))⟩
    · exact ⟨va_Nw.of rfl (hts (.castable (pz_exn 15) (pz_exn 15)) (by decide +kernel)), pz_str hcC (hts (.stringRef RX11 353 "that can not be as things stand") (by decide +kernel))⟩
  · rcases hE with rfl | rfl | rfl <;> rcases hE' with rfl | rfl | rfl
    all_goals first | exact absurd rfl hn | exact va_Nc.of (args := #[Value.ref b]) (hs _ (by decide +kernel))
  · unfold pz_dcl at hY
    simp only [List.mem_cons, List.not_mem_nil, or_false] at hY
    rcases hY with rfl | rfl | rfl
    · exact va_Nw.of rfl (hts _ (by decide +kernel))
    · exact va_Nw.of rfl (hts _ (by decide +kernel))
    · exact va_Nw.of rfl (hts _ (by decide +kernel))
  · exact vx_Zqof (hts (.laysStatic Bundle.tN "UNASSIGNED_STACK" Bundle.steD) (by decide +kernel)) (hts (.initialized Bundle.tN) (by decide +kernel)) (hs (.isRef (.static Bundle.tN "UNASSIGNED_STACK" Bundle.steD)) (by decide +kernel)) hA
  · exact vx_Zqof (hts (.laysStatic Bundle.tN "SUPPRESSED_SENTINEL" Bundle.listD) (by decide +kernel)) (hts (.initialized Bundle.tN) (by decide +kernel)) (hs (.isRef (.static Bundle.tN "SUPPRESSED_SENTINEL" Bundle.listD)) (by decide +kernel)) hA
theorem pz_ins {args : Array Value} {s : State} (hw : ∀ w ∈ wsL_law, w.before args s = true) : ∀ t, t < 6 → (Cond.instantiable (pz_C t) (pz_n t)).before args s = true := fun t ht => by
  match t, ht with
  | 0, _ => exact hw _ (wl_m_1 _ (List.mem_of_getElem? (i := 18) rfl))
  | 1, _ => exact hw _ (wl_m_1 _ (List.mem_of_getElem? (i := 14) rfl))
  | 2, _ => exact hw _ (wl_m_9 _ (List.mem_of_getElem? (i := 14) rfl))
  | 3, _ => exact hw _ (wl_m_1 _ (List.mem_of_getElem? (i := 22) rfl))
  | 4, _ => exact hw _ (wl_m_1 _ (List.mem_of_getElem? (i := 1) rfl))
  | 5, _ => exact hw _ (wl_m_1 _ (List.mem_of_getElem? (i := 4) rfl))
theorem pz_K0 {s : State} {b : Nat} (hts : ∀ w ∈ lw_tbl, w.before #[Value.ref b] s = true) : ∃ D : va_G, va_K D pz_cls [] s := by
  have hw : ∀ w ∈ wsL_law, w.before #[Value.ref b] s = true := fun w h => hts w (wsL_law_in w h)
  have kn : ∀ t, t < 6 → ∃ (cC : ClassId) (iS : Nat → Nat), u_Kn s (pz_C t) (pz_T t) (pz_n t) cC iS := fun t ht => u_known (n := pz_n t) hw (pz_ws_in ht) (pz_ins hw t ht)
  obtain ⟨c0, i0, k0⟩ := kn 0 (by decide)
  obtain ⟨c1, i1, k1⟩ := kn 1 (by decide)
  obtain ⟨c2, i2, k2⟩ := kn 2 (by decide)
  obtain ⟨c3, i3, k3⟩ := kn 3 (by decide)
  obtain ⟨c4, i4, k4⟩ := kn 4 (by decide)
  obtain ⟨c5, i5, k5⟩ := kn 5 (by decide)
  refine ⟨(fun k => match k with | 0 => c0 | 1 => c1 | 2 => c2 | 3 => c3 | 4 => c4 | _ => c5, fun k => match k with | 0 => i0 | 1 => i1 | 2 => i2 | 3 => i3 | 4 => i4 | _ => i5), fun k q hq => ?_, fun k q h => by simp at h⟩
  match k, hq with
  | 0, hq => cases hq; exact k0
  | 1, hq => cases hq; exact k1
  | 2, hq => cases hq; exact k2
  | 3, hq => cases hq; exact k3
  | 4, hq => cases hq; exact k4
  | 5, hq => cases hq; exact k5
  | k + 6, hq => simp [pz_cls] at hq
theorem pz_wd0 {ad : pz_R → Nat} {L : Nat} {xs : Nat → Int32} : pz_wd ad (pz_s0 L xs) [] [] := by
  have h0 : ∀ f i, i < (pz_sh (pz_s0 L xs) f).2.1 → f = 0 := fun f i h => by
    by_cases hf : f = 0
    · exact hf
    · have e : pz_sh (pz_s0 L xs) f = (0, 0, 0) := if_neg hf
      rw [e] at h
      exact absurd h (Nat.not_lt_zero _)
  have e0 : pz_sh (pz_s0 L xs) 0 = (60, 1, L) := rfl
  have hno : ∀ f i, ¬ pz_in (pz_s0 L xs) f i := fun f i h => by
    have := h0 f i h.1
    subst this
    have h2 := h.2
    rw [e0] at h2
    rcases h2 with h2 | h2
    · exact absurd (show (60 : Nat) < 6 from h2) (by decide)
    · cases h2
  exact ⟨fun f i h => by rw [h0 f i h]; exact (by decide : (0 : Nat) < 3), fun f i h => absurd h (hno f i), fun f i _ _ h => absurd h (hno f i), fun f i j r h => by cases h⟩
/-- from the entry, for every script of at most 7 ints, the law comes to its end with true, if the pure machine does -/
theorem pz_start (hg : pz_goal) {p : Program} {e : Env} {s : State} {m : MethodId} {below : List Frame} {meth : Method} {c : Code} (l : Launch) (hflags : l.flags = flags0) {b L : Nat} {xs : Nat → Int32} (hL : L ≤ 7) (C0 : lw_At p s m meth c b L xs) : W p l e room_1 s m #[Value.ref b] below meth c s.heap [] 0 0 (lw_Z below #[Value.ref b] s) (entryFrame m ([Value.ref b] : List Value).toArray 8) := by
  obtain ⟨hx, hb, hr, hml, hown, hts, hX, hbl, hlocks, hgv, htab⟩ := C0
  obtain ⟨n, σ1, hrun, hkc, hks⟩ := hg L xs hL
  have hst := pz_flags hflags
  have hw : ∀ w ∈ wsL_law, w.before #[Value.ref b] s = true := fun w h => hts w (wsL_law_in w h)
  obtain ⟨D, hK⟩ := pz_K0 hts
  have hC : pz_Cx l p room_1 s m #[Value.ref b] meth c (fun q : Nat => s.heap.size ≤ q) pm_632 :=
    ⟨hst, hx, hb, hml, hown, hw, fun q h => h, pz_F0 hts hgv, hr, hlocks, Nat.le_of_ble_eq_true rfl, Nat.le_of_ble_eq_true rfl, htab, fun h => by cases h⟩
  have hY : pz_Hy p l e room_1 s m #[Value.ref b] below meth c (lw_Z below #[Value.ref b] s) D (fun q : Nat => s.heap.size ≤ q) 0 0 3 (fun _ => b) pz_I 632 pm_632 σ1 (.inl (some (.inl 1))) := by
    refine ⟨rfl, hC, ⟨by show _ ≤ 0 + 600002; omega, by show _ ≤ 0 + 7302232; omega⟩, ?_, ?_, ?_⟩
    · intro i pc L9 st v hd hv ho ad ls H locs cells slots ha E hl hok1 hok2
      cases ho
      obtain ⟨ws, tys, -, -, -, hS, -, hc1, hc2⟩ := E
      unfold pz_rt at hv
      split at hv
      · split at hv
        · rename_i x
          split at hv
          · cases hv
            refine va_forget (fun q hq => hS.2.2 q hq) ?_
            refine W.widen (k := 600002) (n := 7302232) (by omega) (by omega) ?_
            exact lw_ret hx hb hr hlocks hd
          · cases hv
        · cases hv
      · split at hv
        · split at hv <;> cases hv
        · cases hv
      · split at hv
        · split at hv
          · split at hv <;> cases hv
          · cases hv
        · cases hv
      · split at hv
        · split at hv <;> cases hv
        · cases hv
      · cases hv
    · intro pc L9 st σ E hF h
      unfold pz_thr at h
      split at h
      · rw [cond_eq_ite] at h
        split at h <;> cases h
      · cases h
    · intro E pc ad ls H locs cells slots rest ce q ho
      cases ho
  have hS0 : pz_Sc s (fun q : Nat => s.heap.size ≤ q) 3 (fun _ => b) (pz_s0 L xs) := ⟨b, L, xs, hX, hbl, Nat.not_le.mpr hbl, by decide, rfl, (by decide : (0 : Nat) < 3), rfl, rfl⟩
  have main := pz_snd pz_tok pz_gl hst n p e room_1 s m #[Value.ref b] below meth c _ D _ 0 0 3 (fun _ => b) 632 pm_632 σ1 _ 0 _ [] (pz_s0 L xs) hY rfl (Nat.le_refl _) (fun _ => hS0) hrun
  rw [lg_entry_eq]
  exact main (fun _ => b) _ s.heap [] 0 0 pz_ag_rf ⟨[], [], hK, fun k q h => by simp at h, ⟨fun i j p q h => by simp at h, fun k q h => by simp at h⟩, va_S.rf, pz_wd0, rfl, rfl⟩
    (pz_ent_lr (as := [.inr (.inr (some (0, 0)))]) (ad := fun _ => b) (n := 8) (Nat.le_of_ble_eq_true rfl)) (pz_ent_ok (fun v hv => by rcases List.mem_singleton.mp hv with rfl; exact (by decide : (0 : Nat) < 3))) (fun v hv => by cases hv)
set_option maxHeartbeats 4000000 in
theorem lw_walk (hg : pz_goal) (l : Launch) (hflags : l.flags = flags0) (b : Addr) (xs : List Int32) : MetFree l x (headSpec (Jvm.Cond.code x code maxLocals ret :: tables_1) room_1) (lw_P b xs) (fun _ _ _ _ _ => True) lw_Q := by
  refine MetFree.of_bodyS (code := code) (maxLocals := maxLocals) (ret := ret) (by decide) ?_ ?_
  · intro args s m h hn
    obtain ⟨meth, c, h1, h2, h3, h4, h5, h6, -, -⟩ := Cond.code_spec hn (atoms_spec (ws := Jvm.Cond.code x code maxLocals ret :: tables_1) h _ List.mem_cons_self)
    exact ⟨meth, c, h1, h2, h3, h4, h5, h6⟩
  · intro p e s m args below meth c s₁ B hml0 hP _
    obtain ⟨rfl, hx, hbd, hgv⟩ := hP
    obtain ⟨scr, harrAt, hlist, hof, hsmall⟩ := hx
    obtain ⟨hcb, hkn, -, -⟩ := State.arrayAt?_spec harrAt
    have hown : s.vm.findClass R_law = some m.cls := findClass_of_methodNamed B.named
    have hts0 : ∀ c ∈ (Jvm.Cond.code x code maxLocals ret :: tables_1), c.before #[Value.ref b] s = true := atoms_spec (ws := Jvm.Cond.code x code maxLocals ret :: tables_1) B.pre
    have hts : ∀ w ∈ lw_tbl, w.before #[Value.ref b] s = true := k2_hts_sels lw_privs (fun w hw => hts0 w (List.mem_cons_of_mem _ hw)) lw_privs_ok
    have hml : c.maxLocals = 8 := B.maxLocals_eq (hts0 _ List.mem_cons_self)
    have X₀ : Stand p l e room_1 s m #[Value.ref b] below meth c s₁ [] 0 0 := Stand.of_body B
    have hh0 : s₁.heap = s.heap := by rw [B.state]; rfl
    have htab : c.exceptionTable.toList = [] := by
      obtain ⟨meth9, c9, h1, h2, -, -, -, -, h7, -⟩ := Cond.code_spec B.named (hts0 _ List.mem_cons_self)
      cases Option.some.inj (h1.symm.trans B.method)
      cases Option.some.inj (h2.symm.trans (Stand.of_body B).code)
      rw [Array.isEmpty_iff.mp h7]
    have hsz : scr.slots.size = xs.length := by rw [← Array.length_toList, hlist, List.length_map]
    have hval : ∀ j : Nat, j < xs.length → scr.slots[j]? = some (.int (xs.getD j 0)) := fun j hj => by
      rw [← Array.getElem?_toList, hlist]
      simp [hj]
    have hbl : b < s.heap.size := (Array.getElem?_eq_some_iff.mp hcb).1
    have hX : va_X b xs.length (fun j => xs.getD j 0) s s.heap := ⟨scr, hcb, hof, hkn, hsz, hval⟩
    have K : W p l e room_1 s m #[Value.ref b] below meth c s₁.heap [] 0 0 (lw_Z below #[Value.ref b] s) (entryFrame m ([Value.ref b] : List Value).toArray 8) := by
      rw [hh0]
      exact pz_start hg l hflags hbd ⟨B.exec, B.bytes, B.returns, hml, hown, hts, hX, hbl, B.notSynchronized, hgv, htab⟩
    obtain ⟨t, a1, o, b1, b2, b3⟩ := K s₁ rfl X₀
    exact ⟨t, o, a1, b1, b2, b3⟩
theorem lw_pre_spec {args : Array Value} {s : State} (h : (Jvm.Cond.and given_1 narrow_1).before args s = true) (hr : rest_1_c.before args s = true) : ∃ (b : Addr) (xs : List Int32), lw_P b xs args s := by
  have hs := flat_of_before _ h
  have hq := flat_of_before _ hr
  have hc : (Cond.count 1).before args s = true := hs _ (by decide +kernel)
  have harr : (Cond.arrayOf (.arg 0) .int).before args s = true := hs _ (by decide +kernel)
  have hle : (Cond.le (.length (.arg 0)) (.int 7)).before args s = true := hs _ (by decide +kernel)
  have hlen : (Cond.isInt (.length (.arg 0))).before args s = true := hq _ (by decide +kernel)
  have hall : (Cond.all (.arg 0) (.isInt (.elem (.arg 0) (.index 0)))).before args s = true := hq _ (by decide +kernel)
  obtain ⟨b, xs, hb, hx⟩ := State.ints_of_pre rfl harr hlen hall
  have hsm : xs.length < 2 ^ 31 := hx.choose_spec.2.2.2
  have hev : (Term.length (.arg 0)).eval args s none [] s = some (.int xs.length.toInt32) := hx.length_eval hb
  have hv := Cond.le_ints hev (show (Term.int 7).eval args s none [] s = some (.int 7) from rfl)
  have hd : xs.length.toInt32 ≤ 7 := by
    simpa [Cond.before, Cond.holds, hv] using hle
  have hN : xs.length ≤ 7 := (Int32.ofNat_le_ofNat hsm (by decide)).mp (show Int32.ofNat xs.length ≤ Int32.ofNat 7 from hd)
  exact ⟨b, xs, Cond.one_arg hc (show args[0]? = some (.ref b) from hb), hx, hN, h⟩
theorem lw_comes (hg : pz_goal) (l : Launch) (hflags : l.flags = flags0) : Comes l x (Jvm.Cond.code x code maxLocals ret :: tables_1) room_1 (fun tb e args s => Calls_1 tb e args s ∧ rest_1 tb e args s ∧ Pre_1 tb e args s)
    (fun _ _ args s o t => lw_Q args s o t) := by
  intro p e ha hc hk s m args below hf hfit hheap happ hpre
  obtain ⟨b, xs, hP⟩ := lw_pre_spec hpre.2.2 hpre.2.1
  obtain ⟨k, o, h1, h2, h3, hQ⟩ := lw_walk hg l hflags b xs p e ha hc hk s m args below hf ((Spec.applies_iff_loose hf).mp happ).1 hP trivial
  exact ⟨k, o, h1, h2, h3, hQ⟩
theorem lw_frame {s t : State} {o : Outcome} {args : Array Value} (h : Framed s o t [] 600002 7302232) :
    Framed s o t (fieldLocs frame_1_writes args s ++ arrayLocs frame_1_arrays args s ++ staticLocs frame_1_statics s) 600002 7302232 := h
theorem lw_limb (hg : pz_goal) (L : Cond) (hL : ∀ (args : Array Value) (s t : State), L.after args s (.returned (some (.int 1))) t = true) :
    ArmFor flags0 classFile x code maxLocals ret World_1 tables_1 room_1 Calls_1 rest_1 Pre_1
      (fun tb e a s o t => postC L tb e a s o t ∧ Framed s o t (fieldLocs frame_1_writes a s ++ arrayLocs frame_1_arrays a s ++ staticLocs frame_1_statics s) 600002 7302232) := by
  intro l hflags _ _ p e ha hc hk s m args below hf hfit hheap happ hpre
  obtain ⟨k, o, h1, h2, h3, rfl, hF⟩ := lw_comes hg l hflags p e ha hc hk s m args below hf hfit hheap happ hpre
  exact ⟨k, _, h1, h2, h3, hL args s _, lw_frame hF⟩
