/-! one instruction of the pure machine is one of the machine: the heap -/
theorem pz_out_sp {j : Int32} {n : Nat} (h : pz_out j n = false) : vp_in j n := by
  unfold pz_out at h
  rw [Bool.or_eq_false_iff] at h
  obtain ⟨h1, h2⟩ := h
  intro q
  rcases q with q | q
  · rw [decide_eq_false_iff_not] at h1
    exact h1 q
  · rw [Nat.ble_eq_true_of_le q] at h2
    cases h2
theorem pz_nar {ty : FieldType} {v : Int32} (h : pz_kd ty = 0 ∨ pz_kd ty = 1 ∧ (v = 0 ∨ v = 1)) : narrow ty (.int v) = .int v ∧ fits ty (.int v) = true := by
  cases ty <;> simp [pz_kd] at h
  · exact ⟨rfl, rfl⟩
  · rcases h with rfl | rfl <;> exact ⟨rfl, rfl⟩
theorem pz_narR {ty : FieldType} {x : Option Nat} (h : pz_kd ty = 2) : narrow ty (va_rf x) = va_rf x ∧ fits ty (va_rf x) = true := by
  cases ty <;> simp [pz_kd] at h <;> cases x <;> exact ⟨rfl, rfl⟩
theorem pz_oth_M {σ : pz_S} {f i k : Nat} {v : Int32} {ad : pz_R → Nat} (g j : Nat) (h : ¬ (g = f ∧ j = i)) : (∀ t, pz_fs ad (pz_wM σ f i k v) t g j = pz_fs ad σ t g j) ∧ ∀ t, pz_ac ad (pz_wM σ f i k v) t g j = pz_ac ad σ t g j := by
  have e : pz_mm (pz_wM σ f i k v) g j = pz_mm σ g j := funext fun q => if_neg (fun z => h ⟨z.1, z.2.1⟩)
  refine ⟨fun t => ?_, fun t => ?_⟩
  · unfold pz_fs
    refine List.map_congr_left fun q _ => ?_
    unfold pz_fv
    rw [e]
    rfl
  · unfold pz_ac
    rw [e]
    rfl
theorem pz_oth_R {σ : pz_S} {f i k : Nat} {v : Option pz_R} {ad : pz_R → Nat} (g j : Nat) (h : ¬ (g = f ∧ j = i)) : (∀ t, pz_fs ad (pz_wR σ f i k v) t g j = pz_fs ad σ t g j) ∧ ∀ t, pz_ac ad (pz_wR σ f i k v) t g j = pz_ac ad σ t g j := by
  have e : ∀ q, pz_rr (pz_wR σ f i k v) g j q = pz_rr σ g j q := fun q => if_neg (fun z => h ⟨z.1, z.2.1⟩)
  refine ⟨fun t => ?_, fun t => ?_⟩
  · unfold pz_fs
    refine List.map_congr_left fun q _ => ?_
    unfold pz_fv
    rw [e]
    rfl
  · unfold pz_ac
    simp only [e]
    rfl
theorem pz_oth_L {σ : pz_S} {f i k : Nat} {v : Int64} {ad : pz_R → Nat} (g j : Nat) (h : ¬ (g = f ∧ j = i)) : (∀ t, pz_fs ad (pz_wL σ f i k v) t g j = pz_fs ad σ t g j) ∧ ∀ t, pz_ac ad (pz_wL σ f i k v) t g j = pz_ac ad σ t g j := by
  have e : pz_ml (pz_wL σ f i k v) g j = pz_ml σ g j := funext fun q => if_neg (fun z => h ⟨z.1, z.2.1⟩)
  refine ⟨fun t => rfl, fun t => ?_⟩
  unfold pz_ac
  rw [e]
  rfl
theorem pz_wR_ok {σ : pz_S} {f i k : Nat} {v : Option pz_R} (h : ∀ (a b c : Nat) (r : pz_R), pz_rr σ a b c = some r → r.1 < σ.1) (hv : pz_ok σ.1 (.inr (.inr v))) : ∀ (a b c : Nat) (r : pz_R), pz_rr (pz_wR σ f i k v) a b c = some r → r.1 < σ.1 := by
  intro a b c r hr
  have hr : (if a = f ∧ b = i ∧ c = k then v else pz_rr σ a b c) = some r := hr
  split at hr
  · subst hr; exact hv
  · exact h a b c r hr
def pz_lkF (own : String) (idx t k : Nat) : Prop := t < 6 ∧ k < pz_n t ∧ Cond.fieldLink own idx (pz_T t k).1 (pz_T t k).2.1 (pz_T t k).2.2.1 ∈ wsL_law
section PH
variable {p : Program} {l : Launch} {e : Env} {R : Room} {s : State} {m : MethodId} {args : Array Value} {below : List Frame} {meth : Method} {c : Code} {Q : State → Prop}
variable {cc : ByteArray} {D : va_G} {A : Nat → Prop} {kc0 ks0 n0 : Nat} {ad0 : pz_R → Nat} {own : String}
variable {σ σ' : pz_S} {L L' : pz_L} {st st' : List pz_V} {pc pc' : Nat}
theorem pz_get_ok {idx t k : Nat} (hx : p.tables.exec = Jvm.exec) (hb : c.code = cc) (hown : s.vm.findClass own = some m.cls) (hts : ∀ w ∈ wsL_law, w.before args s = true) (hlk : pz_lkF own idx t k) (hdg : decode cc pc = .ok (.getfield idx, 3))
    (hs : pz_get pc L st σ t k = some (pc', L', st', σ')) (kk : pz_W p l e R s m args below meth c Q D A kc0 ks0 n0 ad0 (pc') (L') (st') (σ')) : pz_W p l e R s m args below meth c Q D A kc0 ks0 n0 ad0 (pc) (L) (st) (σ) := by
  obtain ⟨ht, hkn, hw⟩ := hlk
  unfold pz_get at hs
  split at hs
  · rename_i f i r
    split at hs
    · rename_i his
      intro ad ls H locs cells slots ha E hl hL hS
      obtain ⟨ws, tys, hK, hP, hD, hS0, hW, hc, hsl⟩ := id E
      have hin := pz_is_in his (Or.inl ht)
      obtain ⟨htag, -⟩ := pz_is_sp his
      obtain ⟨q0, hq0⟩ := (hW.2.1 f i hin).1 (by rw [htag]; exact ht)
      rw [htag] at hq0
      refine va_get hx hb hts (pz_ws_in ht) hown hK hP q0 hq0 (pz_cls_at ht) k hkn (hts _ hw) (fun _ h => h) (pz_fs_get hkn) hdg ?_
      unfold pz_fv
      split at hs
      · rename_i hkd
        cases hs
        rw [if_pos hkd]
        refine kk ad ls H locs cells slots ha E hl hL (pz_okS_c ?_ (pz_okS_t hS))
        cases hr : pz_rr σ f i k with
        | none => trivial
        | some x => exact hW.2.2.2 f i k x hr
      · rename_i hkd
        cases hs
        rw [if_neg hkd]
        exact kk ad ls H locs cells slots ha E hl hL (pz_okS_c trivial (pz_okS_t hS))
    · cases hs
  · cases hs
theorem pz_put_ok {idx t k : Nat} {fin : Bool} (hx : p.tables.exec = Jvm.exec) (hb : c.code = cc) (hown : s.vm.findClass own = some m.cls) (hts : ∀ w ∈ wsL_law, w.before args s = true) (hlk : pz_lkF own idx t k) (hfin : fin = true → meth.name = "<init>" ∧ (pz_T t k).1 = own) (hdg : decode cc pc = .ok (.putfield idx, 3))
    (hs : pz_put pc L st σ t k fin = some (pc', L', st', σ')) (kk : pz_W p l e R s m args below meth c Q D A kc0 ks0 n0 ad0 (pc') (L') (st') (σ')) : pz_W p l e R s m args below meth c Q D A kc0 ks0 n0 ad0 (pc) (L) (st) (σ) := by
  obtain ⟨ht, hkn, hw⟩ := hlk
  have key : ∀ {f i : Nat} {w : Value} {σ9 : pz_S} {ad : pz_R → Nat} {ls : Array Slot} {H : Heap} {locs : List Loc} {cells slots : Nat} {r : List Value}, pz_is σ f i t = true → ((pz_T t k).2.2.2 = true → fin = true) → narrow (pz_ty t k) w = w → fits (pz_ty t k) w = true →
      σ9.2.1 = σ.2.1 → σ9.1 = σ.1 → pz_kc σ9 = pz_kc σ → pz_ks σ9 = pz_ks σ → pz_fv ad σ9 t f i k = w → (∀ j, j ≠ k → pz_fv ad σ9 t f i j = pz_fv ad σ t f i j) →
      (∀ g j, ¬ (g = f ∧ j = i) → (∀ t, pz_fs ad σ9 t g j = pz_fs ad σ t g j) ∧ ∀ t, pz_ac ad σ9 t g j = pz_ac ad σ t g j) →
      ((∀ (a b c : Nat) (r : pz_R), pz_rr σ a b c = some r → r.1 < σ.1) → ∀ (a b c : Nat) (r : pz_R), pz_rr σ9 a b c = some r → r.1 < σ.1) →
      pz_E D s A kc0 ks0 ad σ H locs cells slots → (∀ (H1 : Heap) (locs1 : List Loc), pz_E D s A kc0 ks0 ad σ9 H1 locs1 cells slots → W p l e R s m args below meth c H1 locs1 cells slots Q (F0 m (pc + 3) (ls) (r))) → W p l e R s m args below meth c H locs cells slots Q (F0 m (pc) (ls) (w :: .ref (ad (f, i)) :: r)) := by
    intro f i w σ9 ad ls H locs cells slots r his hf hn hft e1 e2 e3 e4 e5 e6 e7 e8 E k9
    obtain ⟨ws, tys, hK, hP, hD, hS0, hW, hc, hsl⟩ := id E
    have hin := pz_is_in his (Or.inl ht)
    obtain ⟨htag, -⟩ := pz_is_sp his
    obtain ⟨q0, hq0⟩ := (hW.2.1 f i hin).1 (by rw [htag]; exact ht)
    rw [htag] at hq0
    have hfin9 : ∀ (H1 : Heap) (locs1 : List Loc), va_P D pz_cls (ws.set q0 (ad (f, i), .inr (t, (pz_fs ad σ t f i).set k w))) H1 → va_D A (ws.set q0 (ad (f, i), .inr (t, (pz_fs ad σ t f i).set k w))) → va_S A s.heap H1 locs1 → W p l e R s m args below meth c H1 locs1 cells slots Q (F0 m (pc + 3) (ls) (r)) := by
      intro H1 locs1 hP1 hD1 hS1
      rw [pz_fs_set e5 e6] at hP1 hD1
      refine k9 H1 locs1 ⟨_, tys, hK, hP1, hD1, hS1, ?_, by rw [e3]; exact hc, by rw [e4]; exact hsl⟩
      refine pz_wd_set hW e1 e2 hin hq0 (fun _ => by rw [htag]) (fun h => ?_) e7 (e8 hW.2.2.2)
      rw [htag, pz_arr_no ht] at h
      cases h
    by_cases hfl : (pz_T t k).2.2.2 = true
    · exact va_putF hx hb hts (pz_ws_in ht) (pz_ty t) (pz_ty_ok ht) (pz_nm_ok ht) hown hK hP hD hS0 q0 hq0 (pz_cls_at ht) k hkn (hts _ hw) (fun _ h => h) hfl (hfin (hf hfl)).1 (hfin (hf hfl)).2 (pz_ty_ok ht k hkn) hn hft (by rw [pz_fs_len]; exact hkn) hdg hfin9
    · exact va_put hx hb hts (pz_ws_in ht) (pz_ty t) (pz_ty_ok ht) (pz_nm_ok ht) hown hK hP hD hS0 q0 hq0 (pz_cls_at ht) k hkn (hts _ hw) (fun _ h => h) (Bool.eq_false_iff.mpr hfl) (pz_ty_ok ht k hkn) hn hft (by rw [pz_fs_len]; exact hkn) hdg hfin9
  unfold pz_put at hs
  split at hs
  · rename_i v f i r
    split at hs
    · rename_i hc
      obtain ⟨his, hf, hkd⟩ := hc
      cases hs
      intro ad ls H locs cells slots ha E hl hL hS
      obtain ⟨hn, hft⟩ := pz_nar hkd
      have hk2 : ¬ pz_kd (pz_ty t k) = 2 := by omega
      refine key (σ9 := pz_wM σ f i k v) his hf hn hft rfl rfl rfl rfl ?_ ?_ pz_oth_M (fun h => h) E fun H1 locs1 E1 => kk ad ls H1 locs1 cells slots ha E1 hl hL (pz_okS_t (pz_okS_t hS))
      · unfold pz_fv
        rw [if_neg hk2]
        exact congrArg Value.int (if_pos ⟨rfl, rfl, rfl⟩)
      · intro j hj
        unfold pz_fv
        have e : pz_mm (pz_wM σ f i k v) f i j = pz_mm σ f i j := if_neg (fun z => hj z.2.2)
        rw [e]
        rfl
    · cases hs
  · rename_i v f i r
    split at hs
    · rename_i hc
      obtain ⟨his, hf, hkd⟩ := hc
      cases hs
      intro ad ls H locs cells slots ha E hl hL hS
      obtain ⟨hn, hft⟩ := pz_narR (x := v.map ad) hkd
      refine key (σ9 := pz_wR σ f i k v) his hf hn hft rfl rfl rfl rfl ?_ ?_ pz_oth_R (fun h => pz_wR_ok h (pz_okS_h hS)) E fun H1 locs1 E1 => kk ad ls H1 locs1 cells slots ha E1 hl hL (pz_okS_t (pz_okS_t hS))
      · unfold pz_fv
        rw [if_pos hkd]
        exact congrArg (fun z : Option pz_R => va_rf (z.map ad)) (if_pos ⟨rfl, rfl, rfl⟩)
      · intro j hj
        unfold pz_fv
        have e : pz_rr (pz_wR σ f i k v) f i j = pz_rr σ f i j := if_neg (fun z => hj z.2.2)
        rw [e]
        rfl
    · cases hs
  · cases hs
theorem pz_ilo_ok {t : Nat} (ht : t = 50 ∨ t = 52) (hx : p.tables.exec = Jvm.exec) (hb : c.code = cc) (hdg : (t = 50 → decode cc pc = .ok (.iaload, 1)) ∧ (t = 52 → decode cc pc = .ok (.baload, 1)))
    (hs : pz_ilo pc L st σ t = some (pc', L', st', σ')) (kk : pz_W p l e R s m args below meth c Q D A kc0 ks0 n0 ad0 (pc') (L') (st') (σ')) : pz_W p l e R s m args below meth c Q D A kc0 ks0 n0 ad0 (pc) (L) (st) (σ) := by
  unfold pz_ilo at hs
  split at hs
  · rename_i j f i r
    split at hs
    · rename_i hc
      obtain ⟨his, ho⟩ := hc
      cases hs
      intro ad ls H locs cells slots ha E hl hL hS
      obtain ⟨ws, tys, hK, hP, hD, hS0, hW, hc, hsl⟩ := id E
      have har : pz_arr t = true := by rcases ht with rfl | rfl <;> rfl
      have hin := pz_is_in his (Or.inr har)
      obtain ⟨htag, -⟩ := pz_is_sp his
      obtain ⟨q0, t0, cA, hq0, ht0⟩ := (hW.2.1 f i hin).2 (by rw [htag]; exact har)
      rw [htag] at hq0 ht0
      have k9 := kk ad ls H locs cells slots ha E hl hL (pz_okS_c trivial (pz_okS_t (pz_okS_t hS)))
      rcases ht with rfl | rfl
      · exact va_iald hx hb hK hP q0 t0 hq0 ht0 (pz_out_sp ho) (hdg.1 rfl) k9
      · exact va_zald hx hb hK hP q0 t0 hq0 ht0 (pz_out_sp ho) (hdg.2 rfl) k9
    · cases hs
  · cases hs
theorem pz_llo_ok (hx : p.tables.exec = Jvm.exec) (hb : c.code = cc) (hdg : decode cc pc = .ok (.laload, 1))
    (hs : pz_llo pc L st σ = some (pc', L', st', σ')) (kk : pz_W p l e R s m args below meth c Q D A kc0 ks0 n0 ad0 (pc') (L') (st') (σ')) : pz_W p l e R s m args below meth c Q D A kc0 ks0 n0 ad0 (pc) (L) (st) (σ) := by
  unfold pz_llo at hs
  split at hs
  · rename_i j f i r
    split at hs
    · rename_i hc
      obtain ⟨his, ho⟩ := hc
      cases hs
      intro ad ls H locs cells slots ha E hl hL hS
      obtain ⟨ws, tys, hK, hP, hD, hS0, hW, hc, hsl⟩ := id E
      have hin := pz_is_in his (Or.inr rfl)
      obtain ⟨htag, -⟩ := pz_is_sp his
      obtain ⟨q0, t0, cA, hq0, ht0⟩ := (hW.2.1 f i hin).2 (by rw [htag]; rfl)
      rw [htag] at hq0 ht0
      exact va_lald hx hb hK hP q0 t0 hq0 ht0 (pz_out_sp ho) hdg (kk ad ls H locs cells slots ha E hl hL (pz_okS_c trivial (pz_okS_t (pz_okS_t hS))))
    · cases hs
  · cases hs
theorem pz_aldr {cl : List vw_C} {tys : List (ClassId × FieldType)} {ws : va_W} {H : Heap} {locs : List Loc} {cells slots : Nat} {ls : Array Slot} {rest : List Value} {a : Nat} {ty : FieldType} (hty : ty.isReference = true) (hexec : p.tables.exec = Jvm.exec) (hb : c.code = cc) (hK : va_K D cl tys s) (hP : va_P D cl ws H) (q0 t0 : Nat) {cA : ClassId} {n : Nat} {f : Nat → Option Nat} (ha : ws[q0]? = some (a, .inl (cA, n, .inr (.inr (.inr (.inr f)))))) (ht : tys[t0]? = some (cA, ty)) {i : Int32} (hin : vp_in i n) (hdg : decode cc pc = .ok (.aaload, 1))
    (kk : W p l e R s m args below meth c H locs cells slots Q (F0 m (pc + 1) (ls) (va_rf (f i.toNatClampNeg) :: rest))) : W p l e R s m args below meth c H locs cells slots Q (F0 m (pc) (ls) (.int i :: .ref a :: rest)) := by
  have hlt : i.toNatClampNeg < n := Nat.not_le.mp fun q => hin (Or.inr q)
  exact W.aald (v := va_rf (f i.toNatClampNeg)) (ty := ty) hexec hb (hP q0 _ ha) ((hK.2 t0 _ ht).1 n (fun j => va_rf (f j))) hty (fun q => by cases q) (by show ¬ (i < 0 ∨ (arrV _ _ _).slots.size ≤ _); rw [arrV_size]; exact hin) (by show (arrV _ _ _).slots[_]? = _; rw [arrV_read _ _ hlt]) rfl rfl hdg kk
theorem pz_alo_ok (hx : p.tables.exec = Jvm.exec) (hb : c.code = cc) (hdg : decode cc pc = .ok (.aaload, 1))
    (hs : pz_alo pc L st σ = some (pc', L', st', σ')) (kk : pz_W p l e R s m args below meth c Q D A kc0 ks0 n0 ad0 (pc') (L') (st') (σ')) : pz_W p l e R s m args below meth c Q D A kc0 ks0 n0 ad0 (pc) (L) (st) (σ) := by
  unfold pz_alo at hs
  split at hs
  · rename_i j f i r
    split at hs
    · rename_i hc
      obtain ⟨his, ho⟩ := hc
      cases hs
      intro ad ls H locs cells slots ha E hl hL hS
      obtain ⟨ws, tys, hK, hP, hD, hS0, hW, hc, hsl⟩ := id E
      have k9 := kk ad ls H locs cells slots ha E hl hL (pz_okS_c (by
        cases hr : pz_rr σ f i j.toNatClampNeg with
        | none => trivial
        | some x => exact hW.2.2.2 f i _ x hr) (pz_okS_t (pz_okS_t hS)))
      rw [Bool.or_eq_true] at his
      rcases his with his | his
      · have hin := pz_is_in his (Or.inr rfl)
        obtain ⟨htag, -⟩ := pz_is_sp his
        obtain ⟨q0, t0, cA, hq0, ht0⟩ := (hW.2.1 f i hin).2 (by rw [htag]; rfl)
        rw [htag] at hq0 ht0
        exact pz_aldr (ty := .array .int) rfl hx hb hK hP q0 t0 hq0 ht0 (pz_out_sp ho) hdg k9
      · have hin := pz_is_in his (Or.inr rfl)
        obtain ⟨htag, -⟩ := pz_is_sp his
        obtain ⟨q0, t0, cA, hq0, ht0⟩ := (hW.2.1 f i hin).2 (by rw [htag]; rfl)
        rw [htag] at hq0 ht0
        exact pz_aldr (ty := .object RX6) rfl hx hb hK hP q0 t0 hq0 ht0 (pz_out_sp ho) hdg k9
    · cases hs
  · cases hs
theorem pz_isto_ok (hx : p.tables.exec = Jvm.exec) (hb : c.code = cc) (hdg : decode cc pc = .ok (.iastore, 1))
    (hs : pz_isto pc L st σ = some (pc', L', st', σ')) (kk : pz_W p l e R s m args below meth c Q D A kc0 ks0 n0 ad0 (pc') (L') (st') (σ')) : pz_W p l e R s m args below meth c Q D A kc0 ks0 n0 ad0 (pc) (L) (st) (σ) := by
  unfold pz_isto at hs
  split at hs
  · rename_i v j f i r
    split at hs
    · rename_i hc
      obtain ⟨his, ho⟩ := hc
      cases hs
      intro ad ls H locs cells slots ha E hl hL hS
      obtain ⟨ws, tys, hK, hP, hD, hS0, hW, hc, hsl⟩ := id E
      have hin := pz_is_in his (Or.inr rfl)
      obtain ⟨htag, -⟩ := pz_is_sp his
      obtain ⟨q0, t0, cA, hq0, ht0⟩ := (hW.2.1 f i hin).2 (by rw [htag]; rfl)
      rw [htag] at hq0 ht0
      refine va_iast hx hb hK hP hD hS0 q0 t0 hq0 ht0 (pz_out_sp ho) hdg fun H1 locs1 hP1 hD1 hS1 => kk ad ls H1 locs1 cells slots ha ⟨_, tys, hK, hP1, hD1, hS1, ?_, hc, hsl⟩ hl hL (pz_okS_t (pz_okS_t (pz_okS_t hS)))
      refine pz_wd_set (σ' := pz_wM σ f i j.toNatClampNeg v) hW rfl rfl hin hq0 (fun h => ?_) (fun _ => ⟨t0, cA, ?_, by rw [htag]; exact ht0⟩) pz_oth_M hW.2.2.2
      · rw [htag] at h; omega
      · rw [htag]
        refine congrArg (fun z => Sum.inl (cA, (pz_sh σ f).2.2, Sum.inl z)) (funext fun q => ?_)
        by_cases hq : q = j.toNatClampNeg
        · subst hq
          exact (if_pos rfl).trans (if_pos ⟨rfl, rfl, rfl⟩).symm
        · exact (if_neg hq).trans (if_neg fun z => hq z.2.2).symm
    · cases hs
  · cases hs
theorem pz_bsto_ok (hx : p.tables.exec = Jvm.exec) (hb : c.code = cc) (hdg : decode cc pc = .ok (.bastore, 1))
    (hs : pz_bsto pc L st σ = some (pc', L', st', σ')) (kk : pz_W p l e R s m args below meth c Q D A kc0 ks0 n0 ad0 (pc') (L') (st') (σ')) : pz_W p l e R s m args below meth c Q D A kc0 ks0 n0 ad0 (pc) (L) (st) (σ) := by
  unfold pz_bsto at hs
  split at hs
  · rename_i v j f i r
    split at hs
    · rename_i hc
      obtain ⟨his, ho, hv⟩ := hc
      cases hs
      intro ad ls H locs cells slots ha E hl hL hS
      obtain ⟨ws, tys, hK, hP, hD, hS0, hW, hc, hsl⟩ := id E
      have hin := pz_is_in his (Or.inr rfl)
      obtain ⟨htag, -⟩ := pz_is_sp his
      obtain ⟨q0, t0, cA, hq0, ht0⟩ := (hW.2.1 f i hin).2 (by rw [htag]; rfl)
      rw [htag] at hq0 ht0
      have hvn : vp_nar .boolean v = v := by rcases hv with rfl | rfl <;> rfl
      refine va_zast hx hb hK hP hD hS0 q0 t0 hq0 ht0 (pz_out_sp ho) hdg fun H1 locs1 hP1 hD1 hS1 => ?_
      rw [hvn] at hP1 hD1
      refine kk ad ls H1 locs1 cells slots ha ⟨_, tys, hK, hP1, hD1, hS1, ?_, hc, hsl⟩ hl hL (pz_okS_t (pz_okS_t (pz_okS_t hS)))
      refine pz_wd_set (σ' := pz_wM σ f i j.toNatClampNeg v) hW rfl rfl hin hq0 (fun h => ?_) (fun _ => ⟨t0, cA, ?_, by rw [htag]; exact ht0⟩) pz_oth_M hW.2.2.2
      · rw [htag] at h; omega
      · rw [htag]
        refine congrArg (fun z => Sum.inl (cA, (pz_sh σ f).2.2, Sum.inl z)) (funext fun q => ?_)
        by_cases hq : q = j.toNatClampNeg
        · subst hq
          exact (if_pos rfl).trans (if_pos ⟨rfl, rfl, rfl⟩).symm
        · exact (if_neg hq).trans (if_neg fun z => hq z.2.2).symm
    · cases hs
  · cases hs
theorem pz_lsto_ok (hx : p.tables.exec = Jvm.exec) (hb : c.code = cc) (hdg : decode cc pc = .ok (.lastore, 1))
    (hs : pz_lsto pc L st σ = some (pc', L', st', σ')) (kk : pz_W p l e R s m args below meth c Q D A kc0 ks0 n0 ad0 (pc') (L') (st') (σ')) : pz_W p l e R s m args below meth c Q D A kc0 ks0 n0 ad0 (pc) (L) (st) (σ) := by
  unfold pz_lsto at hs
  split at hs
  · rename_i v j f i r
    split at hs
    · rename_i hc
      obtain ⟨his, ho⟩ := hc
      cases hs
      intro ad ls H locs cells slots ha E hl hL hS
      obtain ⟨ws, tys, hK, hP, hD, hS0, hW, hc, hsl⟩ := id E
      have hin := pz_is_in his (Or.inr rfl)
      obtain ⟨htag, -⟩ := pz_is_sp his
      obtain ⟨q0, t0, cA, hq0, ht0⟩ := (hW.2.1 f i hin).2 (by rw [htag]; rfl)
      rw [htag] at hq0 ht0
      refine va_last hx hb hK hP hD hS0 q0 t0 hq0 ht0 (pz_out_sp ho) hdg fun H1 locs1 hP1 hD1 hS1 => kk ad ls H1 locs1 cells slots ha ⟨_, tys, hK, hP1, hD1, hS1, ?_, hc, hsl⟩ hl hL (pz_okS_t (pz_okS_t (pz_okS_t hS)))
      refine pz_wd_set (σ' := pz_wL σ f i j.toNatClampNeg v) hW rfl rfl hin hq0 (fun h => ?_) (fun _ => ⟨t0, cA, ?_, by rw [htag]; exact ht0⟩) pz_oth_L hW.2.2.2
      · rw [htag] at h; omega
      · rw [htag]
        refine congrArg (fun z => Sum.inl (cA, (pz_sh σ f).2.2, Sum.inr (Sum.inl z))) (funext fun q => ?_)
        by_cases hq : q = j.toNatClampNeg
        · subst hq
          exact (if_pos rfl).trans (if_pos ⟨rfl, rfl, rfl⟩).symm
        · exact (if_neg hq).trans (if_neg fun z => hq z.2.2).symm
    · cases hs
  · cases hs
theorem pz_asto_ok (hx : p.tables.exec = Jvm.exec) (hb : c.code = cc) (hdg : decode cc pc = .ok (.aastore, 1))
    (hs : pz_asto pc L st σ = some (pc', L', st', σ')) (kk : pz_W p l e R s m args below meth c Q D A kc0 ks0 n0 ad0 (pc') (L') (st') (σ')) : pz_W p l e R s m args below meth c Q D A kc0 ks0 n0 ad0 (pc) (L) (st) (σ) := by
  unfold pz_asto at hs
  split at hs
  · rename_i g k j f i r
    split at hs
    · rename_i hc
      obtain ⟨his, hiv, ho⟩ := hc
      cases hs
      intro ad ls H locs cells slots ha E hl hL hS
      obtain ⟨ws, tys, hK, hP, hD, hS0, hW, hc, hsl⟩ := id E
      have hin := pz_is_in his (Or.inr rfl)
      obtain ⟨htag, -⟩ := pz_is_sp his
      obtain ⟨q0, t0, cA, hq0, ht0⟩ := (hW.2.1 f i hin).2 (by rw [htag]; rfl)
      rw [htag] at hq0 ht0
      have hinv := pz_is_in hiv (Or.inl (by decide))
      obtain ⟨htv, -⟩ := pz_is_sp hiv
      obtain ⟨qk, hqk⟩ := (hW.2.1 g k hinv).1 (by rw [htv]; decide)
      rw [htv] at hqk
      refine va_astq (r := (RX6, TX6, 19)) hx hb hK hP hD hS0 q0 t0 qk 1 hq0 ht0 hqk rfl (pz_out_sp ho) hdg fun H1 locs1 hP1 hD1 hS1 => kk ad ls H1 locs1 cells slots ha ⟨_, tys, hK, hP1, hD1, hS1, ?_, hc, hsl⟩ hl hL (pz_okS_t (pz_okS_t (pz_okS_t hS)))
      refine pz_wd_set (σ' := pz_wR σ f i j.toNatClampNeg (some (g, k))) hW rfl rfl hin hq0 (fun h => ?_) (fun _ => ⟨t0, cA, ?_, by rw [htag]; exact ht0⟩) pz_oth_R (pz_wR_ok hW.2.2.2 (pz_okS_h hS))
      · rw [htag] at h; omega
      · rw [htag]
        refine congrArg (fun z => Sum.inl (cA, (pz_sh σ f).2.2, Sum.inr (Sum.inr (Sum.inr (Sum.inr z))))) (funext fun q => ?_)
        by_cases hq : q = j.toNatClampNeg
        · subst hq
          have e9 : pz_rr (pz_wR σ f i j.toNatClampNeg (some (g, k))) f i j.toNatClampNeg = some (g, k) := if_pos ⟨rfl, rfl, rfl⟩
          rw [e9]
          exact if_pos rfl
        · have e9 : pz_rr (pz_wR σ f i j.toNatClampNeg (some (g, k))) f i q = pz_rr σ f i q := if_neg fun z => hq z.2.2
          rw [e9]
          exact if_neg hq
    · cases hs
  · cases hs
theorem pz_len_ok (hx : p.tables.exec = Jvm.exec) (hb : c.code = cc) (hdg : decode cc pc = .ok (.arraylength, 1))
    (hs : pz_len pc L st σ = some (pc', L', st', σ')) (kk : pz_W p l e R s m args below meth c Q D A kc0 ks0 n0 ad0 (pc') (L') (st') (σ')) : pz_W p l e R s m args below meth c Q D A kc0 ks0 n0 ad0 (pc) (L) (st) (σ) := by
  unfold pz_len at hs
  split at hs
  · rename_i f i r
    split at hs
    · rename_i hc
      obtain ⟨har, his⟩ := hc
      cases hs
      intro ad ls H locs cells slots ha E hl hL hS
      obtain ⟨ws, tys, hK, hP, hD, hS0, hW, hc, hsl⟩ := id E
      have hin := pz_is_in his (Or.inr har)
      obtain ⟨q0, t0, cA, hq0, ht0⟩ := (hW.2.1 f i hin).2 har
      exact va_alen hx hb hK hP q0 t0 hq0 ht0 rfl hdg (kk ad ls H locs cells slots ha E hl hL (pz_okS_c trivial (pz_okS_t hS)))
    · cases hs
  · cases hs
end PH
