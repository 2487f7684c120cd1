/-! one instruction of the pure machine is one of the machine: no heap yet -/
def pz_W (p : Program) (l : Launch) (e : Env) (R : Room) (s : State) (m : MethodId) (args : Array Value) (below : List Frame) (meth : Method) (c : Code) (Q : State → Prop) (D : va_G) (A : Nat → Prop) (kc0 ks0 n0 : Nat) (ad0 : pz_R → Nat) (pc : Nat) (L : pz_L) (st : List pz_V) (σ : pz_S) : Prop :=
  ∀ (ad : pz_R → Nat) (ls : Array Slot) (H : Heap) (locs : List Loc) (cells slots : Nat), pz_ag n0 ad0 ad → pz_E D s A kc0 ks0 ad σ H locs cells slots → pz_lr ad ls L → pz_okL σ.1 L → pz_okS σ.1 st →
    W p l e R s m args below meth c H locs cells slots Q (F0 m pc ls (st.map (pz_cv ad)))
section PS
variable {p : Program} {l : Launch} {e : Env} {R : Room} {s : State} {m : MethodId} {args : Array Value} {below : List Frame} {meth : Method} {c : Code} {Q : State → Prop}
variable {cc : ByteArray} {D : va_G} {A : Nat → Prop} {kc0 ks0 n0 : Nat} {ad0 : pz_R → Nat}
variable {σ σ' : pz_S} {L L' : pz_L} {st st' : List pz_V} {pc pc' : Nat}
theorem pz_push_ok {n : Nat} {v : pz_V} {x : Value} (hv : ∀ ad, pz_cv ad v = x) (hk : ∀ n, pz_ok n v) (row : ∀ {H : Heap} {locs : List Loc} {cells slots : Nat} {ls : Array Slot} {r : List Value}, W p l e R s m args below meth c H locs cells slots Q (F0 m (pc + n) (ls) (x :: r)) → W p l e R s m args below meth c H locs cells slots Q (F0 m (pc) (ls) (r)))
    (hs : pz_push pc L st σ n v = some (pc', L', st', σ')) (k : pz_W p l e R s m args below meth c Q D A kc0 ks0 n0 ad0 (pc') (L') (st') (σ')) : pz_W p l e R s m args below meth c Q D A kc0 ks0 n0 ad0 (pc) (L) (st) (σ) := by
  cases hs
  intro ad ls H locs cells slots ha E hl hL hS
  have h := k ad ls H locs cells slots ha E hl hL (pz_okS_c (hk _) hS)
  rw [List.map_cons, hv] at h
  exact row h
theorem pz_ldi_ok {n i : Nat} (row : ∀ {H : Heap} {locs : List Loc} {cells slots : Nat} {ls : Array Slot} {r : List Value} {x : Int32}, ls[i]? = some (.val (.int x)) → W p l e R s m args below meth c H locs cells slots Q (F0 m (pc + n) (ls) (.int x :: r)) → W p l e R s m args below meth c H locs cells slots Q (F0 m (pc) (ls) (r)))
    (hs : pz_ldi pc L st σ n i = some (pc', L', st', σ')) (k : pz_W p l e R s m args below meth c Q D A kc0 ks0 n0 ad0 (pc') (L') (st') (σ')) : pz_W p l e R s m args below meth c Q D A kc0 ks0 n0 ad0 (pc) (L) (st) (σ) := by
  unfold pz_ldi at hs
  split at hs
  · rename_i x hx
    cases hs
    intro ad ls H locs cells slots ha E hl hL hS
    exact row (hl.2.2 _ _ hx) (k ad ls H locs cells slots ha E hl hL (pz_okS_c trivial hS))
  · cases hs
theorem pz_ldl_ok {n i : Nat} (row : ∀ {H : Heap} {locs : List Loc} {cells slots : Nat} {ls : Array Slot} {r : List Value} {x : Int64}, ls[i]? = some (.val (.long x)) → W p l e R s m args below meth c H locs cells slots Q (F0 m (pc + n) (ls) (.long x :: r)) → W p l e R s m args below meth c H locs cells slots Q (F0 m (pc) (ls) (r)))
    (hs : pz_ldl pc L st σ n i = some (pc', L', st', σ')) (k : pz_W p l e R s m args below meth c Q D A kc0 ks0 n0 ad0 (pc') (L') (st') (σ')) : pz_W p l e R s m args below meth c Q D A kc0 ks0 n0 ad0 (pc) (L) (st) (σ) := by
  unfold pz_ldl at hs
  split at hs
  · rename_i x hx
    cases hs
    intro ad ls H locs cells slots ha E hl hL hS
    exact row (hl.2.2 _ _ hx) (k ad ls H locs cells slots ha E hl hL (pz_okS_c trivial hS))
  · cases hs
theorem pz_lda_ok {n i : Nat} (row : ∀ {H : Heap} {locs : List Loc} {cells slots : Nat} {ls : Array Slot} {r : List Value} {x : Nat}, ls[i]? = some (.val (.ref x)) → W p l e R s m args below meth c H locs cells slots Q (F0 m (pc + n) (ls) (.ref x :: r)) → W p l e R s m args below meth c H locs cells slots Q (F0 m (pc) (ls) (r)))
    (hs : pz_lda pc L st σ n i = some (pc', L', st', σ')) (k : pz_W p l e R s m args below meth c Q D A kc0 ks0 n0 ad0 (pc') (L') (st') (σ')) : pz_W p l e R s m args below meth c Q D A kc0 ks0 n0 ad0 (pc) (L) (st) (σ) := by
  unfold pz_lda at hs
  split at hs
  · rename_i x hx
    cases hs
    intro ad ls H locs cells slots ha E hl hL hS
    exact row (hl.2.2 _ _ hx) (k ad ls H locs cells slots ha E hl hL (pz_okS_c (hL _ _ hx) hS))
  · cases hs
theorem pz_sti_ok {n i : Nat} (row : ∀ {H : Heap} {locs : List Loc} {cells slots : Nat} {ls : Array Slot} {r : List Value} {x : Int32} {lv : List (Nat × Value)}, lv_has ls L.length lv → i < L.length → (∀ ls' : Array Slot, lv_has ls' L.length ((i, Value.int x) :: lv.filter (fun q => !(q.1 == i) && !(q.1 + 1 == i && q.2.category == 2))) → W p l e R s m args below meth c H locs cells slots Q (F0 m (pc + n) (ls') (r))) → W p l e R s m args below meth c H locs cells slots Q (F0 m (pc) (ls) (.int x :: r)))
    (hs : pz_sti pc L st σ n i = some (pc', L', st', σ')) (k : pz_W p l e R s m args below meth c Q D A kc0 ks0 n0 ad0 (pc') (L') (st') (σ')) : pz_W p l e R s m args below meth c Q D A kc0 ks0 n0 ad0 (pc) (L) (st) (σ) := by
  unfold pz_sti at hs
  split at hs
  · rename_i x r
    split at hs
    · rename_i hi
      cases hs
      intro ad ls H locs cells slots ha E hl hL hS
      exact row (pz_lr_has hl) hi fun ls' h' => k ad ls' H locs cells slots ha E (pz_lr_st1 (v := .inl x) hi h') (pz_okL_st1 hL trivial) (pz_okS_t hS)
    · cases hs
  · cases hs
theorem pz_sta_ok {n i : Nat} (row : ∀ {H : Heap} {locs : List Loc} {cells slots : Nat} {ls : Array Slot} {r : List Value} {x : Nat} {lv : List (Nat × Value)}, lv_has ls L.length lv → i < L.length → (∀ ls' : Array Slot, lv_has ls' L.length ((i, Value.ref x) :: lv.filter (fun q => !(q.1 == i) && !(q.1 + 1 == i && q.2.category == 2))) → W p l e R s m args below meth c H locs cells slots Q (F0 m (pc + n) (ls') (r))) → W p l e R s m args below meth c H locs cells slots Q (F0 m (pc) (ls) (.ref x :: r)))
    (hs : pz_sta pc L st σ n i = some (pc', L', st', σ')) (k : pz_W p l e R s m args below meth c Q D A kc0 ks0 n0 ad0 (pc') (L') (st') (σ')) : pz_W p l e R s m args below meth c Q D A kc0 ks0 n0 ad0 (pc) (L) (st) (σ) := by
  unfold pz_sta at hs
  split at hs
  · rename_i x r
    split at hs
    · rename_i hi
      cases hs
      intro ad ls H locs cells slots ha E hl hL hS
      exact row (pz_lr_has hl) hi fun ls' h' => k ad ls' H locs cells slots ha E (pz_lr_st1 (v := .inr (.inr (some x))) hi h') (pz_okL_st1 hL (pz_okS_h hS)) (pz_okS_t hS)
    · cases hs
  · cases hs
theorem pz_stl_ok {n i : Nat} (row : ∀ {H : Heap} {locs : List Loc} {cells slots : Nat} {ls : Array Slot} {r : List Value} {x : Int64} {lv : List (Nat × Value)}, lv_has ls L.length lv → i + 1 < L.length → (∀ ls' : Array Slot, lv_has ls' L.length ((i, Value.long x) :: lv.filter (fun q => !(q.1 == i) && (!(q.1 == i + 1) && !(q.1 + 1 == i && q.2.category == 2)))) → W p l e R s m args below meth c H locs cells slots Q (F0 m (pc + n) (ls') (r))) → W p l e R s m args below meth c H locs cells slots Q (F0 m (pc) (ls) (.long x :: r)))
    (hs : pz_stl pc L st σ n i = some (pc', L', st', σ')) (k : pz_W p l e R s m args below meth c Q D A kc0 ks0 n0 ad0 (pc') (L') (st') (σ')) : pz_W p l e R s m args below meth c Q D A kc0 ks0 n0 ad0 (pc) (L) (st) (σ) := by
  unfold pz_stl at hs
  split at hs
  · rename_i x r
    split at hs
    · rename_i hi
      cases hs
      intro ad ls H locs cells slots ha E hl hL hS
      exact row (pz_lr_has hl) hi fun ls' h' => k ad ls' H locs cells slots ha E (pz_lr_st2 (v := .inr (.inl x)) hi h') (pz_okL_st2 hL trivial) (pz_okS_t hS)
    · cases hs
  · cases hs
theorem pz_inc_ok {i : Nat} {n : Int} (hx : p.tables.exec = Jvm.exec) (hb : c.code = cc) (hdg : decode cc pc = .ok (.iinc i n, 3))
    (hs : pz_inc pc L st σ i n = some (pc', L', st', σ')) (k : pz_W p l e R s m args below meth c Q D A kc0 ks0 n0 ad0 (pc') (L') (st') (σ')) : pz_W p l e R s m args below meth c Q D A kc0 ks0 n0 ad0 (pc) (L) (st) (σ) := by
  unfold pz_inc at hs
  split at hs
  · rename_i x hx0
    split at hs
    · rename_i hi
      cases hs
      intro ad ls H locs cells slots ha E hl hL hS
      have hm : (i, Value.int x) ∈ pz_lv ad L := pz_lv_mem.mpr ⟨_, hx0, rfl⟩
      obtain ⟨j, hj⟩ := List.mem_iff_getElem?.mp hm
      exact lv_iinc hx hb hdg (pz_lr_has hl) hj rfl hi rfl fun ls' h' => k ad ls' H locs cells slots ha E (pz_lr_st1 (v := .inl (x + Int32.ofInt n)) hi h') (pz_okL_st1 hL trivial) hS
    · cases hs
  · cases hs
theorem pz_bin_ok {f : Int32 → Int32 → Int32} (row : ∀ {H : Heap} {locs : List Loc} {cells slots : Nat} {ls : Array Slot} {r : List Value} {x y : Int32}, W p l e R s m args below meth c H locs cells slots Q (F0 m (pc + 1) (ls) (.int (f x y) :: r)) → W p l e R s m args below meth c H locs cells slots Q (F0 m (pc) (ls) (.int y :: .int x :: r)))
    (hs : pz_bin pc L st σ f = some (pc', L', st', σ')) (k : pz_W p l e R s m args below meth c Q D A kc0 ks0 n0 ad0 (pc') (L') (st') (σ')) : pz_W p l e R s m args below meth c Q D A kc0 ks0 n0 ad0 (pc) (L) (st) (σ) := by
  unfold pz_bin at hs
  split at hs
  · cases hs
    intro ad ls H locs cells slots ha E hl hL hS
    exact row (k ad ls H locs cells slots ha E hl hL (pz_okS_c trivial (pz_okS_t (pz_okS_t hS))))
  · cases hs
theorem pz_dv_ok {f : Int32 → Int32 → Int32} (row : ∀ {H : Heap} {locs : List Loc} {cells slots : Nat} {ls : Array Slot} {r : List Value} {x y : Int32}, ¬ y = 0 → W p l e R s m args below meth c H locs cells slots Q (F0 m (pc + 1) (ls) (.int (f x y) :: r)) → W p l e R s m args below meth c H locs cells slots Q (F0 m (pc) (ls) (.int y :: .int x :: r)))
    (hs : pz_dv pc L st σ f = some (pc', L', st', σ')) (k : pz_W p l e R s m args below meth c Q D A kc0 ks0 n0 ad0 (pc') (L') (st') (σ')) : pz_W p l e R s m args below meth c Q D A kc0 ks0 n0 ad0 (pc) (L) (st) (σ) := by
  unfold pz_dv at hs
  split at hs
  · split at hs
    · cases hs
    · rename_i hy
      cases hs
      intro ad ls H locs cells slots ha E hl hL hS
      exact row hy (k ad ls H locs cells slots ha E hl hL (pz_okS_c trivial (pz_okS_t (pz_okS_t hS))))
  · cases hs
theorem pz_lbin_ok {f : Int64 → Int64 → Int64} (row : ∀ {H : Heap} {locs : List Loc} {cells slots : Nat} {ls : Array Slot} {r : List Value} {x y : Int64}, W p l e R s m args below meth c H locs cells slots Q (F0 m (pc + 1) (ls) (.long (f x y) :: r)) → W p l e R s m args below meth c H locs cells slots Q (F0 m (pc) (ls) (.long y :: .long x :: r)))
    (hs : pz_lbin pc L st σ f = some (pc', L', st', σ')) (k : pz_W p l e R s m args below meth c Q D A kc0 ks0 n0 ad0 (pc') (L') (st') (σ')) : pz_W p l e R s m args below meth c Q D A kc0 ks0 n0 ad0 (pc) (L) (st) (σ) := by
  unfold pz_lbin at hs
  split at hs
  · cases hs
    intro ad ls H locs cells slots ha E hl hL hS
    exact row (k ad ls H locs cells slots ha E hl hL (pz_okS_c trivial (pz_okS_t (pz_okS_t hS))))
  · cases hs
theorem pz_ldv_ok {f : Int64 → Int64 → Int64} (row : ∀ {H : Heap} {locs : List Loc} {cells slots : Nat} {ls : Array Slot} {r : List Value} {x y : Int64}, ¬ y = 0 → W p l e R s m args below meth c H locs cells slots Q (F0 m (pc + 1) (ls) (.long (f x y) :: r)) → W p l e R s m args below meth c H locs cells slots Q (F0 m (pc) (ls) (.long y :: .long x :: r)))
    (hs : pz_ldv pc L st σ f = some (pc', L', st', σ')) (k : pz_W p l e R s m args below meth c Q D A kc0 ks0 n0 ad0 (pc') (L') (st') (σ')) : pz_W p l e R s m args below meth c Q D A kc0 ks0 n0 ad0 (pc) (L) (st) (σ) := by
  unfold pz_ldv at hs
  split at hs
  · split at hs
    · cases hs
    · rename_i hy
      cases hs
      intro ad ls H locs cells slots ha E hl hL hS
      exact row hy (k ad ls H locs cells slots ha E hl hL (pz_okS_c trivial (pz_okS_t (pz_okS_t hS))))
  · cases hs
theorem pz_un_ok {f : Int32 → pz_V} (hk : ∀ n x, pz_ok n (f x)) (row : ∀ {H : Heap} {locs : List Loc} {cells slots : Nat} {ls : Array Slot} {r : List Value} {x : Int32} {ad : pz_R → Nat}, W p l e R s m args below meth c H locs cells slots Q (F0 m (pc + 1) (ls) (pz_cv ad (f x) :: r)) → W p l e R s m args below meth c H locs cells slots Q (F0 m (pc) (ls) (.int x :: r)))
    (hs : pz_un pc L st σ f = some (pc', L', st', σ')) (k : pz_W p l e R s m args below meth c Q D A kc0 ks0 n0 ad0 (pc') (L') (st') (σ')) : pz_W p l e R s m args below meth c Q D A kc0 ks0 n0 ad0 (pc) (L) (st) (σ) := by
  unfold pz_un at hs
  split at hs
  · cases hs
    intro ad ls H locs cells slots ha E hl hL hS
    exact row (k ad ls H locs cells slots ha E hl hL (pz_okS_c (hk _ _) (pz_okS_t hS)))
  · cases hs
theorem pz_tgt {off : Int} (h : ¬ (pc : Int) + off < 0) : (pc : Int) + off = ((((pc : Int) + off).toNat : Nat) : Int) := by omega
theorem pz_if_ok {off : Int} {f : Int32 → Bool} (row : ∀ {H : Heap} {locs : List Loc} {cells slots : Nat} {ls : Array Slot} {r : List Value} {x : Int32} {tgt : Nat}, (pc : Int) + off = (tgt : Int) → (f x = true → W p l e R s m args below meth c H locs cells slots Q (F0 m (tgt) (ls) (r))) → (f x = false → W p l e R s m args below meth c H locs cells slots Q (F0 m (pc + 3) (ls) (r))) → W p l e R s m args below meth c H locs cells slots Q (F0 m (pc) (ls) (.int x :: r)))
    (hs : pz_if pc L st σ off f = some (pc', L', st', σ')) (k : pz_W p l e R s m args below meth c Q D A kc0 ks0 n0 ad0 (pc') (L') (st') (σ')) : pz_W p l e R s m args below meth c Q D A kc0 ks0 n0 ad0 (pc) (L) (st) (σ) := by
  unfold pz_if at hs
  split at hs
  · rename_i x r
    unfold pz_br at hs
    split at hs
    · cases hs
    · rename_i ho
      intro ad ls H locs cells slots ha E hl hL hS
      refine row (pz_tgt ho) (fun hf => ?_) (fun hf => ?_)
      · rw [hf] at hs
        cases hs
        exact k ad ls H locs cells slots ha E hl hL (pz_okS_t hS)
      · rw [hf] at hs
        cases hs
        exact k ad ls H locs cells slots ha E hl hL (pz_okS_t hS)
  · cases hs
theorem pz_ic_ok {off : Int} {f : Int32 → Int32 → Bool} (row : ∀ {H : Heap} {locs : List Loc} {cells slots : Nat} {ls : Array Slot} {r : List Value} {x y : Int32} {tgt : Nat}, (pc : Int) + off = (tgt : Int) → (f x y = true → W p l e R s m args below meth c H locs cells slots Q (F0 m (tgt) (ls) (r))) → (f x y = false → W p l e R s m args below meth c H locs cells slots Q (F0 m (pc + 3) (ls) (r))) → W p l e R s m args below meth c H locs cells slots Q (F0 m (pc) (ls) (.int y :: .int x :: r)))
    (hs : pz_ic pc L st σ off f = some (pc', L', st', σ')) (k : pz_W p l e R s m args below meth c Q D A kc0 ks0 n0 ad0 (pc') (L') (st') (σ')) : pz_W p l e R s m args below meth c Q D A kc0 ks0 n0 ad0 (pc) (L) (st) (σ) := by
  unfold pz_ic at hs
  split at hs
  · rename_i y x r
    unfold pz_br at hs
    split at hs
    · cases hs
    · rename_i ho
      intro ad ls H locs cells slots ha E hl hL hS
      refine row (pz_tgt ho) (fun hf => ?_) (fun hf => ?_)
      · rw [hf] at hs
        cases hs
        exact k ad ls H locs cells slots ha E hl hL (pz_okS_t (pz_okS_t hS))
      · rw [hf] at hs
        cases hs
        exact k ad ls H locs cells slots ha E hl hL (pz_okS_t (pz_okS_t hS))
  · cases hs
theorem pz_sw_ok {n : Nat} {dflt lo hi : Int} {offs : Array Int} (hx : p.tables.exec = Jvm.exec) (hb : c.code = cc) (hdg : decode cc pc = .ok (.tableswitch dflt lo hi offs, n))
    (hs : pz_sw pc L st σ dflt lo hi offs = some (pc', L', st', σ')) (k : pz_W p l e R s m args below meth c Q D A kc0 ks0 n0 ad0 (pc') (L') (st') (σ')) : pz_W p l e R s m args below meth c Q D A kc0 ks0 n0 ad0 (pc) (L) (st) (σ) := by
  unfold pz_sw at hs
  split at hs
  · rename_i x r
    split at hs
    · rename_i hc
      split at hs
      · cases hs
      · rename_i ho
        cases hs
        intro ad ls H locs cells slots ha E hl hL hS
        exact lv_tableOut hx hb hdg hc (pz_tgt ho) (k ad ls H locs cells slots ha E hl hL (pz_okS_t hS))
    · rename_i hc
      split at hs
      · rename_i off hoff
        split at hs
        · cases hs
        · rename_i ho
          cases hs
          intro ad ls H locs cells slots ha E hl hL hS
          exact lv_tableIn hx hb hdg (fun q => hc (Or.inl q)) (fun q => hc (Or.inr q)) hoff (pz_tgt ho) (k ad ls H locs cells slots ha E hl hL (pz_okS_t hS))
      · cases hs
  · cases hs
theorem pz_dup_ok (hx : p.tables.exec = Jvm.exec) (hb : c.code = cc) (hdg : decode cc pc = .ok (.dup, 1))
    (hs : pz_dup pc L st σ = some (pc', L', st', σ')) (k : pz_W p l e R s m args below meth c Q D A kc0 ks0 n0 ad0 (pc') (L') (st') (σ')) : pz_W p l e R s m args below meth c Q D A kc0 ks0 n0 ad0 (pc) (L) (st) (σ) := by
  unfold pz_dup at hs
  split at hs
  · split at hs
    · rename_i h1
      cases hs
      intro ad ls H locs cells slots ha E hl hL hS
      exact lv_dup hx hb hdg (by rw [pz_cat]; exact h1) (k ad ls H locs cells slots ha E hl hL (pz_okS_c (pz_okS_h hS) hS))
    · cases hs
  · cases hs
theorem pz_pop_ok (hx : p.tables.exec = Jvm.exec) (hb : c.code = cc) (hdg : decode cc pc = .ok (.pop, 1))
    (hs : pz_pop pc L st σ = some (pc', L', st', σ')) (k : pz_W p l e R s m args below meth c Q D A kc0 ks0 n0 ad0 (pc') (L') (st') (σ')) : pz_W p l e R s m args below meth c Q D A kc0 ks0 n0 ad0 (pc) (L) (st) (σ) := by
  unfold pz_pop at hs
  split at hs
  · split at hs
    · rename_i h1
      cases hs
      intro ad ls H locs cells slots ha E hl hL hS
      exact lv_pop hx hb hdg (by rw [pz_cat]; exact h1) (k ad ls H locs cells slots ha E hl hL (pz_okS_t hS))
    · cases hs
  · cases hs
theorem pz_dupx1_ok (hx : p.tables.exec = Jvm.exec) (hb : c.code = cc) (hdg : decode cc pc = .ok (.dup_x1, 1))
    (hs : pz_dupx1 pc L st σ = some (pc', L', st', σ')) (k : pz_W p l e R s m args below meth c Q D A kc0 ks0 n0 ad0 (pc') (L') (st') (σ')) : pz_W p l e R s m args below meth c Q D A kc0 ks0 n0 ad0 (pc) (L) (st) (σ) := by
  unfold pz_dupx1 at hs
  split at hs
  · split at hs
    · rename_i h1
      cases hs
      intro ad ls H locs cells slots ha E hl hL hS
      exact lv_dup_x1 hx hb hdg (by rw [pz_cat]; exact h1.1) (by rw [pz_cat]; exact h1.2) (k ad ls H locs cells slots ha E hl hL (pz_okS_c (pz_okS_h hS) (pz_okS_c (pz_okS_h (pz_okS_t hS)) (pz_okS_c (pz_okS_h hS) (pz_okS_t (pz_okS_t hS))))))
    · cases hs
  · cases hs
theorem pz_dupx2_ok (hx : p.tables.exec = Jvm.exec) (hb : c.code = cc) (hdg : decode cc pc = .ok (.dup_x2, 1))
    (hs : pz_dupx2 pc L st σ = some (pc', L', st', σ')) (k : pz_W p l e R s m args below meth c Q D A kc0 ks0 n0 ad0 (pc') (L') (st') (σ')) : pz_W p l e R s m args below meth c Q D A kc0 ks0 n0 ad0 (pc) (L) (st) (σ) := by
  unfold pz_dupx2 at hs
  split at hs
  · split at hs
    · rename_i h1
      cases hs
      intro ad ls H locs cells slots ha E hl hL hS
      exact lv_dup_x2 hx hb hdg (by rw [pz_cat]; exact h1.1) (by rw [pz_cat]; exact h1.2.1) (by rw [pz_cat]; exact h1.2.2) (k ad ls H locs cells slots ha E hl hL (pz_okS_c (pz_okS_h hS) (pz_okS_c (pz_okS_h (pz_okS_t hS)) (pz_okS_c (pz_okS_h (pz_okS_t (pz_okS_t hS))) (pz_okS_c (pz_okS_h hS) (pz_okS_t (pz_okS_t (pz_okS_t hS))))))))
    · cases hs
  · cases hs
theorem pz_dup2_ok (hx : p.tables.exec = Jvm.exec) (hb : c.code = cc) (hdg : decode cc pc = .ok (.dup2, 1))
    (hs : pz_dup2 pc L st σ = some (pc', L', st', σ')) (k : pz_W p l e R s m args below meth c Q D A kc0 ks0 n0 ad0 (pc') (L') (st') (σ')) : pz_W p l e R s m args below meth c Q D A kc0 ks0 n0 ad0 (pc) (L) (st) (σ) := by
  unfold pz_dup2 at hs
  split at hs
  · split at hs
    · rename_i h1
      cases hs
      intro ad ls H locs cells slots ha E hl hL hS
      exact lv_dup2_11 hx hb hdg (by rw [pz_cat]; exact h1.1) (by rw [pz_cat]; exact h1.2) (k ad ls H locs cells slots ha E hl hL (pz_okS_c (pz_okS_h hS) (pz_okS_c (pz_okS_h (pz_okS_t hS)) hS)))
    · split at hs
      · rename_i h1
        cases hs
        intro ad ls H locs cells slots ha E hl hL hS
        exact lv_dup2_2 hx hb hdg (by rw [pz_cat]; exact h1) (k ad ls H locs cells slots ha E hl hL (pz_okS_c (pz_okS_h hS) hS))
      · cases hs
  · split at hs
    · rename_i h1
      cases hs
      intro ad ls H locs cells slots ha E hl hL hS
      exact lv_dup2_2 hx hb hdg (by rw [pz_cat]; exact h1) (k ad ls H locs cells slots ha E hl hL (pz_okS_c (pz_okS_h hS) hS))
    · cases hs
  · cases hs
end PS
