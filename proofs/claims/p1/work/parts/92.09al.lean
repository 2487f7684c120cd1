/-! one instruction of the pure machine is one of the machine: what is new; all of them -/
theorem pz_kd_ok : ∀ t, t < 6 → ∀ k, k < pz_n t → pz_kd (pz_ty t k) ≠ 3 ∧ (pz_T t k).1 = pz_C t := by decide +kernel
theorem pz_dft {t k : Nat} (h : pz_kd (pz_ty t k) ≠ 3) : defaultValue (pz_ty t k) = if pz_kd (pz_ty t k) = 2 then .null else .int 0 := by
  generalize pz_ty t k = ty at h ⊢
  cases ty <;> first | rfl | exact absurd rfl h
theorem pz_AI : "[" ++ (FieldType.array .int).toString = "[[I" := by decide +kernel
theorem pz_pre {ws ws2 : va_W} : ∀ (k : Nat) (x : Nat × va_E), ws[k]? = some x → (ws ++ ws2)[k]? = some x := fun k x h => by
  rw [List.getElem?_append_left (List.getElem?_eq_some_iff.mp h).1]; exact h
theorem pz_preT {ws ws2 : List (ClassId × FieldType)} : ∀ (k : Nat) (x : ClassId × FieldType), ws[k]? = some x → (ws ++ ws2)[k]? = some x := fun k x h => by
  rw [List.getElem?_append_left (List.getElem?_eq_some_iff.mp h).1]; exact h
def pz_lk (own : String) (i : Instr) (a b : Nat) : Prop := match i with
  | .getfield idx => pz_lkF own idx a b
  | .putfield idx => pz_lkF own idx a b
  | .ldc idx => Cond.constant own idx (Int32.ofNat a) ∈ wsL_law
  | .ldc_w idx => Cond.constant own idx (Int32.ofNat a) ∈ wsL_law
  | .ldc2_w idx => Cond.constantLong own idx (pz_lcs.getD a 0) ∈ wsL_law
  | .new idx => a < 6 → Cond.classLink own idx (pz_C a) ∈ wsL_law ∧ Cond.instantiable (pz_C a) (pz_n a) ∈ wsL_law ∧ Cond.initialized (pz_C a) ∈ wsL_law
  | .anewarray idx => Cond.classLink own idx RX6 ∈ wsL_law
  | .multianewarray idx d => d = 2 ∧ Cond.classLink own idx "[[I" ∈ wsL_law
  | _ => True
section PA
variable {p : Program} {l : Launch} {e : Env} {R : Room} {s : State} {m : MethodId} {args : Array Value} {below : List Frame} {meth : Method} {c : Code} {Q : State → Prop}
variable {cc : ByteArray} {D : va_G} {A : Nat → Prop} {kc0 ks0 n0 : Nat} {ad0 : pz_R → Nat} {own : String}
variable {σ σ' : pz_S} {L L' : pz_L} {st st' : List pz_V} {pc pc' : Nat}
/-- behind a new array -/
theorem pz_newa_E {ad : pz_R → Nat} {H1 : Heap} {locs : List Loc} {cells slots tag N q : Nat} {cA : ClassId} {C0 : (Nat → Int32) ⊕ ((Nat → Int64) ⊕ ((Nat → UInt32) ⊕ ((Nat → UInt64) ⊕ (Nat → Option Nat))))} {ws : va_W} {tys : List (ClassId × FieldType)} (har : pz_arr tag = true)
    (hC : pz_ac (pz_adn ad σ.1 (fun _ => q)) (pz_al σ tag 1 N 1 N (fun _ _ => none)) tag σ.1 0 = C0) (hW : pz_wd ad σ ws tys) (hc : pz_kc σ = kc0 + cells) (hsl : pz_ks σ = ks0 + slots)
    (hK1 : va_K D pz_cls (tys ++ [(cA, pz_aty tag)]) s) (hP1 : va_P D pz_cls (ws ++ [(q, .inl (cA, (N, C0)))]) H1) (hD1 : va_D A (ws ++ [(q, .inl (cA, (N, C0)))])) (hS1 : va_S A s.heap H1 locs) :
    pz_E D s A kc0 ks0 (pz_adn ad σ.1 (fun _ => q)) (pz_al σ tag 1 N 1 N (fun _ _ => none)) H1 locs (cells + 1) (slots + N) := by
  refine ⟨_, _, hK1, hP1, hD1, hS1, pz_wd_new (cnt := 1) hW hD1 pz_pre pz_preT (fun i j hi hj _ => by omega) (fun i hi => ?_) (fun i j r h => by cases h), by show pz_kc σ + 1 = _; omega, by show pz_ks σ + N = _; omega⟩
  have hi0 : i = 0 := by omega
  subst hi0
  refine ⟨ws.length, _, Nat.le_refl _, by rw [List.getElem?_append_right (Nat.le_refl _), Nat.sub_self]; rfl, fun h => ?_, fun _ => ⟨tys.length, cA, by rw [hC], by rw [List.getElem?_append_right (Nat.le_refl _), Nat.sub_self]; rfl⟩⟩
  rw [pz_arr_no h] at har
  cases har
theorem pz_newa_ok {len tag : Nat} (hs : pz_newa pc L st σ len tag = some (pc', L', st', σ')) (hcap : pz_kc σ' ≤ kc0 + R.cells ∧ pz_ks σ' ≤ ks0 + R.slots) (hn0 : n0 ≤ σ.1) (har : pz_arr tag = true)
    (C0 : (Nat → Int32) ⊕ ((Nat → Int64) ⊕ ((Nat → UInt32) ⊕ ((Nat → UInt64) ⊕ (Nat → Option Nat))))) (hC : ∀ (ad : pz_R → Nat) (N : Nat), pz_ac ad (pz_al σ tag 1 N 1 N (fun _ _ => none)) tag σ.1 0 = C0)
    (row : ∀ {H : Heap} {locs : List Loc} {cells slots : Nat} {ls : Array Slot} {r : List Value} {ws : va_W} {tys : List (ClassId × FieldType)} {n : Int32}, va_K D pz_cls tys s → va_P D pz_cls ws H → va_D A ws → va_S A s.heap H locs → ¬ n < 0 → n.toNatClampNeg ≤ 1000000 → cells + 1 ≤ R.cells → slots + n.toNatClampNeg ≤ R.slots →
      (∀ (q : Nat) (cA : ClassId) (H1 : Heap), va_K D pz_cls (tys ++ [(cA, pz_aty tag)]) s → va_P D pz_cls (ws ++ [(q, .inl (cA, (n.toNatClampNeg, C0)))]) H1 → va_D A (ws ++ [(q, .inl (cA, (n.toNatClampNeg, C0)))]) → va_S A s.heap H1 locs → W p l e R s m args below meth c H1 locs (cells + 1) (slots + n.toNatClampNeg) Q (F0 m (pc + len) (ls) (.ref q :: r))) → W p l e R s m args below meth c H locs cells slots Q (F0 m (pc) (ls) (.int n :: r)))
    (kk : pz_W p l e R s m args below meth c Q D A kc0 ks0 n0 ad0 (pc') (L') (st') (σ')) : pz_W p l e R s m args below meth c Q D A kc0 ks0 n0 ad0 (pc) (L) (st) (σ) := by
  unfold pz_newa at hs
  split at hs
  · rename_i n r
    split at hs
    · cases hs
    · rename_i hc
      cases hs
      intro ad ls H locs cells slots ha E hl hL hS
      obtain ⟨ws, tys, hK, hP, hD, hS0, hW, hc1, hsl⟩ := id E
      have h1 : pz_kc σ + 1 ≤ kc0 + R.cells := hcap.1
      have h2 : pz_ks σ + n.toNatClampNeg ≤ ks0 + R.slots := hcap.2
      refine row hK hP hD hS0 (fun q => hc (Or.inl q)) (Nat.not_lt.mp fun q => hc (Or.inr q)) (by omega) (by omega) fun q cA H1 hK1 hP1 hD1 hS1 => ?_
      have hg : pz_ag σ.1 ad (pz_adn ad σ.1 (fun _ => q)) := pz_adn_ag
      have k9 := kk (pz_adn ad σ.1 (fun _ => q)) ls H1 locs (cells + 1) (slots + n.toNatClampNeg) (pz_ag_tr ha hg hn0) (pz_newa_E har (hC _ _) hW hc1 hsl hK1 hP1 hD1 hS1) (pz_lr_ag hg hL hl) (pz_okL_mono (Nat.le_succ _) hL) (pz_okS_c (Nat.lt_succ_self _) (pz_okS_mono (Nat.le_succ _) (pz_okS_t hS)))
      rw [List.map_cons, pz_map_ag hg (pz_okS_t hS)] at k9
      have hq : pz_cv (pz_adn ad σ.1 (fun _ => q)) (.inr (.inr (some (σ.1, 0)))) = .ref q := congrArg Value.ref (if_pos rfl)
      rw [hq] at k9
      exact k9
  · cases hs
theorem pz_new_ok {idx t : Nat} (ht : t < 6) (hx : p.tables.exec = Jvm.exec) (hb : c.code = cc) (hown : s.vm.findClass own = some m.cls) (hts : ∀ w ∈ wsL_law, w.before args s = true) (hA : ∀ q, s.heap.size ≤ q → A q)
    (hlk : Cond.classLink own idx (pz_C t) ∈ wsL_law ∧ Cond.instantiable (pz_C t) (pz_n t) ∈ wsL_law ∧ Cond.initialized (pz_C t) ∈ wsL_law) (hdg : decode cc pc = .ok (.new idx, 3))
    (hs : pz_new pc L st σ t = some (pc', L', st', σ')) (hcap : pz_kc σ' ≤ kc0 + R.cells ∧ pz_ks σ' ≤ ks0 + R.slots) (hn0 : n0 ≤ σ.1) (kk : pz_W p l e R s m args below meth c Q D A kc0 ks0 n0 ad0 (pc') (L') (st') (σ')) : pz_W p l e R s m args below meth c Q D A kc0 ks0 n0 ad0 (pc) (L) (st) (σ) := by
  cases hs
  intro ad ls H locs cells slots ha E hl hL hS
  obtain ⟨ws, tys, hK, hP, hD, hS0, hW, hc1, hsl⟩ := id E
  have h1 : pz_kc σ + 1 ≤ kc0 + R.cells := hcap.1
  have h2 : pz_ks σ + pz_n t ≤ ks0 + R.slots := hcap.2
  have hfs : ∀ (q : Nat) (j : Nat), j < pz_n t → pz_fv (pz_adn ad σ.1 (fun _ => q)) (pz_al σ t 1 0 1 (pz_n t) (fun _ _ => none)) t σ.1 0 j = defaultValue (pz_ty t j) := fun q j hj => by
    rw [pz_dft (pz_kd_ok t ht j hj).1]
    unfold pz_fv
    have e1 : pz_rr (pz_al σ t 1 0 1 (pz_n t) (fun _ _ => none)) σ.1 = fun _ _ => none := pz_uf_eq
    have e2 : pz_mm (pz_al σ t 1 0 1 (pz_n t) (fun _ _ => none)) σ.1 = fun _ _ => 0 := pz_uf_eq
    rw [e1, e2]
    rfl
  refine va_new (fs := (List.range (pz_n t)).map fun j => defaultValue (pz_ty t j)) hx hb hts (pz_ws_in ht) (pz_ty t) (pz_ty_ok ht) hown (hts _ hlk.1) (hts _ hlk.2.1) (hts _ hlk.2.2) hK hP hD hS0 hA (pz_cls_at ht) (fun j hj => by unfold vp_V; rw [List.getD_eq_getElem?_getD, List.getElem?_map, List.getElem?_range hj]; rfl) (by omega) (by omega) hdg fun q H1 hP1 hD1 hS1 => ?_
  have hg : pz_ag σ.1 ad (pz_adn ad σ.1 (fun _ => q)) := pz_adn_ag
  have hfs2 : (List.range (pz_n t)).map (fun j => defaultValue (pz_ty t j)) = pz_fs (pz_adn ad σ.1 (fun _ => q)) (pz_al σ t 1 0 1 (pz_n t) (fun _ _ => none)) t σ.1 0 := by
    unfold pz_fs
    exact List.map_congr_left fun j hj => (hfs q j (List.mem_range.mp hj)).symm
  have E1 : pz_E D s A kc0 ks0 (pz_adn ad σ.1 (fun _ => q)) (pz_al σ t 1 0 1 (pz_n t) (fun _ _ => none)) H1 locs (cells + 1) (slots + pz_n t) := by
    refine ⟨_, _, hK, hP1, hD1, hS1, pz_wd_new (cnt := 1) hW hD1 pz_pre (fun _ _ h => h) (fun i j hi hj _ => by omega) (fun i hi => ?_) (fun i j r h => by cases h), by show pz_kc σ + 1 = _; omega, by show pz_ks σ + pz_n t = _; omega⟩
    have hi0 : i = 0 := by omega
    subst hi0
    refine ⟨ws.length, _, Nat.le_refl _, by rw [List.getElem?_append_right (Nat.le_refl _), Nat.sub_self]; rfl, fun _ => by rw [hfs2], fun h => ?_⟩
    rw [pz_arr_no ht] at h
    cases h
  have k9 := kk (pz_adn ad σ.1 (fun _ => q)) ls H1 locs (cells + 1) (slots + pz_n t) (pz_ag_tr ha hg hn0) E1 (pz_lr_ag hg hL hl) (pz_okL_mono (Nat.le_succ _) hL) (pz_okS_c (Nat.lt_succ_self _) (pz_okS_mono (Nat.le_succ _) hS))
  rw [List.map_cons, pz_map_ag hg hS] at k9
  have hq : pz_cv (pz_adn ad σ.1 (fun _ => q)) (.inr (.inr (some (σ.1, 0)))) = .ref q := congrArg Value.ref (if_pos rfl)
  rw [hq] at k9
  exact k9
theorem pz_mnew_ok {idx : Nat} (hx : p.tables.exec = Jvm.exec) (hb : c.code = cc) (hown : s.vm.findClass own = some m.cls) (hts : ∀ w ∈ wsL_law, w.before args s = true) (hA : ∀ q, s.heap.size ≤ q → A q) (hI : Cond.arrayClass .int ∈ wsL_law) (hAO : va_AOA .int s)
    (hlk : Cond.classLink own idx "[[I" ∈ wsL_law) (hdg : decode cc pc = .ok (.multianewarray idx 2, 4))
    (hs : pz_mnew pc L st σ = some (pc', L', st', σ')) (hcap : pz_kc σ' ≤ kc0 + R.cells ∧ pz_ks σ' ≤ ks0 + R.slots) (hn0 : n0 ≤ σ.1) (kk : pz_W p l e R s m args below meth c Q D A kc0 ks0 n0 ad0 (pc') (L') (st') (σ')) : pz_W p l e R s m args below meth c Q D A kc0 ks0 n0 ad0 (pc) (L) (st) (σ) := by
  unfold pz_mnew at hs
  split at hs
  · rename_i k n r
    split at hs
    · cases hs
    · rename_i hc
      cases hs
      intro ad ls H locs cells slots ha E hl hL hS
      obtain ⟨ws, tys, hK, hP, hD, hS0, hW, hc1, hsl⟩ := id E
      have h1 : pz_kc σ + n.toNatClampNeg + 1 ≤ kc0 + R.cells := hcap.1
      have h2 : pz_ks σ + n.toNatClampNeg * k.toNatClampNeg + n.toNatClampNeg ≤ ks0 + R.slots := hcap.2
      have hnb : n.toNatClampNeg ≤ 1000 := Nat.not_lt.mp fun q => hc (Or.inr (Or.inr (Or.inl q)))
      have hkb : k.toNatClampNeg ≤ 1000 := Nat.not_lt.mp fun q => hc (Or.inr (Or.inr (Or.inr q)))
      have hAC : (Cond.arrayClass .int).before args s = true := hts _ hI
      obtain ⟨cy, ky, compy, y1, y2, y3⟩ := Cond.arrayClass_spec hAC
      have hKy : va_K D pz_cls [(cy, .int)] s := ⟨hK.1, fun k9 x hx9 => by
        have h0 : k9 < 1 := (List.getElem?_eq_some_iff.mp hx9).1
        rw [show k9 = 0 by omega] at hx9
        cases hx9
        exact ⟨fun N z => ⟨(fun q hq => by cases hq), ky, y2, compy, y3⟩, y1⟩⟩
      have hcl : (Cond.classLink own idx ("[" ++ (FieldType.array .int).toString)).before args s = true := by rw [pz_AI]; exact hts _ hlk
      refine va_mna (X := ws) (L := []) (f := fun _ => .inr (0, [])) (z := (k.toNatClampNeg, .inl (fun _ => 0))) hx hb hown hcl hAO hAC y1 hK (by simpa [va_pl] using hP) (by simpa [va_pl] using hD) hS0 hA (fun q => hc (Or.inl q)) (fun q => hc (Or.inr (Or.inl q))) rfl rfl (by omega) (by show k.toNatClampNeg * 4 ≤ _; omega) (by omega) rfl rfl (by omega) (by omega) (fun c9 => by
        show ({ cls := c9, slots := Array.replicate k.toNatClampNeg (.int 0), vm := .none } : Cell) = _
        rw [arrV_new]; rfl) hdg fun q rw9 cA H1 hinj _ hK1 hP1 hD1 hS1 => ?_
      have hK2 := hK1.app hKy
      generalize hrows : (List.range n.toNatClampNeg).map rw9 = rows at hP1 hD1
      have hpl : va_pl ([] ++ rows) (vr_up (fun _ => .inr (0, [])) rows (.inl (cy, (k.toNatClampNeg, .inl (fun _ => 0))))) = (List.range n.toNatClampNeg).map (fun i => (rw9 i, (.inl (cy, (k.toNatClampNeg, .inl (fun _ => 0))) : va_E))) := by
        unfold va_pl
        rw [List.nil_append, ← hrows, List.map_map]
        refine List.map_congr_left fun i hi => ?_
        show (rw9 i, vr_up _ _ _ (rw9 i)) = _
        rw [vr_up_in (List.mem_map.mpr ⟨i, hi, rfl⟩)]
      rw [hpl] at hP1 hD1
      have hP2 := va_P.swap hP1
      have hD2 := va_D.swap hD1
      have hD3 : va_D A (ws ++ (List.range n.toNatClampNeg).map (fun i => (rw9 i, (.inl (cy, (k.toNatClampNeg, .inl (fun _ => 0))) : va_E)))) :=
        ⟨fun i j x y hx9 hy9 hxy => hD2.1 i j x y (pz_pre i x hx9) (pz_pre j y hy9) hxy, fun i x hx9 => hD2.2 i x (pz_pre i x hx9)⟩
      have hW1 : pz_wd (pz_adn ad σ.1 rw9) (pz_al σ 50 n.toNatClampNeg k.toNatClampNeg n.toNatClampNeg (n.toNatClampNeg * k.toNatClampNeg) (fun _ _ => none)) (ws ++ (List.range n.toNatClampNeg).map (fun i => (rw9 i, (.inl (cy, (k.toNatClampNeg, .inl (fun _ => 0))) : va_E)))) ((tys ++ [(cA, .array .int)]) ++ [(cy, .int)]) := by
        refine pz_wd_new hW hD3 pz_pre (fun t0 x h => pz_preT t0 x (pz_preT t0 x h)) hinj (fun i hi => ?_) (fun i j r h => by cases h)
        refine ⟨ws.length + i, _, Nat.le_add_right _ _, by rw [List.getElem?_append_right (Nat.le_add_right _ _), Nat.add_sub_cancel_left, List.getElem?_map, List.getElem?_range hi]; rfl, fun h => by omega, fun _ => ⟨(tys ++ [(cA, FieldType.array .int)]).length, cy, ?_, by rw [List.getElem?_append_right (Nat.le_refl _), Nat.sub_self]; rfl⟩⟩
        have e2 : pz_mm (pz_al σ 50 n.toNatClampNeg k.toNatClampNeg n.toNatClampNeg (n.toNatClampNeg * k.toNatClampNeg) (fun _ _ => none)) σ.1 = fun _ _ => 0 := pz_uf_eq
        show _ = Sum.inl (cy, k.toNatClampNeg, Sum.inl (pz_mm (pz_al σ 50 n.toNatClampNeg k.toNatClampNeg n.toNatClampNeg (n.toNatClampNeg * k.toNatClampNeg) (fun _ _ => none)) σ.1 i))
        rw [e2]
      obtain ⟨ad2, had2⟩ : ∃ ad2, ad2 = pz_adn (pz_adn ad σ.1 rw9) (σ.1 + 1) (fun _ => q) := ⟨_, rfl⟩
      have hg1 : pz_ag σ.1 ad (pz_adn ad σ.1 rw9) := pz_adn_ag
      have hg2 : pz_ag (σ.1 + 1) (pz_adn ad σ.1 rw9) ad2 := by rw [had2]; exact pz_adn_ag
      have hg : pz_ag σ.1 ad ad2 := pz_ag_tr hg1 hg2 (Nat.le_succ _)
      have eq2 : ad2 (σ.1 + 1, 0) = q := by rw [had2]; exact if_pos rfl
      have erow : ∀ j, ad2 (σ.1, j) = rw9 j := fun j => by rw [had2]; exact (if_neg (by show ¬ σ.1 = σ.1 + 1; omega)).trans (if_pos rfl)
      have E1 : pz_E D s A kc0 ks0 ad2 (pz_al (pz_al σ 50 n.toNatClampNeg k.toNatClampNeg n.toNatClampNeg (n.toNatClampNeg * k.toNatClampNeg) (fun _ _ => none)) 53 1 n.toNatClampNeg 1 n.toNatClampNeg (fun _ j => if j < n.toNatClampNeg then some (σ.1, j) else none)) H1 locs (cells + 1 + n.toNatClampNeg) (slots + n.toNatClampNeg + n.toNatClampNeg * k.toNatClampNeg) := by
        refine ⟨_, _, hK2, hP2, hD2, hS1, ?_, by show pz_kc σ + n.toNatClampNeg + 1 = _; omega, by show pz_ks σ + n.toNatClampNeg * k.toNatClampNeg + n.toNatClampNeg = _; omega⟩
        rw [had2]
        refine pz_wd_new (cnt := 1) hW1 hD2 pz_pre (fun _ _ h => h) (fun i j hi hj _ => by omega) (fun i hi => ?_) (fun i j r h => ?_)
        · have hi0 : i = 0 := by omega
          subst hi0
          refine ⟨_, _, Nat.le_refl _, by rw [List.getElem?_append_right (Nat.le_refl _), Nat.sub_self]; rfl, fun h => by omega, fun _ => ⟨tys.length, cA, ?_, by rw [List.getElem?_append_left (by simp), List.getElem?_append_right (Nat.le_refl _), Nat.sub_self]; rfl⟩⟩
          refine congrArg (fun z => Sum.inl (cA, n.toNatClampNeg, Sum.inr (Sum.inr (Sum.inr (Sum.inr z))))) (funext fun j => ?_)
          have e3 : pz_rr (pz_al (pz_al σ 50 n.toNatClampNeg k.toNatClampNeg n.toNatClampNeg (n.toNatClampNeg * k.toNatClampNeg) (fun _ _ => none)) 53 1 n.toNatClampNeg 1 n.toNatClampNeg (fun _ j => if j < n.toNatClampNeg then some (σ.1, j) else none)) (σ.1 + 1) = (fun _ j => if j < n.toNatClampNeg then some (σ.1, j) else none) := pz_uf_eq
          show _ = (pz_rr _ (σ.1 + 1) 0 j).map _
          rw [e3]
          by_cases hj : j < n.toNatClampNeg
          · rw [if_pos hj]
            refine Eq.trans ?_ (congrArg (Option.map _) (if_pos hj : (if j < n.toNatClampNeg then some (σ.1, j) else none) = some (σ.1, j))).symm
            have := erow j
            rw [had2] at this
            exact congrArg some this.symm
          · rw [if_neg hj]
            exact (congrArg (Option.map _) (if_neg hj : (if j < n.toNatClampNeg then some (σ.1, j) else none) = none)).symm
        · split at h
          · cases h
            show σ.1 < σ.1 + 1 + 1
            omega
          · cases h
      have k9 := kk ad2 ls H1 locs _ _ (pz_ag_tr ha hg hn0) E1 (pz_lr_ag hg hL hl) (pz_okL_mono (by show σ.1 ≤ σ.1 + 1 + 1; omega) hL) (pz_okS_c (by show σ.1 + 1 < σ.1 + 1 + 1; omega) (pz_okS_mono (by show σ.1 ≤ σ.1 + 1 + 1; omega) (pz_okS_t (pz_okS_t hS))))
      rw [List.map_cons, pz_map_ag hg (pz_okS_t (pz_okS_t hS))] at k9
      have hq : pz_cv ad2 (.inr (.inr (some (σ.1 + 1, 0)))) = .ref q := congrArg Value.ref eq2
      rw [hq] at k9
      exact k9
  · cases hs
end PA
