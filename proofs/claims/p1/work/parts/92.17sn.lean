/-! the rest of a run, and all runs -/
theorem pz_nfw : nativeFrameWords "java/lang/System" "arraycopy" 5 + 11 ≤ 18 := by decide +kernel
theorem pz_oth_C {ad : pz_R → Nat} {σ : pz_S} {f i : Nat} {v : Nat → Int32} : ∀ g j, ¬ (g = f ∧ j = i) → (∀ t, pz_fs ad (pz_wC σ f i v) t g j = pz_fs ad σ t g j) ∧ ∀ t, pz_ac ad (pz_wC σ f i v) t g j = pz_ac ad σ t g j := by
  intro g j hn
  have e : pz_mm (pz_wC σ f i v) g j = pz_mm σ g j := if_neg hn
  refine ⟨fun t => ?_, fun t => ?_⟩
  · refine List.map_congr_left fun k _ => ?_
    unfold pz_fv
    rw [e]
    rfl
  · unfold pz_ac
    rw [e]
    rfl
section SX
variable {p : Program} {l : Launch} {e : Env} {R : Room} {s : State} {m : MethodId} {args : Array Value} {below : List Frame} {meth : Method} {c : Code} {Q : State → Prop}
variable {D : va_G} {A : Nat → Prop} {kc0 ks0 n0 : Nat} {ad0 : pz_R → Nat} {T : pz_Tb} {I : pz_Ib} {y : Nat}
variable {σ σ1 : pz_S} {L : pz_L} {st : List pz_V} {pc : Nat} {o : pz_O} {My : pz_M} {n : Nat}
theorem pz_rm_sp {k : Nat} {r : List pz_V} (h : pz_rm My k r = true) (C : pz_Cx l p R s m args meth c A My) {ad : pz_R → Nat} : 1 ≤ R.frames ∧ ((r.map (pz_cv ad)).map fun v => v.category).sum + k ≤ R.locals := by
  unfold pz_rm at h
  rw [Bool.and_eq_true] at h
  obtain ⟨h1, h2⟩ := h
  obtain ⟨hst, hx, hb, hml, hown, hts, hA, hFs, hret, hlk, hfr, hlo, htab, -⟩ := C
  rw [pz_wt_map]
  exact ⟨Nat.le_trans (Nat.le_of_ble_eq_true h1) hfr, Nat.le_trans (Nat.le_of_ble_eq_true h2) hlo⟩
set_option maxHeartbeats 2000000 in
theorem pz_bi_ok {a idx : Nat} (hT : pz_Tok T I) (G : pz_Gl) (hS : pz_Snd l T I n) (Y : pz_Hy p l e R s m args below meth c Q D A kc0 ks0 n0 ad0 I y My σ1 o) (hL : L.length = pz_mL My) (hn0 : n0 ≤ σ.1) (hSc : y = 632 → pz_Sc s A n0 ad0 σ) (hdg : decode (pz_mB My) pc = .ok (.invokestatic idx, 3))
    (h0 : a = 10000 → Cond.methodLink (pz_mN My).cls idx Lib.Math.min.name ∈ wsL_law) (h1 : a = 10001 → Cond.methodLink (pz_mN My).cls idx Lib.Math.max.name ∈ wsL_law) (h2 : a = 10002 → Cond.methodLink (pz_mN My).cls idx Lib.MathLoose.max_long.x ∈ wsL_law) (h3 : a = 10003 → Cond.methodLink (pz_mN My).cls idx arraycopyName ∈ wsL_law)
    (h : pz_bi (pz_run T I n) My y pc L st σ a = some (σ1, o)) : pz_W p l e R s m args below meth c Q D A kc0 ks0 n0 ad0 (pc) (L) (st) (σ) := by
  have Y0 := Y
  have C0 := Y.2.1
  obtain ⟨hI, ⟨hst, hx, hb, hml, hown, hts, hA, hFs, hret, hlk, hfr, hlo, htab, -⟩, hcap, Hr, Hx, Ho⟩ := Y
  obtain ⟨-, ⟨m1, m2, m3, m4, m5, m6, m7⟩, ⟨a1, a2, a3⟩, -, -⟩ := G
  have go : ∀ (L' : pz_L) (st' : List pz_V) (σ' : pz_S), L'.length = pz_mL My → pz_le σ σ' → pz_run T I n y (pc + 3) L' st' σ' = some (σ1, o) → pz_W p l e R s m args below meth c Q D A kc0 ks0 n0 ad0 (pc + 3) (L') (st') (σ') := fun L' st' σ' hL' hle hr =>
    hS p e R s m args below meth c Q D A kc0 ks0 n0 ad0 y My σ1 o (pc + 3) L' st' σ' Y0 hL' (Nat.le_trans hn0 hle.1) (fun hy => pz_Sc_le (hSc hy) hle) hr
  unfold pz_bi at h
  simp only [cond_eq_ite] at h
  split at h
  · rename_i ha
    have hlk0 := h0 (Nat.eq_of_beq_eq_true ha)
    split at h
    · split at h
      · rename_i v u r hrm
        have kk := go _ _ _ hL pz_le_rf h
        have le := pz_run_le hT _ _ _ _ _ _ _ _ h
        have l1 := le.2.1
        intro ad ls H locs cells slots hag hE hl hokL hokS
        obtain ⟨ws, tys, hK, hP, hD, hVS, hwd, hkc, hks⟩ := id hE
        obtain ⟨r1, r2⟩ := pz_rm_sp hrm C0 (ad := ad)
        exact va_mmin hx hb (hml.trans (hL.symm.trans hl.1.symm)) hown (hts _ hlk0) (hts _ m1) (hts _ m4) (hts _ m5) r1 r2 (by omega) (by omega) hdg (by
          have k9 := kk ad ls H locs cells slots hag hE hl hokL (pz_okS_c trivial (pz_okS_t (pz_okS_t hokS)))
          exact k9)
      · cases h
    · cases h
  split at h
  · rename_i ha
    have hlk0 := h1 (Nat.eq_of_beq_eq_true ha)
    split at h
    · split at h
      · rename_i v u r hrm
        have kk := go _ _ _ hL pz_le_rf h
        have le := pz_run_le hT _ _ _ _ _ _ _ _ h
        have l1 := le.2.1
        intro ad ls H locs cells slots hag hE hl hokL hokS
        obtain ⟨ws, tys, hK, hP, hD, hVS, hwd, hkc, hks⟩ := id hE
        obtain ⟨r1, r2⟩ := pz_rm_sp hrm C0 (ad := ad)
        exact va_mmax hx hb (hml.trans (hL.symm.trans hl.1.symm)) hown (hts _ hlk0) (hts _ m2) (hts _ m4) (hts _ m6) r1 r2 (by omega) (by omega) hdg (by
          have k9 := kk ad ls H locs cells slots hag hE hl hokL (pz_okS_c trivial (pz_okS_t (pz_okS_t hokS)))
          exact k9)
      · cases h
    · cases h
  split at h
  · rename_i ha
    have hlk0 := h2 (Nat.eq_of_beq_eq_true ha)
    split at h
    · split at h
      · rename_i v u r hrm
        have kk := go _ _ _ hL pz_le_rf h
        have le := pz_run_le hT _ _ _ _ _ _ _ _ h
        have l1 := le.2.1
        intro ad ls H locs cells slots hag hE hl hokL hokS
        obtain ⟨ws, tys, hK, hP, hD, hVS, hwd, hkc, hks⟩ := id hE
        obtain ⟨r1, r2⟩ := pz_rm_sp hrm C0 (ad := ad)
        exact va_mmax_long hx hb (hml.trans (hL.symm.trans hl.1.symm)) hown (hts _ hlk0) (hts _ m3) (hts _ m4) (hts _ m7) r1 r2 (by omega) (by omega) hdg (by
          have k9 := kk ad ls H locs cells slots hag hE hl hokL (pz_okS_c trivial (pz_okS_t (pz_okS_t hokS)))
          exact k9)
      · cases h
    · cases h
  split at h
  · rename_i ha
    have hlk0 := h3 (Nat.eq_of_beq_eq_true ha)
    split at h
    · split at h
      · rename_i n9 dp g j sp f i r hc
        obtain ⟨hc0, c1, c2, c3, c4, c5⟩ := hc
        simp only [Bool.and_eq_true] at hc0
        obtain ⟨hrm, his, hjs⟩ := hc0
        have hle := pz_le_wC (σ := σ) (i := j) (v := va_cpy (pz_mm σ f i) (pz_mm σ g j) sp.toNatClampNeg dp.toNatClampNeg n9.toNatClampNeg) (pz_is_t hjs (by decide))
        have kk := go _ _ _ hL hle h
        intro ad ls H locs cells slots hag hE hl hokL hokS
        obtain ⟨ws, tys, hK, hP, hD, hVS, hwd, hkc, hks⟩ := id hE
        obtain ⟨r1, r2⟩ := pz_rm_sp hrm C0 (ad := ad)
        have hin := pz_is_in his (Or.inr rfl)
        have hjn := pz_is_in hjs (Or.inr rfl)
        obtain ⟨htag, -⟩ := pz_is_sp his
        obtain ⟨htag2, -⟩ := pz_is_sp hjs
        obtain ⟨q0, t0, cA, hq0, ht0⟩ := (hwd.2.1 f i hin).2 (by rw [htag]; rfl)
        obtain ⟨q1, t1, cB, hq1, ht1⟩ := (hwd.2.1 g j hjn).2 (by rw [htag2]; rfl)
        rw [htag] at hq0 ht0
        rw [htag2] at hq1 ht1
        refine va_copyi hx hb (hml.trans (hL.symm.trans hl.1.symm)) hown (hts _ hlk0) (hts _ a1) (hts _ a2) (hts _ a3) hK hP hD hVS q0 q1 t0 t1 hq0 hq1 ht0 ht1 rfl c1 c2 c3 c4 c5 (fun _ _ => rfl) r1 (Nat.le_trans (Nat.add_le_add_left pz_nfw _) r2) hdg fun H1 locs1 hP1 hD1 hS1 =>
          kk ad ls H1 locs1 cells slots hag ⟨_, tys, hK, hP1, hD1, hS1, ?_, hkc, hks⟩ hl hokL (pz_okS_t (pz_okS_t (pz_okS_t (pz_okS_t (pz_okS_t hokS)))))
        refine pz_wd_set (σ' := pz_wC σ g j (va_cpy (pz_mm σ f i) (pz_mm σ g j) sp.toNatClampNeg dp.toNatClampNeg n9.toNatClampNeg)) hwd rfl rfl hjn hq1 (fun h => ?_) (fun _ => ⟨t1, cB, ?_, by rw [htag2]; exact ht1⟩) pz_oth_C hwd.2.2.2
        · rw [htag2] at h; omega
        · rw [htag2]
          exact congrArg (fun z => Sum.inl (cB, (pz_sh σ g).2.2, Sum.inl z)) (if_pos ⟨rfl, rfl⟩).symm
      · cases h
    · cases h
  · cases h
theorem pz_oi_ok {idx : Nat} (hT : pz_Tok T I) (G : pz_Gl) (hS : pz_Snd l T I n) (Y : pz_Hy p l e R s m args below meth c Q D A kc0 ks0 n0 ad0 I y My σ1 o) (hL : L.length = pz_mL My) (hn0 : n0 ≤ σ.1) (hSc : y = 632 → pz_Sc s A n0 ad0 σ) (hdg : decode (pz_mB My) pc = .ok (.invokespecial idx, 3))
    (h0 : Cond.methodLink (pz_mN My).cls idx Lib.objectInit ∈ wsL_law) (h : pz_oi (pz_run T I n) My y pc L st σ = some (σ1, o)) : pz_W p l e R s m args below meth c Q D A kc0 ks0 n0 ad0 (pc) (L) (st) (σ) := by
  have Y0 := Y
  have C0 := Y.2.1
  obtain ⟨hI, ⟨hst, hx, hb, hml, hown, hts, hA, hFs, hret, hlk, hfr, hlo, htab, -⟩, hcap, Hr, Hx, Ho⟩ := Y
  obtain ⟨-, -, -, ⟨o1, o2⟩, -⟩ := G
  unfold pz_oi at h
  split at h
  · rw [cond_eq_ite] at h
    split at h
    · rename_i x r hrm
      have kk := hS p e R s m args below meth c Q D A kc0 ks0 n0 ad0 y My σ1 o (pc + 3) L r σ Y0 hL hn0 hSc h
      intro ad ls H locs cells slots hag hE hl hokL hokS
      obtain ⟨r1, r2⟩ := pz_rm_sp hrm C0 (ad := ad)
      exact W.objInit hx hb hown (hts _ h0) (hts _ o1) (hts _ o2) (g := F0 m pc ls (((.inr (.inr (some x)) : pz_V) :: r).map (pz_cv ad))) rfl (by rw [hml]; exact hl.1.trans hL) rfl hdg r1 (by show 2 * 0 + _ + 12 ≤ _; omega)
        (kk ad ls H locs cells slots hag hE hl hokL (pz_okS_t hokS))
    · cases h
  · cases h
theorem pz_go_ok {fin : Bool} {i : Instr} {n9 a b : Nat} (hT : pz_Tok T I) (G : pz_Gl) (hS : pz_Snd l T I n) (Y : pz_Hy p l e R s m args below meth c Q D A kc0 ks0 n0 ad0 I y My σ1 o) (hL : L.length = pz_mL My) (hn0 : n0 ≤ σ.1) (hSc : y = 632 → pz_Sc s A n0 ad0 σ) (hdg : decode (pz_mB My) pc = .ok (i, n9))
    (hlk : pz_lk (pz_mN My).cls i a b) (hn : n9 = pz_il i ∨ ∃ d lo hi offs, i = .tableswitch d lo hi offs) (h60 : ∀ k, i = .putfield k → a ≠ 60) (hfin : fin = true → pz_mK My = 2 ∧ pz_mT My = a) (h : pz_go (pz_run T I n) y (pz_step fin i a b pc L st σ) = some (σ1, o)) : pz_W p l e R s m args below meth c Q D A kc0 ks0 n0 ad0 (pc) (L) (st) (σ) := by
  have Y0 := Y
  obtain ⟨hI, ⟨hst, hx, hb, hml, hown, hts, hA, hFs, hret, hlk9, hfr, hlo, htab, hctor⟩, hcap, Hr, Hx, Ho⟩ := Y
  unfold pz_go at h
  split at h
  · rename_i pc' L' st' σ' hs
    have hle := pz_step_le h60 hs
    have le := pz_run_le hT _ _ _ _ _ _ _ _ h
    have l1 := le.2.1
    have kk := hS p e R s m args below meth c Q D A kc0 ks0 n0 ad0 y My σ1 o pc' L' st' σ' Y0 ((pz_step_len hs).trans hL) (Nat.le_trans hn0 hle.1) (fun hy => pz_Sc_le (hSc hy) hle) h
    refine pz_step_ok (own := (pz_mN My).cls) hx hb hown hts hA G.1.1 G.1.2.1 G.1.2.2 hFs.1.1 hFs.1.2.1 hlk (fun hf => ?_) hdg hn hs (by omega) hn0 kk
    obtain ⟨f1, f2⟩ := hfin hf
    obtain ⟨c1, c2⟩ := hctor f1
    exact ⟨c1, by rw [← f2]; exact c2⟩
  · cases h
theorem pz_scl_ok (hS : pz_Snd l T I n) (Y : pz_Hy p l e R s m args below meth c Q D A kc0 ks0 n0 ad0 I y My σ1 o) (hL : L.length = pz_mL My) (hn0 : n0 ≤ σ.1) (hy : y = 632) (hSc : pz_Sc s A n0 ad0 σ) (hdg : decode (pz_mB My) pc = .ok (.iaload, 1))
    (h : pz_go (pz_run T I n) y (pz_scl pc L st σ) = some (σ1, o)) : pz_W p l e R s m args below meth c Q D A kc0 ks0 n0 ad0 (pc) (L) (st) (σ) := by
  have Y0 := Y
  obtain ⟨hI, ⟨hst, hx, hb, hml, hown, hts, hA, hFs, hret, hlk9, hfr, hlo, htab, hctor⟩, hcap, Hr, Hx, Ho⟩ := Y
  unfold pz_go at h
  split at h
  · rename_i pc' L' st' σ' hs
    unfold pz_scl at hs
    split at hs
    · rename_i j f i r
      split at hs
      · rename_i hc
        obtain ⟨hc0, ho⟩ := hc
        rw [Bool.and_eq_true] at hc0
        obtain ⟨hf0, his⟩ := hc0
        have hf0 := Nat.eq_of_beq_eq_true hf0
        subst hf0
        cases hs
        have kk := hS p e R s m args below meth c Q D A kc0 ks0 n0 ad0 y My σ1 o _ _ _ _ Y0 hL hn0 (fun _ => hSc) h
        obtain ⟨b, len, xs, x1, x2, x3, x4, x5, x6, x7, x8⟩ := hSc
        intro ad ls H locs cells slots hag hE hl hokL hokS
        obtain ⟨ws, tys, hK, hP, hD, hVS, hwd, hkc, hks⟩ := id hE
        obtain ⟨-, hi0⟩ := pz_is_sp his
        rw [x7] at hi0 ho
        have hi0 : i = 0 := by have : i < 1 := hi0; omega
        subst hi0
        have hb0 : ad (0, 0) = b := by rw [hag (0, 0) x4, x5]
        have k9 := kk ad ls H locs cells slots hag hE hl hokL (pz_okS_c trivial (pz_okS_t (pz_okS_t hokS)))
        rw [List.map_cons] at k9
        show W p l e R s m args below meth c H locs cells slots Q (F0 m pc ls (.int j :: .ref (ad (0, 0)) :: r.map (pz_cv ad)))
        rw [hb0]
        refine va_sld (xs := xs) hx hb x1 x2 x3 hVS (pz_out_sp ho) hdg ?_
        rw [← x8]
        exact k9
      · cases hs
    · cases hs
  · cases h
theorem pz_scn_ok (hS : pz_Snd l T I n) (Y : pz_Hy p l e R s m args below meth c Q D A kc0 ks0 n0 ad0 I y My σ1 o) (hL : L.length = pz_mL My) (hn0 : n0 ≤ σ.1) (hy : y = 632) (hSc : pz_Sc s A n0 ad0 σ) (hdg : decode (pz_mB My) pc = .ok (.arraylength, 1))
    (h : pz_go (pz_run T I n) y (pz_scn pc L st σ) = some (σ1, o)) : pz_W p l e R s m args below meth c Q D A kc0 ks0 n0 ad0 (pc) (L) (st) (σ) := by
  have Y0 := Y
  obtain ⟨hI, ⟨hst, hx, hb, hml, hown, hts, hA, hFs, hret, hlk9, hfr, hlo, htab, hctor⟩, hcap, Hr, Hx, Ho⟩ := Y
  unfold pz_go at h
  split at h
  · rename_i pc' L' st' σ' hs
    unfold pz_scn at hs
    split at hs
    · rename_i f i r
      split at hs
      · rename_i hc0
        rw [Bool.and_eq_true] at hc0
        obtain ⟨hf0, his⟩ := hc0
        have hf0 := Nat.eq_of_beq_eq_true hf0
        subst hf0
        cases hs
        have kk := hS p e R s m args below meth c Q D A kc0 ks0 n0 ad0 y My σ1 o _ _ _ _ Y0 hL hn0 (fun _ => hSc) h
        obtain ⟨b, len, xs, x1, x2, x3, x4, x5, x6, x7, x8⟩ := hSc
        intro ad ls H locs cells slots hag hE hl hokL hokS
        obtain ⟨ws, tys, hK, hP, hD, hVS, hwd, hkc, hks⟩ := id hE
        obtain ⟨-, hi0⟩ := pz_is_sp his
        rw [x7] at hi0
        have hi0 : i = 0 := by have : i < 1 := hi0; omega
        subst hi0
        have hb0 : ad (0, 0) = b := by rw [hag (0, 0) x4, x5]
        have k9 := kk ad ls H locs cells slots hag hE hl hokL (pz_okS_c trivial (pz_okS_t hokS))
        rw [List.map_cons, x7] at k9
        show W p l e R s m args below meth c H locs cells slots Q (F0 m pc ls (.ref (ad (0, 0)) :: r.map (pz_cv ad)))
        rw [hb0]
        exact va_slen hx hb x1 x2 x3 hVS hdg k9
      · cases hs
    · cases hs
  · cases h
end SX
/-- THE PURE MACHINE IS SOUND. -/
theorem pz_snd {l : Launch} {T : pz_Tb} {I : pz_Ib} (hT : pz_Tok T I) (G : pz_Gl) (hst : l.stackTraces = false) : ∀ n, pz_Snd l T I n
  | 0 => fun p e R s m args below meth c Q D A kc0 ks0 n0 ad0 y My σ1 o pc L st σ _ _ _ _ h => by rw [pz_run_0] at h; cases h
  | n + 1 => by
    have hS := pz_snd hT G hst n
    intro p e R s m args below meth c Q D A kc0 ks0 n0 ad0 y My σ1 o pc L st σ Y hL hn0 hSc h
    have Y0 := Y
    obtain ⟨hI, C, hcap, Hr, Hx, Ho⟩ := Y
    rw [pz_run_s] at h
    unfold pz_body at h
    rw [hI] at h
    dsimp only at h
    split at h
    · cases h
    rename_i i n9 a b hTy
    obtain ⟨⟨hd, hns, hrow⟩, h60⟩ := hT.2 _ _ _ _ _ _ _ hI hTy
    have ret : ∀ i', i = i' → n9 = 1 → pz_rtn σ (pz_rt i' My st) = some (σ1, o) → pz_W p l e R s m args below meth c Q D A kc0 ks0 n0 ad0 (pc) (L) (st) (σ) := fun i' hi h1 h9 => by
      subst hi
      subst h1
      unfold pz_rtn at h9
      split at h9
      · rename_i v hv
        cases h9
        exact Hr i pc L st v hd hv rfl
      · cases h9
    rw [cond_eq_ite] at h
    split at h
    · unfold pz_spc at h
      split at h
      · exact ret _ rfl hrow h
      · exact ret _ rfl hrow h
      · exact ret _ rfl hrow h
      · exact ret _ rfl hrow h
      · rename_i idx
        obtain ⟨rfl, r1, r2, r3, r4, r5⟩ := hrow
        rw [cond_eq_ite] at h
        split at h
        · rename_i hlt
          exact pz_inv_ok hT G hst hS Y0 hL hn0 hSc (Or.inl ⟨rfl, rfl⟩) hd (fun Ma hM => r1 Ma (Nat.le_of_ble_eq_true hlt) hM) h
        · exact pz_bi_ok hT G hS Y0 hL hn0 hSc hd r2 r3 r4 r5 h
      · rename_i idx
        obtain ⟨rfl, r1⟩ := hrow
        exact pz_inv_ok hT G hst hS Y0 hL hn0 hSc (Or.inr (Or.inl ⟨rfl, rfl⟩)) hd r1 h
      · rename_i idx
        obtain ⟨rfl, r1, r2⟩ := hrow
        rw [cond_eq_ite] at h
        split at h
        · rename_i hlt
          exact pz_inv_ok hT G hst hS Y0 hL hn0 hSc (Or.inr (Or.inr ⟨rfl, rfl⟩)) hd (fun Ma hM => r1 Ma (Nat.le_of_ble_eq_true hlt) hM) h
        · rename_i hge
          exact pz_oi_ok hT G hS Y0 hL hn0 hSc hd (r2 (Nat.le_of_not_lt fun hq => hge (Nat.ble_eq_true_of_le hq))) h
      · rename_i idx
        obtain ⟨rfl, r1, r2⟩ := hrow
        rw [cond_eq_ite] at h
        split at h
        · rename_i hlt
          exact pz_go_ok hT G hS Y0 hL hn0 hSc hd (r1 (Nat.le_of_ble_eq_true hlt)) (Or.inl rfl) (fun k hk => by cases hk) (fun hf => by cases hf) h
        · rename_i hge
          exact Hx pc L st σ (a - 100) (r2 (Nat.le_of_not_lt fun hq => hge (Nat.ble_eq_true_of_le hq))) h hn0
      · have hrow : n9 = 1 := hrow
        subst hrow
        rw [cond_eq_ite] at h
        split at h
        · rename_i ha
          have ha := Nat.eq_of_beq_eq_true ha
          have hy : y = 632 := Nat.decEq y 632 |>.byContradiction fun hy => h60 hy (Or.inl rfl) ha
          exact pz_scl_ok hS Y0 hL hn0 hy (hSc hy) hd h
        · exact pz_go_ok hT G hS Y0 hL hn0 hSc hd trivial (Or.inl rfl) (fun k hk => by cases hk) (fun hf => by cases hf) h
      · have hrow : n9 = 1 := hrow
        subst hrow
        rw [cond_eq_ite] at h
        split at h
        · rename_i ha
          have ha := Nat.eq_of_beq_eq_true ha
          have hy : y = 632 := Nat.decEq y 632 |>.byContradiction fun hy => h60 hy (Or.inr rfl) ha
          exact pz_scn_ok hS Y0 hL hn0 hy (hSc hy) hd h
        · exact pz_go_ok hT G hS Y0 hL hn0 hSc hd trivial (Or.inl rfl) (fun k hk => by cases hk) (fun hf => by cases hf) h
      · cases h
    · rename_i hf
      obtain ⟨s1, s2, s3⟩ := hns (by cases hq : pz_sp i; rfl; exact absurd hq hf)
      exact pz_go_ok hT G hS Y0 hL hn0 hSc hd s1 s2 s3 (fun hf => by
        rw [Bool.and_eq_true] at hf
        exact ⟨Nat.eq_of_beq_eq_true hf.1, Nat.eq_of_beq_eq_true hf.2⟩) h
