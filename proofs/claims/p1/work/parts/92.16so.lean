/-! calls, and runs by one more: the machine's -/
theorem pz_hnd_sp {pc E h : Nat} : ∀ {hh : List (Nat × Nat × Nat × Nat)}, pz_hnd hh pc E = some h → ∃ pre a b suf, hh = pre ++ (a, b, h, E) :: suf ∧ (a ≤ pc ∧ pc < b) ∧ ∀ z ∈ pre, ¬ ((z.1 ≤ pc ∧ pc < z.2.1) ∧ z.2.2.2 = E)
  | [], hx => by cases hx
  | (a, b, h', k) :: r, hx => by
    unfold pz_hnd at hx
    split at hx
    · rename_i hc
      cases hx
      obtain ⟨hc, rfl⟩ := hc
      exact ⟨[], a, b, r, rfl, hc, fun z hz => by cases hz⟩
    · rename_i hc
      obtain ⟨pre, a', b', suf, e, h1, h2⟩ := pz_hnd_sp hx
      exact ⟨(a, b, h', k) :: pre, a', b', suf, by rw [e]; rfl, h1, fun z hz => by
        rcases List.mem_cons.mp hz with rfl | hz
        · exact hc
        · exact h2 z hz⟩
theorem pz_cov {a b h k pc : Nat} (hc : ¬ (a ≤ pc ∧ pc < b)) : covers ⟨a, b, h, k⟩ pc = false := by
  unfold covers
  simp
  omega
theorem pz_cov2 {a b h k pc : Nat} (hc : a ≤ pc ∧ pc < b) : covers ⟨a, b, h, k⟩ pc = true := by
  unfold covers
  simp
  omega
theorem pz_wd_99 {ad : pz_R → Nat} {σ : pz_S} {ws : va_W} {tys : List (ClassId × FieldType)} {q : Nat} {A : Nat → Prop} (hD : va_D A ws) (hW : pz_wd ad σ ws tys) : pz_wd (pz_adn ad σ.1 (fun _ => q)) (pz_al σ 99 0 0 0 0 (fun _ _ => none)) ws tys :=
  pz_wd_new hW hD (fun _ _ h => h) (fun _ _ h => h) (fun i j hi => by omega) (fun i hi => by omega) (fun i j r h => by cases h)
section SN
variable {p : Program} {l : Launch} {e : Env} {R : Room} {s : State} {m : MethodId} {args : Array Value} {below : List Frame} {meth : Method} {c : Code} {Q : State → Prop}
variable {D : va_G} {A : Nat → Prop} {kc0 ks0 n0 : Nat} {ad0 : pz_R → Nat} {T : pz_Tb} {I : pz_Ib} {y : Nat}
variable {σ σ1 : pz_S} {L : pz_L} {st : List pz_V} {pc : Nat} {o : pz_O} {My : pz_M} {n : Nat}
set_option maxHeartbeats 2000000 in
theorem pz_inv_ok {a k idx : Nat} {ins : Instr} (hT : pz_Tok T I) (G : pz_Gl) (hst : l.stackTraces = false) (hS : pz_Snd l T I n) (Y : pz_Hy p l e R s m args below meth c Q D A kc0 ks0 n0 ad0 I y My σ1 o) (hL : L.length = pz_mL My) (hn0 : n0 ≤ σ.1) (hSc : y = 632 → pz_Sc s A n0 ad0 σ)
    (hi : (k = 0 ∧ ins = .invokestatic idx) ∨ (k = 1 ∧ ins = .invokevirtual idx) ∨ (k = 2 ∧ ins = .invokespecial idx)) (hdg : decode (pz_mB My) pc = .ok (ins, 3)) (hlk : ∀ Ma, I a = some Ma → pz_lkV (pz_mN My).cls idx k (pz_mN Ma) ∧ a ≠ 632) (h : pz_inv I (pz_run T I n) My y pc L st σ a k = some (σ1, o)) : pz_W p l e R s m args below meth c Q D A kc0 ks0 n0 ad0 (pc) (L) (st) (σ) := by
  have Y0 := Y
  obtain ⟨hI, C, hcap, Hr, Hx, Ho⟩ := Y
  obtain ⟨hMyok, hMyh⟩ := hT.1 _ _ hI
  unfold pz_inv at h
  split at h
  · cases h
  rename_i Ma hIa
  obtain ⟨hlk, hne⟩ := hlk Ma hIa
  obtain ⟨hMok, hhok⟩ := hT.1 _ _ hIa
  have hMok := hMok hne
  rw [cond_eq_ite] at h
  split at h
  rotate_left
  · cases h
  rename_i hk
  have hk := Nat.eq_of_beq_eq_true hk
  split at h
  · cases h
  rename_i as rest has
  obtain ⟨rfl, hlen⟩ := pz_args_sp has
  rw [cond_eq_ite] at h
  split at h
  rotate_left
  · cases h
  rename_i hc
  rw [Bool.and_eq_true] at hc
  obtain ⟨hfit, hrc⟩ := hc
  have hfl := (pz_fit_sp hfit).2.2.2
  have hrc' : k ≠ 0 → pz_rcv σ (pz_mT Ma) as = true := fun hk0 => by
    rcases Bool.or_eq_true_iff.mp hrc with h9 | h9
    · exact absurd (Nat.eq_of_beq_eq_true h9) hk0
    · exact h9
  have hlen' : as.length = pz_mP Ma + (if k = 0 then 0 else 1) := by
    rw [hlen]
    by_cases hk0 : k = 0
    · subst hk0; rfl
    · rw [if_neg hk0]
      have : Nat.beq k 0 = false := by
        cases hb : Nat.beq k 0
        · rfl
        · exact absurd (Nat.eq_of_beq_eq_true hb) hk0
      rw [this]; rfl
  cases hr : pz_run T I n a 0 (pz_ent as (pz_mL Ma)) [] σ with
  | none => rw [hr] at h; cases h
  | some q9 =>
  obtain ⟨σ2, o2⟩ := q9
  rw [hr] at h
  have hct := pz_ct_ok hT G hst hS hIa hne hfl hr
  have le1 := pz_run_le hT _ _ _ _ _ _ _ _ hr
  have le2 : pz_le σ2 σ1 := pz_back_le (fun _ _ h2 => by cases h2; exact pz_le_rf) (pz_run_le hT n) h
  have ko : k = 2 → ∃ v, o2 = .inl v := fun hk2 => by
    subst hk2
    rcases o2 with v | E
    · exact ⟨v, rfl⟩
    · cases h
  have hi' : (k = 0 ∧ ins = .invokestatic idx) ∨ (k = 1 ∧ ins = .invokevirtual idx) ∨ (k = 2 ∧ ins = .invokespecial idx ∧ ∃ v, o2 = .inl v) := by
    rcases hi with h9 | h9 | ⟨h9, h8⟩
    · exact Or.inl h9
    · exact Or.inr (Or.inl h9)
    · exact Or.inr (Or.inr ⟨h9, h8, ko h9⟩)
  intro ad ls H locs cells slots hag hE hl hokL hokS
  obtain ⟨ws, tys, hK, hP, hD, hVS, hwd, hkc, hks⟩ := hE
  have hokA : pz_okS σ.1 as := fun v hv => hokS v (List.mem_append_left _ (List.mem_reverse.mpr hv))
  have hokR : pz_okS σ.1 rest := fun v hv => hokS v (List.mem_append_right _ hv)
  have l1 := le1.2.1
  have l2 := le2.2.1
  have hA' : ∀ q, va_A ws H.size q → A q := fun q hq => hq.elim (fun ⟨k9, e9, h9⟩ => hD.2 k9 _ h9) (fun h9 => C.2.2.2.2.2.2.1 q (Nat.le_trans hVS.1 h9))
  have hcall := pz_call (rest := rest) (idx := idx) (k := k) (ins := ins) (ad := ad) (ls := ls) (e := e) (below := below) (cells := cells) (slots := slots) C hMok hk hlk hi' hdg hfit hlen' hrc' hct (hl.1.trans hL) hK hP hD hVS hwd hokA (by omega)
  intro T0 hT0 X
  rcases hcall T0 hT0 X with ⟨v, st₀, t, T', Lc, h0, X', hLc, e1, e2, ⟨⟨ad1, w, ho2, hv, hokw, hag1, ws1, tys1, hP1, hK1, hD1, hwd1⟩, hF⟩, step⟩ | ⟨q, st₀, t, T', Lc, E, ce, h0, X', hLc, e1, e2, ⟨⟨ad1, k9, ho2, hisE, hEe, hag1, ws1, tys1, hP1, hK1, hD1, hwd1⟩, hF⟩, hce, hcv, hcl, step⟩
  · obtain ⟨k1, k2, k3⟩ := vx_keep h0 e1 hVS (fun q _ hq => hA' q hq) hA' hLc hF
    have hal : t.vm.Alike s.vm := by rw [← e2]; exact X'.warmed.alike.symm
    have hE2 : pz_E D s A kc0 ks0 ad1 σ2 T'.heap (locs ++ Lc) (cells + (pz_kc σ2 - pz_kc σ)) (slots + (pz_ks σ2 - pz_ks σ)) :=
      ⟨ws1, tys1, va_K.moved hal hK1, by rw [e1]; exact hP1, hD1.weaken (fun _ _ _ hq => hA' _ hq), k3, hwd1, by omega, by omega⟩
    have hag2 : pz_ag n0 ad0 ad1 := pz_ag_tr hag hag1 hn0
    have hn2 : n0 ≤ σ2.1 := Nat.le_trans hn0 le1.1
    cases ho2
    cases hv
    rcases w with _ | w
    · have kk := hS p e R s m args below meth c Q D A kc0 ks0 n0 ad0 y My σ1 o (pc + 3) L rest σ2 Y0 hL hn2 (fun hy => pz_Sc_le (hSc hy) le1) h
        ad1 ls T'.heap (locs ++ Lc) _ _ hag2 hE2 (pz_lr_ag hag1 hokL hl) (pz_okL_mono le1.1 hokL) (pz_okS_mono le1.1 hokR)
      rw [pz_map_ag hag1 hokR] at kk
      obtain ⟨t2, a1, b1⟩ := kk T' rfl X'
      exact ⟨t2, step t2 a1, b1⟩
    · have kk := hS p e R s m args below meth c Q D A kc0 ks0 n0 ad0 y My σ1 o (pc + 3) L (w :: rest) σ2 Y0 hL hn2 (fun hy => pz_Sc_le (hSc hy) le1) h
        ad1 ls T'.heap (locs ++ Lc) _ _ hag2 hE2 (pz_lr_ag hag1 hokL hl) (pz_okL_mono le1.1 hokL) (pz_okS_c (hokw w rfl) (pz_okS_mono le1.1 hokR))
      rw [List.map_cons, pz_map_ag hag1 hokR] at kk
      obtain ⟨t2, a1, b1⟩ := kk T' rfl X'
      exact ⟨t2, step t2 a1, b1⟩
  · obtain ⟨k1, k2, k3⟩ := vx_keep h0 e1 hVS (fun q _ hq => hA' q hq) hA' hLc hF
    have hal : t.vm.Alike s.vm := by rw [← e2]; exact X'.warmed.alike.symm
    have hE2 : pz_E D s A kc0 ks0 ad1 σ2 T'.heap (locs ++ Lc) (cells + (pz_kc σ2 - pz_kc σ)) (slots + (pz_ks σ2 - pz_ks σ)) :=
      ⟨ws1, tys1, va_K.moved hal hK1, by rw [e1]; exact hP1, hD1.weaken (fun _ _ _ hq => hA' _ hq), k3, hwd1, by omega, by omega⟩
    have hag2 : pz_ag n0 ad0 ad1 := pz_ag_tr hag hag1 hn0
    have hn2 : n0 ≤ σ2.1 := Nat.le_trans hn0 le1.1
    have hce' : T'.heap[q]? = some ce := by rw [e1]; exact hce
    subst hEe
    cases ho2
    have goal : vx_W p l e R s m args below meth c T'.heap (locs ++ Lc) (cells + (pz_kc σ2 - pz_kc σ)) (slots + (pz_ks σ2 - pz_ks σ)) Q (F0 m pc ls (rest.map (pz_cv ad))) q := by
      unfold pz_back at h
      dsimp only at h
      rw [cond_eq_ite] at h
      split at h
      · cases h
      split at h
      · rename_i hd hhd
        obtain ⟨pre, a5, b5, suf, hsp, hcov, hpass⟩ := pz_hnd_sp hhd
        obtain ⟨hst9, hx, hb, hml, hown, hts, hA, hFs, hret, hlk9, hfr, hlo, htab, -⟩ := C
        have hm5 := hMyh (a5, b5, hd, k9) (by rw [hsp]; exact List.mem_append_right _ List.mem_cons_self)
        have h90 : ∀ z, pz_isE z → z ≠ 0 := fun z hz => by rcases hz with rfl | rfl | rfl <;> decide
        have kk := hS p e R s m args below meth c Q D A kc0 ks0 n0 ad0 y My σ1 o hd L [.inr (.inr (some (σ2.1, 0)))] (pz_al σ2 99 0 0 0 0 (fun _ _ => none)) Y0 hL (Nat.le_succ_of_le hn2) (fun hy => pz_Sc_le (hSc hy) (pz_le_tr le1 pz_le_al)) h
          (pz_adn ad1 σ2.1 (fun _ => q)) ls T'.heap (locs ++ Lc) (cells + (pz_kc σ2 - pz_kc σ)) (slots + (pz_ks σ2 - pz_ks σ)) (pz_ag_tr hag2 pz_adn_ag hn2)
          ⟨ws1, tys1, va_K.moved hal hK1, by rw [e1]; exact hP1, hD1.weaken (fun _ _ _ hq => hA' _ hq), k3, pz_wd_99 hD1 hwd1, by show pz_kc σ2 + 0 = _; omega, by show pz_ks σ2 + 0 = _; omega⟩
          (pz_lr_ag pz_adn_ag (pz_okL_mono le1.1 hokL) (pz_lr_ag hag1 hokL hl)) (pz_okL_mono (Nat.le_succ_of_le le1.1) hokL) (pz_okS_c (Nat.lt_succ_self _) (fun v hv => by cases hv))
        have hq : (pz_adn ad1 σ2.1 (fun _ => q)) (σ2.1, 0) = q := if_pos rfl
        refine vx_catch (name := pz_exn k9) (E := pz_exn k9) hown (tableOf pre) ⟨a5, b5, hd, k9⟩ (tableOf suf) (by rw [htab, hsp]; simp [tableOf]) (fun z hz => ?_) (pz_cov2 hcov) (h90 _ hm5.2.1) (hts _ hm5.2.2) (va_Nw.use rfl (hFs.2.1 k9 hisE).1) hce' hcv hcl ?_
        · obtain ⟨x, hx9, rfl⟩ := List.mem_map.mp hz
          have hx5 := hMyh x (by rw [hsp]; exact List.mem_append_left _ hx9)
          by_cases hcv9 : x.1 ≤ pc ∧ pc < x.2.1
          · refine Or.inr ⟨h90 _ hx5.2.1, pz_exn x.2.2.2, hts _ hx5.2.2, ?_⟩
            exact hFs.2.2.1 k9 x.2.2.2 hisE hx5.2.1 (fun e9 => hpass x hx9 ⟨hcv9, e9.symm⟩)
          · exact Or.inl (pz_cov hcv9)
        · have kk' := kk
          rw [List.map_cons, List.map_nil] at kk'
          show W p l e R s m args below meth c T'.heap (locs ++ Lc) _ _ Q (F0 m hd ls [.ref q])
          have e9 : pz_cv (pz_adn ad1 σ2.1 (fun _ => q)) (.inr (.inr (some (σ2.1, 0)))) = .ref q := by
            show va_rf (some ((pz_adn ad1 σ2.1 (fun _ => q)) (σ2.1, 0))) = _
            rw [hq]; rfl
          rw [e9] at kk'
          exact kk'
      · split at h
        · rename_i hH
          cases h
          exact Ho k9 pc ad1 ls T'.heap (locs ++ Lc) _ _ _ ce q rfl hisE hH hn2 hag2 hE2 hce' hcv hcl
        · cases h
    obtain ⟨t2, a1, b1⟩ := goal T' rfl X'
    exact ⟨t2, step.trans a1, b1⟩
end SN
